/-! the class's acts -/
/-- the votes of acceptor a for the slots above lo, up to hi, are forgotten -/
def fgt (g : Mem) (o a lo hi : Nat) : Mem := fun q k => if (q = o + 2 ∨ q = o + 3) ∧ 16 * a + lo ≤ k ∧ k < 16 * a + hi then 0 else g q k
theorem fgt_step (g : Mem) (o a j t : Nat) (h : j < t) : fgt (m_up (m_up g (o + 2) (16 * a + j) 0) (o + 3) (16 * a + j) 0) o a (j + 1) t = fgt g o a j t := by
  funext q k
  unfold fgt
  by_cases hq : (q = o + 2 ∨ q = o + 3) ∧ 16 * a + (j + 1) ≤ k ∧ k < 16 * a + t
  · rw [if_pos hq, if_pos ⟨hq.1, by omega, hq.2.2⟩]
  · rw [if_neg hq]
    by_cases e3 : q = o + 3
    · subst e3
      by_cases ek : k = 16 * a + j
      · subst ek
        rw [mu_eq, if_pos ⟨Or.inr rfl, by omega, by omega⟩]
      · rw [mu_k ek, mu_o (by omega), if_neg (fun z => hq ⟨z.1, by omega, z.2.2⟩)]
    · rw [mu_o e3]
      by_cases e2 : q = o + 2
      · subst e2
        by_cases ek : k = 16 * a + j
        · subst ek
          rw [mu_eq, if_pos ⟨Or.inl rfl, by omega, by omega⟩]
        · rw [mu_k ek, if_neg (fun z => hq ⟨z.1, by omega, z.2.2⟩)]
      · rw [mu_o e2, if_neg (fun z => z.1.elim e2 e3)]
theorem fgt_nil (g : Mem) (o a t : Nat) : fgt g o a t t = g := by
  funext q k
  unfold fgt
  rw [if_neg (by omega)]
theorem lp_C_forget (K : Mem → Option Mem) {o a t : Nat} (ha : a < 6) (ht : t ≤ 16) : ∀ n j g, j ≤ t → t - j < n → f_X2_forgetVotes_L2 K o (nI a) (nI t) n (nI (j + 1)) g = K (fgt g o a j t) := by
  intro n
  induction n with
  | zero => intro j g _ h; omega
  | succ n ih =>
    intro j g hj hn
    rw [f_X2_forgetVotes_L2]
    by_cases h : j = t
    · subst h
      rw [fgt_nil]
      by_cases h16 : j = 16
      · rw [if_pos (by rw [z16]; exact nI_lt (by omega) (by omega))]
      · rw [if_neg (by rw [z16]; exact nI_nlt (by omega) (by omega)), if_pos (nI_lt (by omega) (by omega))]
    · rw [if_neg (by rw [z16]; exact nI_nlt (by omega) (by omega)), if_neg (nI_nlt (by omega) (by omega)), cell_nI (by omega), show 16 * a + (j + 1) - 1 = 16 * a + j from by omega, wr_nI (by omega) (by omega), bnd_some, wr_nI (by omega) (by omega), bnd_some, lt1, nI_1, ih (j + 1) _ (by omega) (by omega), fgt_step _ _ _ _ _ (by omega)]
theorem C_forget {g : Mem} {o a t : Nat} (ha : a < 6) (ht : t ≤ 16) : f_X2_forgetVotes o (nI a) (nI t) g = some (fgt g o a 0 t) := by
  unfold f_X2_forgetVotes
  exact lp_C_forget (fun g6 => some g6) ha ht fuel0 0 g (by omega) (by have := fuel_gt; omega)
/-- the proposer's told votes of acceptor a: those that a has, from slot lo + 1 on -/
def tel (g : Mem) (o p a lo : Nat) : Mem := fun q k => if q = o + 8 ∧ 96 * p + 16 * a + lo ≤ k ∧ k < 96 * p + 16 * a + 16 then g (o + 2) (k - 96 * p) else if q = o + 9 ∧ 96 * p + 16 * a + lo ≤ k ∧ k < 96 * p + 16 * a + 16 then g (o + 3) (k - 96 * p) else g q k
theorem tel_step (g : Mem) (o p a j : Nat) (h : j < 16) : tel (m_up (m_up g (o + 8) (96 * p + 16 * a + j) (g (o + 2) (16 * a + j))) (o + 9) (96 * p + 16 * a + j) (g (o + 3) (16 * a + j))) o p a (j + 1) = tel g o p a j := by
  funext q k
  unfold tel
  rw [mu_o (by omega), mu_o (by omega), mu_o (by omega), mu_o (by omega)]
  by_cases e8 : q = o + 8
  · subst e8
    by_cases hk : 96 * p + 16 * a + (j + 1) ≤ k ∧ k < 96 * p + 16 * a + 16
    · rw [if_pos ⟨rfl, hk⟩, if_pos ⟨rfl, by omega, hk.2⟩]
    · rw [if_neg (fun z => hk z.2), if_neg (fun z => by omega), mu_o (by omega)]
      by_cases ek : k = 96 * p + 16 * a + j
      · subst ek
        rw [mu_eq, if_pos ⟨rfl, by omega, by omega⟩, show 96 * p + 16 * a + j - 96 * p = 16 * a + j from by omega]
      · rw [mu_k ek, if_neg (fun z => hk ⟨by omega, z.2.2⟩), if_neg (fun z => by omega)]
  · rw [if_neg (fun z => e8 z.1), if_neg (c := q = o + 8 ∧ _) (fun z => e8 z.1)]
    by_cases e9 : q = o + 9
    · subst e9
      by_cases hk : 96 * p + 16 * a + (j + 1) ≤ k ∧ k < 96 * p + 16 * a + 16
      · rw [if_pos ⟨rfl, hk⟩, if_pos ⟨rfl, by omega, hk.2⟩]
      · rw [if_neg (fun z => hk z.2)]
        by_cases ek : k = 96 * p + 16 * a + j
        · subst ek
          rw [mu_eq, if_pos ⟨rfl, by omega, by omega⟩, show 96 * p + 16 * a + j - 96 * p = 16 * a + j from by omega]
        · rw [mu_k ek, mu_o (by omega), if_neg (fun z => hk ⟨by omega, z.2.2⟩)]
    · rw [if_neg (fun z => e9 z.1), if_neg (c := q = o + 9 ∧ _) (fun z => e9 z.1), mu_o e9, mu_o e8]
theorem tel_nil (g : Mem) (o p a : Nat) : tel g o p a 16 = g := by
  funext q k
  unfold tel
  rw [if_neg (by omega), if_neg (by omega)]
theorem lp_C_tell (K : Mem → Option Mem) {o p a : Nat} (hp : p < 3) (ha : a < 6) : ∀ n j g, j ≤ 16 → 16 - j < n → f_X2_tellVotes_L10 K o (nI a) (nI (6 * p + a)) n (nI (j + 1)) g = K (tel g o p a j) := by
  intro n
  induction n with
  | zero => intro j g _ h; omega
  | succ n ih =>
    intro j g hj hn
    rw [f_X2_tellVotes_L10]
    by_cases h : j = 16
    · subst h
      rw [tel_nil, if_pos (by rw [z16]; exact nI_lt (by omega) (by omega))]
    · rw [if_neg (by rw [z16]; exact nI_nlt (by omega) (by omega)), cell_nI (by omega), cell_nI (by omega), show 16 * a + (j + 1) - 1 = 16 * a + j from by omega, show 16 * (6 * p + a) + (j + 1) - 1 = 96 * p + 16 * a + j from by omega, rd_nI (by omega) (by omega), bnd_some, wr_nI (by omega) (by omega), bnd_some, rd_nI (by omega) (by omega), bnd_some, wr_nI (by omega) (by omega), bnd_some, lt1, nI_1, ih (j + 1) _ (by omega) (by omega), mu_o (by omega), tel_step _ _ _ _ _ (by omega)]
theorem C_tell {g : Mem} {o p a : Nat} (hp : p < 3) (ha : a < 6) : f_X2_tellVotes o (nI p) (nI a) g = some (tel g o p a 0) := by
  unfold f_X2_tellVotes
  rw [lt1, z6, pk_mul, nI_add, Nat.mul_comm p 6]
  exact lp_C_tell (fun g8 => some g8) hp ha fuel0 0 g (by omega) (by have := fuel_gt; omega)
/-- the proposer's offers are forgotten -/
def ofr (g : Mem) (o p lo : Nat) : Mem := fun q k => if q = o + 7 ∧ 16 * p + lo ≤ k ∧ k < 16 * p + 16 then 0 else g q k
theorem ofr_step (g : Mem) (o p j : Nat) (h : j < 16) : ofr (m_up g (o + 7) (16 * p + j) 0) o p (j + 1) = ofr g o p j := by
  funext q k
  unfold ofr
  by_cases e : q = o + 7
  · subst e
    by_cases hk : 16 * p + (j + 1) ≤ k ∧ k < 16 * p + 16
    · rw [if_pos ⟨rfl, hk⟩, if_pos ⟨rfl, by omega, hk.2⟩]
    · rw [if_neg (fun z => hk z.2)]
      by_cases ek : k = 16 * p + j
      · subst ek
        rw [mu_eq, if_pos ⟨rfl, by omega, by omega⟩]
      · rw [mu_k ek, if_neg (fun z => hk ⟨by omega, z.2.2⟩)]
  · rw [if_neg (fun z => e z.1), if_neg (fun z => e z.1), mu_o e]
theorem ofr_nil (g : Mem) (o p : Nat) : ofr g o p 16 = g := by
  funext q k
  unfold ofr
  rw [if_neg (by omega)]
theorem lp_C_offers (K : Mem → Option (Int32 × Mem)) {o p : Nat} {v : Int32} (hp : p < 3) : ∀ n j g, j ≤ 16 → 16 - j < n → f_X2_startBallot_L41 K o (nI p) v n (nI (j + 1)) g = K (ofr g o p j) := by
  intro n
  induction n with
  | zero => intro j g _ h; omega
  | succ n ih =>
    intro j g hj hn
    rw [f_X2_startBallot_L41]
    by_cases h : j = 16
    · subst h
      rw [ofr_nil, if_pos (by rw [z16]; exact nI_lt (by omega) (by omega))]
    · rw [if_neg (by rw [z16]; exact nI_nlt (by omega) (by omega)), cell_nI (by omega), show 16 * p + (j + 1) - 1 = 16 * p + j from by omega, wr_nI (by omega) (by omega), bnd_some, lt1, nI_1, ih (j + 1) _ (by omega) (by omega), ofr_step _ _ _ _ (by omega)]
