/-! p25: digest() is a number that the row alone makes -/
section DIGEST
variable {τ : Row}
def DG (g : Mem) (τ : Row) : Prop := CR g 1 τ ∧ ∃ hn tn, g 25 2 = nI hn ∧ g 87 1 = nI tn
theorem D_count {g : Mem} (h : RI τ) (hG : DG g τ) {j : Nat} (hj : j < 9) : f_X4_count (nI j) g = some (o_count (nI j) τ 0 0) := by
  obtain ⟨hC, hn, tn, h1, h2⟩ := hG
  rw [C_count hC h h1 h2]
  have e9 : ¬ nI j = 9 := by
    rw [show (9 : Int32) = nI 9 from rfl, nI_eq (by omega) (by omega)]
    omega
  have e10 : ¬ nI j = 10 := by
    rw [show (10 : Int32) = nI 10 from rfl, nI_eq (by omega) (by omega)]
    omega
  unfold o_count
  simp only [if_neg e9, if_neg e10]
theorem D_6 (h : RI τ) : ∀ n j acc, j ≤ 9 → 9 - j < n → ∃ acc' : Int64, ∀ g K, DG g τ → f_L_digest_L6 K g n acc (nI j) = K acc' := by
  intro n
  induction n with
  | zero => intro j acc _ hn; exact absurd hn (Nat.not_lt_zero _)
  | succ n ih =>
    intro j acc hj hn
    by_cases e : j = 9
    · subst e
      refine ⟨acc, fun g K hG => ?_⟩
      rw [f_L_digest_L6, if_pos (by decide)]
    · obtain ⟨r, hr⟩ := ih (j + 1) (31 * acc + (o_count (nI j) τ 0 0).toInt64) (by omega) (by omega)
      refine ⟨r, fun g K hG => ?_⟩
      rw [f_L_digest_L6, if_neg (by rw [show (9 : Int32) = nI 9 from rfl]; exact nI_ge (by omega) (by omega)), D_count h hG (by omega), bnd_some, lt1, lt1, nI_1]
      exact hr g K hG
theorem D_56 (h : RI τ) {a : Nat} (ha : a < 6) : ∀ n i acc, i ≤ 7 → 7 - i < n → ∃ acc' : Int64, ∀ g K, DG g τ → f_L_digest_L56 K (nI a) g n acc (nI (i + 1)) = K acc' := by
  intro n
  induction n with
  | zero => intro j acc _ hn; exact absurd hn (Nat.not_lt_zero _)
  | succ n ih =>
    intro j acc hj hn
    by_cases e : j = 7
    · subst e
      refine ⟨acc, fun g K hG => ?_⟩
      rw [f_L_digest_L56, if_pos (by decide)]
    · obtain ⟨r, hr⟩ := ih (j + 1) (31 * acc + 7 * (orN (τ (12 + 2 * (16 * a + j)))).toInt64 + (if τ (12 + 2 * (16 * a + j)) = 0 then -5 else nI (τ (13 + 2 * (16 * a + j))) : Int32).toInt64) (by omega) (by omega)
      refine ⟨r, fun g K hG => ?_⟩
      rw [f_L_digest_L56, if_neg (by rw [show (8 : Int32) = nI 8 from rfl]; exact nI_ge (by omega) (by omega)), R_v0 hG.1 h ha (by omega), bnd_some, R_v1 hG.1 h ha (by omega), bnd_some, lt1, lt1, nI_1]
      exact hr g K hG
theorem D_33 (h : RI τ) : ∀ n a acc, a ≤ 6 → 6 - a < n → ∃ acc' : Int64, ∀ g K, DG g τ → f_L_digest_L33 K g n acc (nI a) = K acc' := by
  intro n
  induction n with
  | zero => intro j acc _ hn; exact absurd hn (Nat.not_lt_zero _)
  | succ n ih =>
    intro a acc hj hn
    by_cases e : a = 6
    · subst e
      refine ⟨acc, fun g K hG => ?_⟩
      rw [f_L_digest_L33, if_pos (by decide)]
    · obtain ⟨m, hm⟩ := D_56 h (a := a) (by omega) fuel0 0 (31 * acc + (nI (τ (6 + a))).toInt64) (by omega) (by have := fuel_gt; omega)
      obtain ⟨r, hr⟩ := ih (a + 1) m (by omega) (by omega)
      refine ⟨r, fun g K hG => ?_⟩
      rw [f_L_digest_L33, if_neg (by rw [z6]; exact nI_ge (by omega) (by omega)), R_a1 hG.1 h (by omega), bnd_some, lt1]
      refine (hm g _ hG).trans ?_
      rw [lt1, nI_1]
      exact hr g K hG
theorem D_115 (h : RI τ) {p : Nat} (hp : p < 3) : ∀ n j acc, j ≤ 4 → 4 - j < n → ∃ acc' : Int64, ∀ g K, DG g τ → f_L_digest_L115 K (nI p) g n acc (nI j) = K acc' := by
  intro n
  induction n with
  | zero => intro j acc _ hn; exact absurd hn (Nat.not_lt_zero _)
  | succ n ih =>
    intro j acc hj hn
    by_cases e : j = 4
    · subst e
      refine ⟨acc, fun g K hG => ?_⟩
      rw [f_L_digest_L115, if_pos (by decide)]
    · obtain ⟨r, hr⟩ := ih (j + 1) (31 * acc + (o_proposer (nI p) (nI j) τ).toInt64) (by omega) (by omega)
      refine ⟨r, fun g K hG => ?_⟩
      rw [f_L_digest_L115, if_neg (by rw [z4]; exact nI_ge (by omega) (by omega)), C_proposer hG.1 h, bnd_some, lt1, lt1, nI_1]
      exact hr g K hG
theorem D_145 (h : RI τ) {p : Nat} (hp : p < 3) : ∀ n i acc, i ≤ 7 → 7 - i < n → ∃ acc' : Int64, ∀ g K, DG g τ → f_L_digest_L145 K (nI p) g n acc (nI (i + 1)) = K acc' := by
  intro n
  induction n with
  | zero => intro j acc _ hn; exact absurd hn (Nat.not_lt_zero _)
  | succ n ih =>
    intro j acc hj hn
    by_cases e : j = 7
    · subst e
      refine ⟨acc, fun g K hG => ?_⟩
      rw [f_L_digest_L145, if_pos (by decide)]
    · obtain ⟨r, hr⟩ := ih (j + 1) (31 * acc + 7 * (o_proposed (nI p) (nI (j + 1)) 0 τ).toInt64 + (o_proposed (nI p) (nI (j + 1)) 1 τ).toInt64) (by omega) (by omega)
      refine ⟨r, fun g K hG => ?_⟩
      rw [f_L_digest_L145, if_neg (by rw [show (8 : Int32) = nI 8 from rfl]; exact nI_ge (by omega) (by omega)), C_proposed hG.1 h, bnd_some, C_proposed hG.1 h, bnd_some, lt1, lt1, nI_1]
      exact hr g K hG
theorem D_107 (h : RI τ) : ∀ n p acc, p ≤ 3 → 3 - p < n → ∃ acc' : Int64, ∀ g K, DG g τ → f_L_digest_L107 K g n acc (nI p) = K acc' := by
  intro n
  induction n with
  | zero => intro j acc _ hn; exact absurd hn (Nat.not_lt_zero _)
  | succ n ih =>
    intro p acc hj hn
    by_cases e : p = 3
    · subst e
      refine ⟨acc, fun g K hG => ?_⟩
      rw [f_L_digest_L107, if_pos (by decide)]
    · obtain ⟨m, hm⟩ := D_115 h (p := p) (by omega) fuel0 0 acc (by omega) (by have := fuel_gt; omega)
      obtain ⟨m2, hm2⟩ := D_145 h (p := p) (by omega) fuel0 0 m (by omega) (by have := fuel_gt; omega)
      obtain ⟨r, hr⟩ := ih (p + 1) m2 (by omega) (by omega)
      refine ⟨r, fun g K hG => ?_⟩
      rw [f_L_digest_L107, if_neg (by rw [z3]; exact nI_ge (by omega) (by omega))]
      refine (hm g _ hG).trans ((hm2 g _ hG).trans ?_)
      rw [lt1, nI_1]
      exact hr g K hG
theorem D_196 (h : RI τ) : ∀ n i acc, i ≤ 16 → 16 - i < n → ∃ acc' : Int64, ∀ g K, DG g τ → f_L_digest_L196 K g n acc (nI (i + 1)) = K acc' := by
  intro n
  induction n with
  | zero => intro j acc _ hn; exact absurd hn (Nat.not_lt_zero _)
  | succ n ih =>
    intro j acc hj hn
    by_cases e : j = 16
    · subst e
      refine ⟨acc, fun g K hG => ?_⟩
      rw [f_L_digest_L196, if_pos (by decide)]
    · obtain ⟨r, hr⟩ := ih (j + 1) (31 * acc + 7 * (o_slot (nI (j + 1)) 0 τ).toInt64 + (o_slot (nI (j + 1)) 1 τ).toInt64) (by omega) (by omega)
      refine ⟨r, fun g K hG => ?_⟩
      rw [f_L_digest_L196, if_neg (by rw [show (17 : Int32) = nI 17 from rfl]; exact nI_ge (by omega) (by omega)), C_slot hG.1 h, bnd_some, C_slot hG.1 h, bnd_some, lt1, lt1, nI_1]
      exact hr g K hG
theorem L_digest_of (h : RI τ) : ∃ d : Int64, ∀ g, DG g τ → f_L_digest g = some d := by
  obtain ⟨d1, h1⟩ := D_6 h fuel0 0 163 (by omega) (by have := fuel_gt; omega)
  obtain ⟨d2, h2⟩ := D_33 h fuel0 0 d1 (by omega) (by have := fuel_gt; omega)
  obtain ⟨d3, h3⟩ := D_107 h fuel0 0 d2 (by omega) (by have := fuel_gt; omega)
  obtain ⟨d4, h4⟩ := D_196 h fuel0 0 d3 (by omega) (by have := fuel_gt; omega)
  refine ⟨d4, fun g hG => ?_⟩
  unfold f_L_digest
  exact (h1 g _ hG).trans ((h2 g _ hG).trans ((h3 g _ hG).trans (h4 g _ hG)))
theorem RC_DG {g : Mem} {hn : Nat} {hist : Nat → Row} {kf : Bool} {sn : Row} {tn : Nat} {txt : Nat → Nat} {rf : Option (Nat × Int32 × Nat)} (hR : RC g (τ, hn, hist, kf, sn, tn, txt, rf)) : DG g τ := ⟨hR.1, hn, tn, hR.2.2.1, hR.2.2.2.2.2.1⟩
theorem lg_cmp_rf (x : Int64) : lg_cmp x x = 0 := by
  unfold lg_cmp
  simp
end DIGEST
