/-! loops that count, and the class's readers -/
theorem cnt_loop {β : Type} (F : Nat → Int32 → Int32 → Option β) (K : Int32 → Option β) (P : Nat → Bool) (N : Nat) (h0 : ∀ n acc, F (n + 1) acc (nI (N + 1)) = K acc) (h1 : ∀ n acc j, j < N → F (n + 1) acc (nI (j + 1)) = F n (if P j then acc + 1 else acc) (nI (j + 2))) : ∀ n j, j ≤ N → N - j < n → F n (nI (cntN P j)) (nI (j + 1)) = K (nI (cntN P N)) := by
  intro n
  induction n with
  | zero => intro j _ h; omega
  | succ n ih =>
    intro j hj hn
    by_cases h : j = N
    · subst h; exact h0 n _
    · rw [h1 n _ j (by omega)]
      have := ih (j + 1) (by omega) (by omega)
      rw [← this]
      congr 1
      rw [cntN]
      by_cases hp : P j
      · rw [if_pos hp, if_pos hp, nI_succ]
      · rw [if_neg hp, if_neg hp]; rfl
theorem cntN_congr {P Q : Nat → Bool} : ∀ n, (∀ i, i < n → P i = Q i) → cntN P n = cntN Q n := by
  intro n
  induction n with
  | zero => intro _; rfl
  | succ n ih =>
    intro h
    rw [cntN, cntN, ih (fun i hi => h i (by omega)), h n (by omega)]
theorem cntN_le (P : Nat → Bool) : ∀ n, cntN P n ≤ n := by
  intro n
  induction n with
  | zero => exact Nat.le_refl 0
  | succ n ih => rw [cntN]; split <;> omega
theorem nI_z {x : Nat} (h : x < 2 ^ 31) : nI x = 0 ↔ x = 0 := by rw [z0]; exact nI_eq h (by omega)
theorem C_votesOf {g : Mem} {o : Nat} {τ : Row} (hC : CR g o τ) (h : RI τ) {a t : Nat} (ha : a < 6) (ht : t ≤ 16) : f_X2_votesOf o (nI a) (nI t) g = some (nI (cntN (fun j => decide (τ (12 + 2 * (16 * a + j)) ≠ 0)) t)) := by
  unfold f_X2_votesOf
  obtain ⟨-, -, -, -, -, -, hvb, -⟩ := hC
  have key := cnt_loop (fun n v3 v4 => f_X2_votesOf_L5 (fun x8 => some x8) o (nI a) (nI t) g n v3 v4) (fun x => some x) (fun j => decide (τ (12 + 2 * (16 * a + j)) ≠ 0)) t ?_ ?_ fuel0 0 (by omega) (by have := fuel_gt; omega)
  · exact key
  · intro n acc
    show f_X2_votesOf_L5 _ _ _ _ _ _ _ _ = _
    rw [f_X2_votesOf_L5]
    by_cases h16 : t = 16
    · subst h16
      rw [if_pos (by rw [z16]; exact nI_lt (by omega) (by omega))]
    · rw [if_neg (by rw [z16]; exact nI_nlt (by omega) (by omega)), if_pos (nI_lt (by omega) (by omega))]
  · intro n acc j hj
    show f_X2_votesOf_L5 _ _ _ _ _ _ _ _ = f_X2_votesOf_L5 _ _ _ _ _ _ _ _
    have h1 := hvb (16 * a + j) (by omega)
    have h2 := h.1 (12 + 2 * (16 * a + j)) (by omega)
    rw [f_X2_votesOf_L5, if_neg (by rw [z16]; exact nI_nlt (by omega) (by omega)), if_neg (nI_nlt (by omega) (by omega)), cell_nI (by omega), show 16 * a + (j + 1) - 1 = 16 * a + j from by omega, rd_nI (by omega) (by omega), bnd_some, h1]
    unfold lt1
    rw [nI_1]
    by_cases h3 : τ (12 + 2 * (16 * a + j)) = 0
    · rw [if_pos ((nI_z (by omega)).mpr h3), if_neg (by simp [h3])]
    · rw [if_neg (fun q => h3 ((nI_z (by omega)).mp q)), if_pos (by simp [h3])]
theorem C_offersOf {g : Mem} {o : Nat} {τ : Row} (hC : CR g o τ) (h : RI τ) {p : Nat} (hp : p < 3) : f_X2_offersOf o (nI p) g = some (nI (cntN (fun j => decide (τ (789 + (16 * p + j)) ≠ 0)) 16)) := by
  unfold f_X2_offersOf
  obtain ⟨-, -, -, -, -, -, -, -, -, -, -, hof, -⟩ := hC
  have key := cnt_loop (fun n v3 v4 => f_X2_offersOf_L4 (fun x8 => some x8) o (nI p) g n v3 v4) (fun x => some x) (fun j => decide (τ (789 + (16 * p + j)) ≠ 0)) 16 ?_ ?_ fuel0 0 (by omega) (by have := fuel_gt; omega)
  · exact key
  · intro n acc
    show f_X2_offersOf_L4 _ _ _ _ _ _ _ = _
    rw [f_X2_offersOf_L4, if_pos (by rw [z16]; exact nI_lt (by omega) (by omega))]
  · intro n acc j hj
    show f_X2_offersOf_L4 _ _ _ _ _ _ _ = f_X2_offersOf_L4 _ _ _ _ _ _ _
    have h1 := hof (16 * p + j) (by omega)
    have h2 := h.1 (789 + (16 * p + j)) (by omega)
    rw [f_X2_offersOf_L4, if_neg (by rw [z16]; exact nI_nlt (by omega) (by omega)), cell_nI (by omega), show 16 * p + (j + 1) - 1 = 16 * p + j from by omega, rd_nI (by omega) (by omega), bnd_some, h1]
    unfold lt1
    rw [nI_1]
    by_cases h3 : τ (789 + (16 * p + j)) = 0
    · rw [if_pos ((nI_z (by omega)).mpr h3), if_neg (by simp [h3])]
    · rw [if_neg (fun q => h3 ((nI_z (by omega)).mp q)), if_pos (by simp [h3])]
theorem C_chosenAbove {g : Mem} {o : Nat} {τ : Row} (hC : CR g o τ) (h : RI τ) {b : Nat} (hb : b ≤ 1000) : f_X2_chosenAbove o (nI b) g = some (nI (cntN (fun j => decide (b < τ (837 + j))) 16)) := by
  unfold f_X2_chosenAbove
  obtain ⟨-, -, -, -, -, -, -, -, -, -, -, -, -, hcv, -⟩ := hC
  have key := cnt_loop (fun n v3 v4 => f_X2_chosenAbove_L4 (fun x8 => some x8) o (nI b) g n v3 v4) (fun x => some x) (fun j => decide (b < τ (837 + j))) 16 ?_ ?_ fuel0 0 (by omega) (by have := fuel_gt; omega)
  · exact key
  · intro n acc
    show f_X2_chosenAbove_L4 _ _ _ _ _ _ _ = _
    rw [f_X2_chosenAbove_L4, if_pos (by rw [z16]; exact nI_lt (by omega) (by omega))]
  · intro n acc j hj
    show f_X2_chosenAbove_L4 _ _ _ _ _ _ _ = f_X2_chosenAbove_L4 _ _ _ _ _ _ _
    have h1 := hcv j hj
    have h2 := h.1 (837 + j) (by omega)
    rw [f_X2_chosenAbove_L4, if_neg (by rw [z16]; exact nI_nlt (by omega) (by omega)), rd_nI (by omega) (by omega), bnd_some, h1]
    unfold lt1
    rw [nI_1]
    by_cases h3 : b < τ (837 + j)
    · rw [if_neg (nI_ge h3 (by omega)), if_pos (by simp [h3])]
    · rw [if_pos (nI_le (by omega) (by omega)), if_neg (by simp [h3])]
/-! sets of acceptors -/
set_option maxRecDepth 100000 in
theorem or_hs : ∀ k, k < 64 → ∀ a, a < 6 → ∀ i, i < 6 → hs (if hs k a then k else k + 2 ^ a) i = (hs k i || i == a) := by decide +kernel
set_option maxRecDepth 100000 in
theorem pc_cnt : ∀ k, k < 64 → pc k = cntN (hs k) 6 := by decide +kernel
theorem hs_0 (i : Nat) : hs 0 i = false := by simp [hs]
theorem lp_C_vfor {g : Mem} {o : Nat} {τ : Row} (hvb : ∀ i, i < 96 → g (o + 2) i = nI (τ (12 + 2 * i))) (h : RI τ) (K : Int32 → Option Int32) {v s b : Nat} (hv : v < 64) (hs1 : 1 ≤ s) (hs2 : s ≤ 16) (hb : b < 2 ^ 31) : ∀ n a k, a ≤ 6 → 6 - a < n → k < 64 → (∀ i, i < 6 → hs k i = (decide (i < a) && (hs v i && decide (τ (12 + 2 * (16 * i + s - 1)) = b)))) → ∃ k', k' < 64 ∧ (∀ i, i < 6 → hs k' i = (hs v i && decide (τ (12 + 2 * (16 * i + s - 1)) = b))) ∧ f_X2_votersFor_L12 K o (nI s) (nI b) (nI v) g n (nI k) (nI a) = K (nI k') := by
  intro n
  induction n with
  | zero => intro a k _ h; omega
  | succ n ih =>
    intro a k ha hn hk hm
    rw [f_X2_votersFor_L12]
    by_cases h6 : a = 6
    · subst h6
      refine ⟨k, hk, fun i hi => ?_, ?_⟩
      · rw [hm i hi, decide_eq_true hi, Bool.true_and]
      · rw [if_pos (by rw [z6]; exact nI_le (by omega) (by omega))]
    · have h1 := hvb (16 * a + s - 1) (by omega)
      have h2 := h.1 (12 + 2 * (16 * a + s - 1)) (by omega)
      have step : ∀ k2, k2 < 64 → (∀ i, i < 6 → hs k2 i = (decide (i < a + 1) && (hs v i && decide (τ (12 + 2 * (16 * i + s - 1)) = b)))) → _ := fun k2 hk2 hm2 => ih (a + 1) k2 (by omega) (by omega) hk2 hm2
      have hne : ∀ i, i < 6 → i ≠ a → decide (i < a + 1) = decide (i < a) := fun i _ hia => by
        by_cases q : i < a
        · rw [decide_eq_true q, decide_eq_true (by omega)]
        · rw [decide_eq_false q, decide_eq_false (by omega)]
      rw [if_neg (by rw [z6]; exact nI_ge (by omega) (by omega)), has_nI v hv a (by omega)]
      unfold lt1
      rw [nI_1]
      cases hva : hs v a with
      | false =>
        rw [if_neg (by simp)]
        refine step k hk (fun i hi => ?_)
        by_cases hia : i = a
        · subst hia
          rw [hm i hi, hva]; simp
        · rw [hm i hi, hne i hi hia]
      | true =>
        rw [if_pos rfl, cell_nI hs1, rd_nI (by omega) (by omega), bnd_some, h1]
        by_cases hq : τ (12 + 2 * (16 * a + s - 1)) = b
        · rw [if_pos (by rw [hq]), or_nI k hk a (by omega)]
          refine step _ (or_lt k hk a (by omega)) (fun i hi => ?_)
          rw [or_hs k hk a (by omega) i hi]
          by_cases hia : i = a
          · subst hia
            rw [hva, hq]; simp
          · rw [hm i hi, hne i hi hia]; simp [hia]
        · rw [if_neg (fun q => hq ((nI_eq (by omega) hb).mp q))]
          refine step k hk (fun i hi => ?_)
          by_cases hia : i = a
          · subst hia
            rw [hm i hi]; simp [hq]
          · rw [hm i hi, hne i hi hia]
theorem C_votersFor {g : Mem} {o : Nat} {τ : Row} (hC : CR g o τ) (h : RI τ) {s b : Nat} (hs1 : 1 ≤ s) (hs2 : s ≤ 16) (hb : b < 2 ^ 31) : ∃ k, k < 64 ∧ (∀ i, i < 6 → hs k i = (hs (vo τ s) i && decide (τ (12 + 2 * (16 * i + s - 1)) = b))) ∧ f_X2_votersFor o (nI s) (nI b) g = some (nI k) := by
  unfold f_X2_votersFor
  rw [C_voters hC h hs2, bnd_some]
  obtain ⟨-, -, -, -, -, -, hvb, -⟩ := hC
  exact lp_C_vfor hvb h (fun x10 => some x10) (vo_lt h hs2) hs1 hs2 hb fuel0 0 0 (by omega) (by have := fuel_gt; omega) (by omega) (fun i hi => by rw [hs_0]; simp)
/-- how many could still vote for b -/
def cld (τ : Row) (s b : Nat) : Nat := cntN (fun i => hs (vo τ s) i && (decide (τ (12 + 2 * (16 * i + s - 1)) = b) || decide (τ (6 + i) ≤ b))) 6
theorem imax0 {a b : Nat} (ha : a < 2 ^ 30) (hb : b < 2 ^ 30) : imax 0 (nI a - nI b) = nI (a - b) := by
  unfold imax
  by_cases h : b < a
  · rw [pk_sub (by omega), if_pos (by rw [z0]; exact nI_lt (by omega) (by omega))]
  · rw [show a - b = 0 from by omega, if_neg]
    · rfl
    · intro q
      have := Int32.lt_iff_toInt_lt.mp q
      rw [pk_sub_toInt ha hb] at this
      simp at this
      omega
theorem C_missing {g : Mem} {o : Nat} {τ : Row} (hC : CR g o τ) (h : RI τ) {p s : Nat} (hp : p < 3) (hs2 : s ≤ 16) : f_X2_promisesMissing o (nI p) (nI s) g = some (nI (lack τ p s)) := by
  unfold f_X2_promisesMissing
  have hv := vo_lt h hs2
  have h1 := h.2.2.1 p hp
  have h2 := pc_le (vo τ s)
  have h3 := pc_le (τ (210 + p) &&& vo τ s)
  rw [C_voters hC h hs2, bnd_some, rd_nI hp (by omega), bnd_some, hC.2.2.2.2.2.2.2.2.2.2.1 p hp, C_first hC h hv, and_nI _ h1 _ hv, bc_nI _ (and_lt _ h1 _ hv), imax0 (by omega) (by omega), Nat.and_comm]
  rfl
theorem lp_C_bound {g : Mem} {o : Nat} {τ : Row} (hC : CR g o τ) (h : RI τ) (K : Int32 → Option Int32) {p s set : Nat} (hp : p < 3) (hs1 : 1 ≤ s) (hs2 : s ≤ 16) (hset : set < 64) (hsub : ∀ i, i < 6 → hs set i = true → hs (τ (210 + p)) i = true) : ∀ n a, a ≤ 6 → 6 - a < n → f_X2_boundValue_L22 K o (nI p) (nI s) (nI set) g n (nI (bdN τ p s set a).1) (nI (bdN τ p s set a).2) (nI a) = K (nI (bdN τ p s set 6).2) := by
  intro n
  induction n with
  | zero => intro a _ h; omega
  | succ n ih =>
    intro a ha hn
    rw [f_X2_boundValue_L22]
    by_cases h6 : a = 6
    · subst h6
      rw [if_pos (by rw [z6]; exact nI_le (by omega) (by omega))]
    · have hbd : ∀ a, a ≤ 6 → (bdN τ p s set a).1 ≤ 999 := by
        intro a
        induction a with
        | zero => intro _; exact Nat.zero_le _
        | succ a ih2 =>
          intro ha2
          have h2 := ih2 (by omega)
          have h3 := h.1 (213 + 2 * (96 * p + 16 * a + s - 1)) (by omega)
          rw [bdN]
          split
          · exact h3
          · exact h2
      have h0 := hbd a ha
      rw [if_neg (by rw [z6]; exact nI_ge (by omega) (by omega)), has_nI set hset a (by omega)]
      unfold lt1
      have e1 : f_X4_cell ((nI p) * 6 + nI a) (nI s) = nI (96 * p + 16 * a + s - 1) := by
        rw [z6, pk_mul, nI_add, cell_nI hs1]
        congr 1
        omega
      rw [e1, nI_1]
      dsimp only
      have step := ih (a + 1) (by omega) (by omega)
      cases hva : hs set a with
      | false =>
        rw [if_neg (by simp)]
        have e2 : bdN τ p s set (a + 1) = bdN τ p s set a := by rw [bdN, if_neg (by simp [hva])]
        rw [e2] at step
        exact step
      | true =>
        have ht := hC.2.2.2.2.2.2.2.2.2.2.2.2.1 p a (s - 1) hp (by omega) (by omega) (hsub a (by omega) hva)
        rw [show 96 * p + 16 * a + (s - 1) = 96 * p + 16 * a + s - 1 from by omega] at ht
        have h3 := h.1 (213 + 2 * (96 * p + 16 * a + s - 1)) (by omega)
        rw [if_pos rfl, rd_nI (by omega) (by omega), bnd_some, ht.1]
        by_cases hq : (bdN τ p s set a).1 < τ (213 + 2 * (96 * p + 16 * a + s - 1))
        · have e2 : bdN τ p s set (a + 1) = (τ (213 + 2 * (96 * p + 16 * a + s - 1)), τ (214 + 2 * (96 * p + 16 * a + s - 1))) := by rw [bdN, if_pos ⟨hva, hq⟩]
          rw [if_neg (nI_ge hq (by omega)), bnd_some, rd_nI (by omega) (by omega), bnd_some, ht.2]
          rw [e2] at step
          exact step
        · have e2 : bdN τ p s set (a + 1) = bdN τ p s set a := by rw [bdN, if_neg (fun q => hq q.2)]
          rw [if_pos (nI_le (by omega) (by omega))]
          rw [e2] at step
          exact step
set_option maxRecDepth 100000 in
theorem and_hs : ∀ k, k < 64 → ∀ j, j < 64 → ∀ i, i < 6 → hs (k &&& j) i = (hs k i && hs j i) := by decide +kernel
theorem C_bound0 {g : Mem} {o : Nat} {τ : Row} (hC : CR g o τ) (h : RI τ) {p s set : Nat} (hp : p < 3) (hs1 : 1 ≤ s) (hs2 : s ≤ 16) (hset : set < 64) (hsub : ∀ i, i < 6 → hs set i = true → hs (τ (210 + p)) i = true) : f_X2_boundValue_L22 (fun x14 => some x14) o (nI p) (nI s) (nI set) g fuel0 0 0 0 = some (nI (bdN τ p s set 6).2) := by
  have hf : 6 - 0 < fuel0 := by have := fuel_gt; omega
  generalize fuel0 = N at hf ⊢
  have key := lp_C_bound hC h (fun x14 => some x14) hp hs1 hs2 hset hsub N 0 (by omega) hf
  have e : bdN τ p s set 0 = (0, 0) := rfl
  rw [e] at key
  exact key
theorem C_bound {g : Mem} {o : Nat} {τ : Row} (hC : CR g o τ) (h : RI τ) {p s : Nat} (hp : p < 3) (hs1 : 1 ≤ s) (hs2 : s ≤ 16) : f_X2_boundValue o (nI p) (nI s) g = some (nI (bound τ p s)) := by
  unfold f_X2_boundValue
  have hv := vo_lt h hs2
  have h1 := h.2.2.1 p hp
  rw [rd_nI hp (by omega), bnd_some, hC.2.2.2.2.2.2.2.2.2.2.1 p hp, C_voters hC h hs2, bnd_some, and_nI _ h1 _ hv]
  rw [lt1, bound, Nat.and_comm]
  have hx : vo τ s &&& τ (210 + p) < 64 := and_lt _ hv _ h1
  exact C_bound0 hC h hp hs1 hs2 hx (fun i hi hq => by rw [and_hs _ hv _ h1 i hi] at hq; simp at hq; exact hq.2)
