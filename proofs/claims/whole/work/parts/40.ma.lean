/-! THE REFERENCE tells what the rows tell -/
theorem noA_eq (a : Int32) : f_X5_noAcceptor a = !f_X4_isAcceptor a := by
  unfold f_X5_noAcceptor f_X5_in f_X4_isAcceptor
  by_cases h1 : a < 0
  · simp [h1]
  · obtain ⟨j, hj, rfl⟩ := nI_of h1
    rw [if_neg h1, if_neg h1, z5, z6]
    by_cases h2 : 5 < j
    · rw [if_pos (nI_lt h2 hj), if_pos (nI_le (by omega) hj)]; rfl
    · rw [if_neg (nI_nlt (by omega) (by omega)), if_neg (nI_ge (by omega) (by omega))]; rfl
theorem noP_eq (a : Int32) : f_X5_noProposer a = !f_X4_isProposer a := by
  unfold f_X5_noProposer f_X5_in f_X4_isProposer
  by_cases h1 : a < 0
  · simp [h1]
  · obtain ⟨j, hj, rfl⟩ := nI_of h1
    rw [if_neg h1, if_neg h1, z2, z3]
    by_cases h2 : 2 < j
    · rw [if_pos (nI_lt h2 hj), if_pos (nI_le (by omega) hj)]; rfl
    · rw [if_neg (nI_nlt (by omega) (by omega)), if_neg (nI_ge (by omega) (by omega))]; rfl
theorem noS_eq (a : Int32) : f_X5_noSlot a = !f_X4_isSlot a := by
  unfold f_X5_noSlot f_X5_in f_X4_isSlot
  by_cases h1 : a < 1
  · simp [h1]
  · by_cases h2 : 16 < a <;> simp [h1, h2]
theorem in16_eq (a : Int32) : f_X5_in a 1 6 = f_X4_isSize a := rfl
theorem voteAt_nI {a s : Nat} (h : 1 ≤ s) : f_X5_voteAt (nI a) (nI s) = nI (12 + 2 * (16 * a + s - 1)) := by
  unfold f_X5_voteAt
  rw [z16, z1, z2, z12, pk_mul, nI_add, pk_sub (by omega), pk_mul, nI_add]
theorem toldAt_nI {p a s : Nat} (h : 1 ≤ s) : f_X5_toldAt (nI p) (nI a) (nI s) = nI (213 + 2 * (96 * p + 16 * a + s - 1)) := by
  unfold f_X5_toldAt
  rw [z6, pk_mul, nI_add, z16, pk_mul, nI_add, z1, pk_sub (by omega), z2, pk_mul, z213, nI_add]
  congr 1
  omega
theorem propAt_nI {p s : Nat} (h : 1 ≤ s) : f_X5_proposedAt (nI p) (nI s) = nI (789 + (16 * p + s - 1)) := by
  unfold f_X5_proposedAt
  rw [z16, pk_mul, z789, nI_add, nI_add, z1, pk_sub (by omega)]
  congr 1
  omega
section MOD
variable {g : Mem} {τ : Row}
theorem M_rd (hM : MR g τ) {k : Nat} (hk : k < 873) : rd g 1 873 (nI k) = some (nI (τ k)) := by rw [rd_nI hk (by omega), hM k hk]
theorem M_chosen (hM : MR g τ) {i : Nat} (hi : i < 16) : f_X5_chosen (nI (i + 1)) g = some (nI (τ (837 + i))) := by
  unfold f_X5_chosen
  rw [z837, nI_add, z1, pk_sub (by omega), show 837 + (i + 1) - 1 = 837 + i from by omega, M_rd hM (by omega), bnd_some]
theorem lp_M_prefix (hM : MR g τ) (h : RI τ) (k : Int32 → Option Int32) : ∀ n m f, f + m = 16 → f < n → f_X5_prefix_L2 k g n (nI m) = k (nI (preF τ f m)) := by
  intro n
  induction n with
  | zero => intro m f _ h; omega
  | succ n ih =>
    intro m f hm hf
    rw [f_X5_prefix_L2]
    cases f with
    | zero =>
      have hm : m = 16 := by omega
      subst hm
      rw [if_pos (by rw [z16]; exact nI_le (by omega) (by omega))]
      rfl
    | succ f =>
      have h2 := h.2.2.2.2.2.1 (837 + m) (by omega) (by omega)
      rw [if_neg (by rw [z16]; exact nI_ge (by omega) (by omega)), nI_1, M_chosen hM (by omega), bnd_some, preF]
      by_cases h3 : τ (837 + m) = 0
      · rw [if_pos h3, h3, if_pos (by rw [z0]; exact nI_le (by omega) (by omega))]
      · rw [if_neg h3, if_neg (by rw [z0]; exact nI_ge (by omega) (by omega)), lt1]
        exact ih (m + 1) f (by omega) (by omega)
theorem M_prefix (hM : MR g τ) (h : RI τ) : f_X5_prefix g = some (nI (pre τ)) := by
  unfold f_X5_prefix
  exact lp_M_prefix hM h _ fuel0 0 16 (by omega) (by have := fuel_gt; omega)
theorem M_isOpen (hM : MR g τ) (h : RI τ) {s : Nat} (h1 : s ≤ 16) : f_X5_isOpen (nI s) g = some (decide (s ≤ pre τ + 3)) := by
  unfold f_X5_isOpen
  have := pre_le τ
  rw [M_prefix hM h, bnd_some, z3]
  by_cases h2 : s ≤ pre τ + 3
  · rw [if_neg (fun q => by have := (leS (by omega) (by omega)).mp q; omega), decide_eq_true h2]
  · rw [if_pos ((leS (by omega) (by omega)).mpr (by omega)), decide_eq_false h2]
theorem M_isTrimmed (hM : MR g τ) (h : RI τ) {s : Nat} (h1 : s ≤ 16) : f_X5_isTrimmed (nI s) g = some (decide (s ≤ τ 869)) := by
  unfold f_X5_isTrimmed
  have b3 := h.2.2.2.2.2.2.2
  rw [z869, M_rd hM (by omega), bnd_some]
  by_cases h2 : s ≤ τ 869
  · rw [if_neg (nI_nlt h2 (by omega)), decide_eq_true h2]
  · rw [if_pos (nI_lt (by omega) (by omega)), decide_eq_false h2]
theorem lp_M_voters (hM : MR g τ) (h : RI τ) : ∀ n v, v ≤ 13 → v < n → f_X5_voters_L4 (some 7) g n (nI v) = some (nI (voN τ v)) := by
  intro n
  induction n with
  | zero => intro v _ h; omega
  | succ n ih =>
    intro v hv hn
    rw [f_X5_voters_L4]
    cases v with
    | zero =>
      rw [if_pos (by rw [z0]; exact nI_le (by omega) (by omega))]
      rfl
    | succ v =>
      have h2 := h.2.2.2.2.2.1 (837 + v) (by omega) (by omega)
      rw [if_neg (by rw [z0]; exact nI_ge (by omega) (by omega)), M_chosen hM (by omega), bnd_some, voN]
      by_cases h3 : 100 < τ (837 + v)
      · rw [if_neg (by rw [z100]; exact nI_ge h3 (by omega)), bnd_some, if_pos h3, z100, pk_sub (by omega)]
      · rw [if_pos (by rw [z100]; exact nI_le (by omega) (by omega)), if_neg h3, lt1, pk_m1]
        exact ih v (by omega) (by omega)
theorem M_voters (hM : MR g τ) (h : RI τ) {s : Nat} (hs : s ≤ 16) : f_X5_voters (nI s) g = some (nI (vo τ s)) := by
  unfold f_X5_voters
  rw [lt1]
  by_cases h3 : 3 ≤ s
  · rw [z3, pk_sub h3]
    exact lp_M_voters hM h fuel0 (s - 3) (by omega) (by have := fuel_gt; omega)
  · obtain ⟨n, hn⟩ : ∃ n, fuel0 = n + 1 := ⟨fuel0 - 1, by have := fuel_gt; omega⟩
    rw [hn, f_X5_voters_L4, if_pos]
    · unfold vo
      rw [show s - 3 = 0 from by omega]
      rfl
    · rw [Int32.le_iff_toInt_le, z3, pk_sub_toInt (by omega) (by omega)]
      have : (0 : Int32).toInt = 0 := rfl
      omega
theorem M_second (hM : MR g τ) (h : RI τ) {s : Nat} (hs : s ≤ 16) : f_X5_secondSize (nI s) g = some (nI (sec τ s)) := by
  unfold f_X5_secondSize
  have h1 := h.1 870 (by omega)
  have h2 := pc_le (vo τ s)
  rw [M_voters hM h hs, bnd_some, bits_nI _ (vo_lt h hs), bnd_some, z870, M_rd hM (by omega), bnd_some]
  unfold sec
  by_cases e : pc (vo τ s) ≤ τ 870
  · rw [if_pos (nI_le e (by omega)), Nat.min_eq_right e]
  · rw [if_neg (nI_ge (by omega) (by omega)), bnd_some, Nat.min_eq_left (by omega)]
theorem sec_le (τ : Row) (s : Nat) : sec τ s ≤ pc (vo τ s) := Nat.min_le_right _ _
theorem M_first (hM : MR g τ) (h : RI τ) {s : Nat} (hs : s ≤ 16) : f_X5_firstSize (nI s) g = some (nI (fir τ s)) := by
  unfold f_X5_firstSize
  have := sec_le τ s
  rw [M_voters hM h hs, bnd_some, bits_nI _ (vo_lt h hs), bnd_some, M_second hM h hs, bnd_some, nI_1, pk_sub (by omega)]
  rfl
def upN (τ : Row) : Nat → Nat
  | 0 => 0
  | n + 1 => upN τ n + 2 ^ n * τ n
set_option maxRecDepth 100000 in
theorem orb_nI : ∀ n, n < 6 → ∀ k, k < 2 ^ n → ∀ x, x < 2 → nI k ||| (nI x <<< (nI n &&& 31)) = nI (k + 2 ^ n * x) := by decide +kernel
theorem upN_lt (h : RI τ) : ∀ n, n ≤ 6 → upN τ n < 2 ^ n := by
  intro n
  induction n with
  | zero => intro _; exact Nat.one_pos
  | succ n ih =>
    intro hn
    have h1 := ih (by omega)
    have h2 := h.2.1 n (by omega)
    have h3 : 2 ^ (n + 1) = 2 ^ n + 2 ^ n := by rw [Nat.pow_succ]; omega
    rw [upN, h3]
    have : 2 ^ n * τ n ≤ 2 ^ n * 1 := Nat.mul_le_mul_left _ h2
    omega
theorem lp_M_ups (hM : MR g τ) (h : RI τ) (K : Int32 → Option Int32) : ∀ n a, a ≤ 6 → 6 - a < n → f_X5_ups_L4 K g n (nI (upN τ a)) (nI a) = K (nI (upN τ 6)) := by
  intro n
  induction n with
  | zero => intro a _ h; omega
  | succ n ih =>
    intro a ha hn
    rw [f_X5_ups_L4]
    by_cases h6 : a = 6
    · subst h6
      rw [if_pos (by rw [z6]; exact nI_le (by omega) (by omega))]
    · have h2 := h.2.1 a (by omega)
      rw [if_neg (by rw [z6]; exact nI_ge (by omega) (by omega)), z0, nI_add, Nat.zero_add, M_rd hM (by omega), bnd_some, orb_nI a (by omega) _ (upN_lt h a ha) _ (by omega), lt1, nI_1, lt1]
      exact ih (a + 1) (by omega) (by omega)
theorem upN_6 (τ : Row) : upN τ 6 = upm τ := by
  simp only [upN, upm, Nat.reducePow]
  omega
theorem M_ups (hM : MR g τ) (h : RI τ) : f_X5_ups g = some (nI (upm τ)) := by
  unfold f_X5_ups
  have key := lp_M_ups hM h (fun x5 => some x5) fuel0 0 (by omega) (by have := fuel_gt; omega)
  rw [upN_6] at key
  exact key
theorem lp_M_bound (hM : MR g τ) (h : RI τ) (K : Int32 → Option Int32) {p s set : Nat} (hp : p < 3) (hs1 : 1 ≤ s) (hs2 : s ≤ 16) (hset : set < 64) : ∀ n a, a ≤ 6 → 6 - a < n → f_X5_bound_L26 K (nI p) (nI s) (nI set) g n (nI (bdN τ p s set a).1) (nI (bdN τ p s set a).2) (nI a) = K (nI (bdN τ p s set 6).2) := by
  intro n
  induction n with
  | zero => intro a _ h; omega
  | succ n ih =>
    intro a ha hn
    rw [f_X5_bound_L26]
    by_cases h6 : a = 6
    · subst h6
      rw [if_pos (by rw [z6]; exact nI_le (by omega) (by omega))]
    · have hbd : ∀ a, a ≤ 6 → (bdN τ p s set a).1 ≤ 999 := by
        intro a
        induction a with
        | zero => intro _; exact Nat.zero_le _
        | succ a ih2 =>
          intro ha2
          have h2 := ih2 (by omega)
          have h3 := h.1 (213 + 2 * (96 * p + 16 * a + s - 1)) (by omega)
          rw [bdN]
          split
          · exact h3
          · exact h2
      have h0 := hbd a ha
      have h3 := h.1 (213 + 2 * (96 * p + 16 * a + s - 1)) (by omega)
      have step := ih (a + 1) (by omega) (by omega)
      rw [if_neg (by rw [z6]; exact nI_ge (by omega) (by omega)), toldAt_nI hs1, lt1, isIn_nI set hset a (by omega), nI_1]
      cases hva : hs set a with
      | false =>
        rw [if_neg (by decide), lt1]
        have e2 : bdN τ p s set (a + 1) = bdN τ p s set a := by rw [bdN, if_neg (by simp [hva])]
        rw [e2] at step
        exact step
      | true =>
        rw [if_pos rfl, M_rd hM (by omega), bnd_some]
        by_cases hq : (bdN τ p s set a).1 < τ (213 + 2 * (96 * p + 16 * a + s - 1))
        · have e2 : bdN τ p s set (a + 1) = (τ (213 + 2 * (96 * p + 16 * a + s - 1)), τ (214 + 2 * (96 * p + 16 * a + s - 1))) := by rw [bdN, if_pos ⟨hva, hq⟩]
          rw [if_neg (nI_ge hq (by omega)), bnd_some, nI_1, M_rd hM (by omega), bnd_some, lt1, show 213 + 2 * (96 * p + 16 * a + s - 1) + 1 = 214 + 2 * (96 * p + 16 * a + s - 1) from by omega]
          rw [e2] at step
          exact step
        · have e2 : bdN τ p s set (a + 1) = bdN τ p s set a := by rw [bdN, if_neg (fun q => hq q.2)]
          rw [if_pos (nI_le (by omega) (by omega)), lt1]
          rw [e2] at step
          exact step
theorem M_bound0 (hM : MR g τ) (h : RI τ) {p s set : Nat} (hp : p < 3) (hs1 : 1 ≤ s) (hs2 : s ≤ 16) (hset : set < 64) : f_X5_bound_L26 (fun x14 => some x14) (nI p) (nI s) (nI set) g fuel0 0 0 0 = some (nI (bdN τ p s set 6).2) := by
  have hf : 6 - 0 < fuel0 := by have := fuel_gt; omega
  generalize fuel0 = N at hf ⊢
  have key := lp_M_bound hM h (fun x14 => some x14) hp hs1 hs2 hset N 0 (by omega) hf
  have e : bdN τ p s set 0 = (0, 0) := rfl
  rw [e] at key
  exact key
theorem M_bound (hM : MR g τ) (h : RI τ) {p s : Nat} (hp : p < 3) (hs1 : 1 ≤ s) (hs2 : s ≤ 16) : f_X5_bound (nI p) (nI s) g = some (nI (bound τ p s)) := by
  unfold f_X5_bound
  have hv := vo_lt h hs2
  have h1 := h.2.2.1 p hp
  rw [M_voters hM h hs2, bnd_some, z210, nI_add, M_rd hM (by omega), bnd_some, and_nI _ hv _ h1, lt1]
  exact M_bound0 hM h hp hs1 hs2 (and_lt _ hv _ h1)
theorem M_lacking (hM : MR g τ) (h : RI τ) {p s : Nat} (hp : p < 3) (hs2 : s ≤ 16) : f_X5_lacking (nI p) (nI s) g = some (nI (lack τ p s)) := by
  unfold f_X5_lacking
  have hv := vo_lt h hs2
  have h1 := h.2.2.1 p hp
  have h2 := pc_le (vo τ s)
  have h3 := pc_le (vo τ s &&& τ (210 + p))
  have h4 : fir τ s ≤ 7 := by unfold fir; omega
  rw [M_first hM h hs2, bnd_some, M_voters hM h hs2, bnd_some, z210, nI_add, M_rd hM (by omega), bnd_some, and_nI _ hv _ h1, bits_nI _ (and_lt _ hv _ h1), bnd_some, lt1]
  unfold lack
  by_cases e : pc (vo τ s &&& τ (210 + p)) < fir τ s
  · rw [pk_sub (by omega), if_neg (by rw [z0]; exact nI_ge (by omega) (by omega))]
  · rw [if_pos, show fir τ s - pc (vo τ s &&& τ (210 + p)) = 0 from by omega]
    · rfl
    · rw [Int32.le_iff_toInt_le, pk_sub_toInt (by omega) (by omega)]
      have : (0 : Int32).toInt = 0 := rfl
      omega
theorem add0 (x : Int32) : x + 0 = x := Int32.add_zero x
theorem M_votes (hM : MR g τ) (h : RI τ) {a : Nat} (ha : a < 6) : f_X5_votes (nI a) g = some (nI (votesN τ a 16)) := by
  unfold f_X5_votes
  have key := cnt_loop (fun n v3 v4 => f_X5_votes_L4 (fun x8 => some x8) (nI a) g n v3 v4) (fun x => some x) (fun j => decide (τ (12 + 2 * (16 * a + j)) ≠ 0)) 16 ?_ ?_ fuel0 0 (by omega) (by have := fuel_gt; omega)
  · exact key
  · intro n acc
    show f_X5_votes_L4 _ _ _ _ _ _ = _
    rw [f_X5_votes_L4, if_pos (by rw [z16]; exact nI_lt (by omega) (by omega))]
  · intro n acc j hj
    show f_X5_votes_L4 _ _ _ _ _ _ = f_X5_votes_L4 _ _ _ _ _ _
    have h2 := h.1 (12 + 2 * (16 * a + j)) (by omega)
    rw [f_X5_votes_L4, if_neg (by rw [z16]; exact nI_nlt (by omega) (by omega)), voteAt_nI (by omega), show 16 * a + (j + 1) - 1 = 16 * a + j from by omega, M_rd hM (by omega), bnd_some, lt1, lt1, lt1, nI_1, add0]
    by_cases h3 : τ (12 + 2 * (16 * a + j)) = 0
    · rw [if_pos (by rw [h3, z0]; exact nI_le (by omega) (by omega)), if_neg (by simp [h3])]
    · rw [if_neg (by rw [z0]; exact nI_ge (by omega) (by omega)), if_pos (by simp [h3]), lt1]
theorem M_proposals (hM : MR g τ) (h : RI τ) {p : Nat} (hp : p < 3) : f_X5_proposals (nI p) g = some (nI (cntN (fun j => decide (τ (789 + (16 * p + j)) ≠ 0)) 16)) := by
  unfold f_X5_proposals
  have key := cnt_loop (fun n v3 v4 => f_X5_proposals_L4 (fun x8 => some x8) (nI p) g n v3 v4) (fun x => some x) (fun j => decide (τ (789 + (16 * p + j)) ≠ 0)) 16 ?_ ?_ fuel0 0 (by omega) (by have := fuel_gt; omega)
  · exact key
  · intro n acc
    show f_X5_proposals_L4 _ _ _ _ _ _ = _
    rw [f_X5_proposals_L4, if_pos (by rw [z16]; exact nI_lt (by omega) (by omega))]
  · intro n acc j hj
    show f_X5_proposals_L4 _ _ _ _ _ _ = f_X5_proposals_L4 _ _ _ _ _ _
    have h2 := h.1 (789 + (16 * p + j)) (by omega)
    rw [f_X5_proposals_L4, if_neg (by rw [z16]; exact nI_nlt (by omega) (by omega)), propAt_nI (by omega), show 16 * p + (j + 1) - 1 = 16 * p + j from by omega, M_rd hM (by omega), bnd_some, lt1, lt1, lt1, nI_1, add0]
    by_cases h3 : τ (789 + (16 * p + j)) = 0
    · rw [if_pos (by rw [h3, z0]; exact nI_le (by omega) (by omega)), if_neg (by simp [h3])]
    · rw [if_neg (by rw [z0]; exact nI_ge (by omega) (by omega)), if_pos (by simp [h3]), lt1]
theorem M_slots (hM : MR g τ) (h : RI τ) (w : Int32) (b : Nat) (hb : (w = 0 ∧ b = 0) ∨ (¬ w = 0 ∧ b = 100)) : f_X5_slots w g = some (nI (cntN (fun j => decide (b < τ (837 + j))) 16)) := by
  unfold f_X5_slots
  have key := cnt_loop (fun n v3 v4 => f_X5_slots_L4 (fun x8 => some x8) w g n v3 v4) (fun x => some x) (fun j => decide (b < τ (837 + j))) 16 ?_ ?_ fuel0 0 (by omega) (by have := fuel_gt; omega)
  · exact key
  · intro n acc
    show f_X5_slots_L4 _ _ _ _ _ _ = _
    rw [f_X5_slots_L4, if_pos (by rw [z16]; exact nI_lt (by omega) (by omega))]
  · intro n acc j hj
    show f_X5_slots_L4 _ _ _ _ _ _ = f_X5_slots_L4 _ _ _ _ _ _
    have h2 := h.1 (837 + j) (by omega)
    rw [f_X5_slots_L4, if_neg (by rw [z16]; exact nI_nlt (by omega) (by omega)), M_chosen hM hj, bnd_some]
    simp only [lt1, nI_1, add0]
    rcases hb with ⟨hw, rfl⟩ | ⟨hw, rfl⟩
    · rw [if_pos hw]
      by_cases h3 : 0 < τ (837 + j)
      · rw [if_neg (by rw [z0]; exact nI_ge h3 (by omega)), if_pos (by simp [h3])]
      · rw [if_pos (by rw [z0]; exact nI_le (by omega) (by omega)), if_neg (by simp [h3])]
    · rw [if_neg hw]
      by_cases h3 : 100 < τ (837 + j)
      · rw [if_neg (by rw [z100]; exact nI_ge h3 (by omega)), if_pos (by simp [h3])]
      · rw [if_pos (by rw [z100]; exact nI_le (by omega) (by omega)), if_neg (by simp [h3])]
end MOD
