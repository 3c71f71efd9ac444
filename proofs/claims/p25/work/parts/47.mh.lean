/-! witness -/
def lowL (m : Nat) : Nat → Nat → Nat → Nat → Nat
  | 0, x, _, _ => x
  | n + 1, x, r, a => if r = 0 then x else if hs m a then lowL m n (x + 2 ^ a) (r - 1) (a + 1) else lowL m n x r (a + 1)
def witL (m i j : Nat) : Nat → Nat → Nat → Nat → Nat × Nat
  | 0, x, y, _ => (x, y)
  | n + 1, x, y, a => if hs m a then (if i ≤ pc x then (if j ≤ pc y then witL m i j n x y (a + 1) else witL m i j n x (y + 2 ^ a) (a + 1)) else witL m i j n (x + 2 ^ a) y (a + 1)) else witL m i j n x y (a + 1)
theorem pw {a : Nat} : 2 ^ (a + 1) = 2 ^ a + 2 ^ a := by rw [Nat.pow_succ]; omega
theorem lowL_lt (m : Nat) : ∀ n x r a, x < 2 ^ a → lowL m n x r a < 2 ^ (a + n) := by
  intro n
  induction n with
  | zero => intro x r a h; exact h
  | succ n ih =>
    intro x r a h
    rw [lowL]
    have hp := @pw a
    have hq : 2 ^ (a + 1) ≤ 2 ^ (a + 1 + n) := Nat.pow_le_pow_right (by decide) (by omega)
    rw [show a + (n + 1) = a + 1 + n from by omega]
    split
    · omega
    · split
      · exact ih _ _ _ (by omega)
      · exact ih _ _ _ (by omega)
set_option maxRecDepth 100000 in
theorem orb_nI : ∀ n, n < 6 → ∀ k, k < 2 ^ n → ∀ x, x < 2 → nI k ||| (nI x <<< (nI n &&& 31)) = nI (k + 2 ^ n * x) := by decide +kernel
theorem or1 {x a : Nat} (ha : a < 6) (hx : x < 2 ^ a) : nI x ||| ((1 : Int32) <<< (nI a &&& 31)) = nI (x + 2 ^ a) := by
  have := orb_nI a ha x hx 1 (by decide)
  rw [Nat.mul_one] at this
  exact this
theorem lp_low (K : Int32 → Option Int32) {m : Nat} (hm : m < 64) : ∀ n a x r N, a + n = 6 → n < N → x < 2 ^ a → r < 2 ^ 31 → f_X4_lowest_L7 K (nI m) N (nI x) (nI r) (nI a) = K (nI (lowL m n x r a)) := by
  intro n
  induction n with
  | zero =>
    intro a x r N ha hN hx hr
    obtain ⟨N, rfl⟩ : ∃ M, N = M + 1 := ⟨N - 1, by omega⟩
    rw [f_X4_lowest_L7, if_pos (by rw [z6]; exact nI_le (by omega) (by omega))]
    rfl
  | succ n ih =>
    intro a x r N ha hN hx hr
    obtain ⟨N, rfl⟩ : ∃ M, N = M + 1 := ⟨N - 1, by omega⟩
    have hp := @pw a
    rw [f_X4_lowest_L7, if_neg (by rw [z6]; exact nI_ge (by omega) (by omega)), lowL]
    by_cases h0 : r = 0
    · rw [if_pos h0, if_pos (by rw [h0]; decide)]
    · rw [if_neg h0, if_neg (by rw [z0]; exact nI_ge (by omega) hr), has_nI m hm a (by omega)]
      cases hs m a with
      | true =>
        rw [if_pos rfl, if_pos rfl, lt1, or1 (by omega) hx, lt1, lt1, nI_1]
        have e : nI r + -1 = nI (r - 1) := by
          obtain ⟨q, rfl⟩ : ∃ q, r = q + 1 := ⟨r - 1, by omega⟩
          exact pk_m1 q
        rw [e]
        exact ih (a + 1) _ _ N (by omega) (by omega) (by omega) (by omega)
      | false =>
        rw [if_neg (by decide), if_neg (by decide), lt1, nI_1]
        exact ih (a + 1) _ _ N (by omega) (by omega) (by omega) hr
def f_X5_in (a1 : Int32) (a2 : Int32) (a3 : Int32) : Bool := (if a1 < a2 then false else (if a3 < a1 then false else true))
theorem C_lowest {m r : Nat} (hm : m < 64) (hr : r < 2 ^ 31) : f_X4_lowest (nI m) (nI r) = some (nI (lowL m 6 0 r 0)) := by
  unfold f_X4_lowest
  exact lp_low (fun x8 => some x8) hm 6 0 0 r fuel0 (by omega) (by have := fuel_gt; omega) (by decide) hr
set_option maxRecDepth 100000 in
theorem rest_nI : ∀ m, m < 64 → ∀ x, x < 64 → nI m &&& (nI x ^^^ (-1)) = nI (m &&& (63 ^^^ x)) := by decide +kernel
def o_witN (m i j : Nat) (d : Int32) : Int32 := if i + j ≤ pc m then (if d = 0 then nI (lowL m 6 0 i 0) else nI (lowL (m &&& (63 ^^^ lowL m 6 0 i 0)) 6 0 j 0)) else -5
def o_witness (a b c d : Int32) : Int32 := if f_X5_in a 1 63 && (f_X4_isSize b && (f_X4_isSize c && f_X5_in d 0 1)) then o_witN a.toNatClampNeg b.toNatClampNeg c.toNatClampNeg d else -2
theorem in_of {a : Int32} (h : f_X5_in a 1 63 = true) : ∃ m, m < 64 ∧ a = nI m := by
  unfold f_X5_in at h
  by_cases h1 : a < 1
  · rw [if_pos h1] at h; cases h
  · rw [if_neg h1] at h
    obtain ⟨j, hj1, hj, rfl⟩ := pos_of h1
    by_cases h2 : (63 : Int32) < nI j
    · rw [if_pos h2] at h; cases h
    · rw [z63, nI_ltI (by omega) hj] at h2
      exact ⟨j, by omega, rfl⟩
theorem C_witness (a b c d : Int32) : f_X4_witness a b c d = some (o_witness a b c d) := by
  have e0 : f_X4_witness a b c d = if f_X5_in a 1 63 then f_X4_witness_J16 a b c d 1 else some (-2) := by
    unfold f_X4_witness f_X5_in f_X4_witness_J16
    by_cases h1 : a < 1
    · rw [if_pos h1, if_pos h1, if_pos (c := (0 : Int32) = 0) rfl]; rfl
    · by_cases h2 : 63 < a
      · rw [if_neg h1, if_pos h2, if_neg h1, if_pos h2, if_pos (c := (0 : Int32) = 0) rfl]; rfl
      · rw [if_neg h1, if_neg h2, if_neg h1, if_neg h2]; rfl
  rw [e0]
  unfold o_witness f_X4_witness_J16
  cases h1 : f_X5_in a 1 63 with
  | false => rfl
  | true =>
    rw [if_pos rfl, if_neg (by decide)]
    cases h2 : f_X4_isSize b with
    | false => rfl
    | true =>
      rw [if_pos rfl]
      cases h3 : f_X4_isSize c with
      | false => rfl
      | true =>
        rw [if_pos rfl]
        unfold f_X5_in
        by_cases h4 : d < 0
        · rw [if_pos h4, if_pos h4]; rfl
        · rw [if_neg h4, if_neg h4]
          by_cases h5 : d ≤ 1
          · rw [if_pos h5, if_neg (Int32.not_lt.mpr h5), if_pos (c := (true && (true && (true && true))) = true) rfl]
            obtain ⟨m, hm, rfl⟩ := in_of h1
            obtain ⟨i, hi1, hi, rfl⟩ := isK_of h2
            obtain ⟨j, hj1, hj, rfl⟩ := isK_of h3
            have hp := pc_le m
            have hlt := lowL_lt m 6 0 i 0 (by decide)
            rw [nI_clamp (by omega), nI_clamp (by omega), nI_clamp (by omega), nI_add, bc_nI m hm]
            unfold o_witN
            by_cases h6 : i + j ≤ pc m
            · rw [if_pos (nI_le h6 (by omega)), if_pos h6, C_lowest hm (by omega), bnd_some]
              by_cases h7 : d = 0
              · rw [if_pos h7, if_pos h7]
              · rw [if_neg h7, if_neg h7, rest_nI m hm _ (by omega), C_lowest (Nat.lt_of_le_of_lt Nat.and_le_left hm) (by omega), bnd_some]
            · rw [if_neg (nI_ge (by omega) (by omega)), if_neg h6]
          · rw [if_neg h5, if_pos (Int32.not_le.mp h5)]; rfl