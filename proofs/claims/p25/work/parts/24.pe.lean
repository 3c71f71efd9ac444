/-! WHAT THE ACTS DO, on rows: an answer and a new row -/
theorem isA_of {a : Int32} (h : f_X4_isAcceptor a = true) : ∃ k, k < 6 ∧ a = nI k := by
  unfold f_X4_isAcceptor at h
  by_cases h1 : a < 0
  · rw [if_pos h1] at h; cases h
  · rw [if_neg h1] at h
    by_cases h2 : 6 ≤ a
    · rw [if_pos h2] at h; cases h
    · obtain ⟨j, hj, rfl⟩ := nI_of h1
      refine ⟨j, ?_, rfl⟩
      rw [z6, nI_leI (by omega) hj] at h2
      omega
theorem isA_nI {k : Nat} (h : k < 6) : f_X4_isAcceptor (nI k) = true := by
  unfold f_X4_isAcceptor
  rw [if_neg (nI_pos (by omega)), if_neg (by rw [z6]; exact nI_ge h (by omega))]
theorem isP_of {a : Int32} (h : f_X4_isProposer a = true) : ∃ k, k < 3 ∧ a = nI k := by
  unfold f_X4_isProposer at h
  by_cases h1 : a < 0
  · rw [if_pos h1] at h; cases h
  · rw [if_neg h1] at h
    by_cases h2 : 3 ≤ a
    · rw [if_pos h2] at h; cases h
    · obtain ⟨j, hj, rfl⟩ := nI_of h1
      refine ⟨j, ?_, rfl⟩
      rw [z3, nI_leI (by omega) hj] at h2
      omega
theorem isP_nI {k : Nat} (h : k < 3) : f_X4_isProposer (nI k) = true := by
  unfold f_X4_isProposer
  rw [if_neg (nI_pos (by omega)), if_neg (by rw [z3]; exact nI_ge h (by omega))]
theorem pos_of {a : Int32} (h : ¬ a < 1) : ∃ j, 1 ≤ j ∧ j < 2 ^ 31 ∧ a = nI j := by
  have h1 : ¬ a < 0 := by
    intro h2
    apply h
    rw [Int32.lt_iff_toInt_lt] at h2 ⊢
    have e0 : (0 : Int32).toInt = 0 := rfl
    have e1 : (1 : Int32).toInt = 1 := rfl
    omega
  obtain ⟨j, hj, rfl⟩ := nI_of h1
  refine ⟨j, ?_, hj, rfl⟩
  rw [z1, nI_ltI hj (by omega)] at h
  omega
theorem isS_of {a : Int32} (h : f_X4_isSlot a = true) : ∃ k, 1 ≤ k ∧ k ≤ 16 ∧ a = nI k := by
  unfold f_X4_isSlot at h
  by_cases h1 : a < 1
  · rw [if_pos h1] at h; cases h
  · rw [if_neg h1] at h
    by_cases h2 : 16 < a
    · rw [if_pos h2] at h; cases h
    · obtain ⟨j, hj1, hj, rfl⟩ := pos_of h1
      refine ⟨j, hj1, ?_, rfl⟩
      rw [z16, nI_ltI (by omega) hj] at h2
      omega
theorem isS_nI {k : Nat} (h1 : 1 ≤ k) (h : k ≤ 16) : f_X4_isSlot (nI k) = true := by
  unfold f_X4_isSlot
  rw [if_neg (by rw [z1]; exact nI_nlt h1 (by omega)), if_neg (by rw [z16]; exact nI_nlt h (by omega))]
theorem isK_of {a : Int32} (h : f_X4_isSize a = true) : ∃ k, 1 ≤ k ∧ k ≤ 6 ∧ a = nI k := by
  unfold f_X4_isSize at h
  by_cases h1 : a < 1
  · rw [if_pos h1] at h; cases h
  · rw [if_neg h1] at h
    by_cases h2 : 6 < a
    · rw [if_pos h2] at h; cases h
    · obtain ⟨j, hj1, hj, rfl⟩ := pos_of h1
      refine ⟨j, hj1, ?_, rfl⟩
      rw [z6, nI_ltI (by omega) hj] at h2
      omega
/-- a value: 1 to 99, or 101 to 163 -/
def isV (a : Int32) : Bool := decide (1 ≤ a) && (decide (a ≤ 99) || (decide (101 ≤ a) && decide (a ≤ 163)))
theorem isV_eq (a : Int32) : f_X4_isValue a = isV a := by
  unfold f_X4_isValue f_X4_isValue_J16 isV
  have e : ∀ x y : Int32, (x ≤ y) = ¬ (y < x) := fun x y => propext Int32.not_lt.symm
  by_cases h1 : a < 1
  · have h2 : a ≤ 100 := by
      rw [Int32.lt_iff_toInt_lt] at h1
      rw [Int32.le_iff_toInt_le]
      have e1 : (1 : Int32).toInt = 1 := rfl
      have e2 : (100 : Int32).toInt = 100 := rfl
      omega
    have h3 : ¬ (1 : Int32) ≤ a := Int32.not_le.mpr h1
    simp [h1, h2, h3]
  · obtain ⟨j, hj1, hj, rfl⟩ := pos_of h1
    simp only [z1, z99, z100, z101, z163, nI_ltI, nI_leI, hj, Nat.reducePow, Nat.reduceLT, (by omega : 1 < 2 ^ 31), (by omega : 99 < 2 ^ 31), (by omega : 100 < 2 ^ 31), (by omega : 101 < 2 ^ 31), (by omega : 163 < 2 ^ 31)]
    rcases (show j ≤ 99 ∨ j = 100 ∨ (101 ≤ j ∧ j ≤ 163) ∨ 163 < j by omega) with q | rfl | q | q
    · simp [show ¬ 99 < j by omega, show j ≤ 100 by omega, show 1 ≤ j by omega, show j ≤ 99 by omega, show ¬ j < 1 by omega, show ¬ nI 1 = 0 by decide]
    · simp
    · simp [show 99 < j by omega, show ¬ j ≤ 100 by omega, show 1 ≤ j by omega, show 101 ≤ j by omega, show j ≤ 163 by omega, show ¬ j < 1 by omega, show ¬ 163 < j by omega]
    · simp [show 99 < j by omega, show ¬ j ≤ 100 by omega, show ¬ j ≤ 163 by omega, show ¬ j ≤ 99 by omega, show ¬ j < 1 by omega, show 163 < j by omega]
theorem isV_of {a : Int32} (h : isV a = true) : ∃ v, 1 ≤ v ∧ v ≤ 163 ∧ v ≠ 100 ∧ a = nI v := by
  have h1 : ¬ a < 1 := by
    intro q
    have : ¬ (1 : Int32) ≤ a := Int32.not_le.mpr q
    simp [isV, this] at h
  obtain ⟨j, hj1, hj, rfl⟩ := pos_of h1
  unfold isV at h
  rw [z1, z99, z101, z163] at h
  simp only [Bool.and_eq_true, Bool.or_eq_true, decide_eq_true_eq] at h
  rw [nI_leI (by omega) hj, nI_leI hj (by omega), nI_leI (by omega) hj, nI_leI hj (by omega)] at h
  exact ⟨j, by omega, by omega, by omega, rfl⟩
/-! the acts -/
def s_turnN (a : Nat) (up : Bool) (τ : Row) : Int32 × Row := if decide (τ a = 1) = up then (-5, τ) else (nI (pc (upm (rup τ a (if up then 1 else 0)))), rup τ a (if up then 1 else 0))
def s_turn (a : Int32) (up : Bool) (τ : Row) : Int32 × Row := if f_X4_isAcceptor a then s_turnN a.toNatClampNeg up τ else (-1, τ)
def s_second (a : Int32) (τ : Row) : Int32 × Row := if f_X4_isSize a then (if τ 204 = 0 ∧ τ 205 = 0 ∧ τ 206 = 0 then (if nI (τ 870) = a then (-5, τ) else (nI (τ 870), rup τ 870 a.toNatClampNeg)) else (-4, τ)) else (-2, τ)
/-- the least ballot of p above both -/
def nb (τ : Row) (p : Nat) : Nat := 3 * ((max (τ (204 + p)) (τ (207 + p)) + 2 - p) / 3) + p + 1
def prR (τ : Row) (p b : Nat) : Row := fun k => if k = 204 + p then b else if k = 210 + p then 0 else if 789 + 16 * p ≤ k ∧ k < 789 + 16 * p + 16 then 0 else if 213 + 192 * p ≤ k ∧ k < 213 + 192 * p + 192 then 0 else τ k
def s_prepareN (p : Nat) (τ : Row) : Int32 × Row := if nb τ p ≤ 999 then (nI (nb τ p), prR τ p (nb τ p)) else (-3, τ)
def s_prepare (p : Int32) (τ : Row) : Int32 × Row := if f_X4_isProposer p then s_prepareN p.toNatClampNeg τ else (-1, τ)
/-- a refusal: heard of, counted at c -/
def rfR (τ : Row) (p a c : Nat) : Row := rup (rup τ (207 + p) (max (τ (207 + p)) (τ (6 + a)))) c (τ c + 1)
def votesN (τ : Row) (a t : Nat) : Nat := cntN (fun j => decide (τ (12 + 2 * (16 * a + j)) ≠ 0)) t
def telR (τ : Row) (p a : Nat) : Row := fun k => if 213 + 2 * (96 * p + 16 * a) ≤ k ∧ k < 213 + 2 * (96 * p + 16 * a) + 32 then τ (k - 201 - 192 * p) else τ k
def pmR (τ : Row) (p a : Nat) : Row := rup (telR (rup τ (6 + a) (τ (204 + p))) p a) (210 + p) (τ (210 + p) + 2 ^ a)
def s_promiseN (p a : Nat) (τ : Row) : Int32 × Row := if τ (204 + p) = 0 ∨ τ a ≠ 1 then (-4, τ) else if hs (τ (210 + p)) a then (-5, τ) else if τ (204 + p) ≤ τ (6 + a) then (nI (100 + τ (6 + a)), rfR τ p a 871) else (nI (votesN τ a 16), pmR τ p a)
def s_promise (p a : Int32) (τ : Row) : Int32 × Row := if f_X4_isProposer p && f_X4_isAcceptor a then s_promiseN p.toNatClampNeg a.toNatClampNeg τ else (-1, τ)
def mayP (τ : Row) (p s : Nat) : Bool := decide (τ (204 + p) ≠ 0) && (decide (τ 869 < s) && (decide (s ≤ pre τ + 3) && (decide (lack τ p s = 0) && decide (τ (789 + (16 * p + s - 1)) = 0))))
def s_proposeN (p s v : Nat) (τ : Row) : Int32 × Row := if mayP τ p s then (nI (if bound τ p s = 0 then v else bound τ p s), rup τ (789 + (16 * p + s - 1)) (if bound τ p s = 0 then v else bound τ p s)) else (-4, τ)
def s_propose (p s v : Int32) (τ : Row) : Int32 × Row := if f_X4_isProposer p && f_X4_isSlot s then (if isV v then s_proposeN p.toNatClampNeg s.toNatClampNeg v.toNatClampNeg τ else (-2, τ)) else (-1, τ)
def mayV (τ : Row) (p s a : Nat) : Bool := decide (τ (789 + (16 * p + s - 1)) ≠ 0) && (decide (τ 869 < s) && (decide (τ a = 1) && hs (vo τ s) a))
def vtR (τ : Row) (p s a : Nat) : Row := rup (rup (rup τ (6 + a) (τ (204 + p))) (12 + 2 * (16 * a + s - 1)) (τ (204 + p))) (13 + 2 * (16 * a + s - 1)) (τ (789 + (16 * p + s - 1)))
def forN (τ : Row) (s b : Nat) : Nat := cntN (fun i => hs (vo τ s) i && decide (τ (12 + 2 * (16 * i + s - 1)) = b)) 6
def s_voteN (p s a : Nat) (τ : Row) : Int32 × Row := if mayV τ p s a then (if τ (12 + 2 * (16 * a + s - 1)) = τ (204 + p) then (-5, τ) else if τ (204 + p) < τ (6 + a) then (nI (100 + τ (6 + a)), rfR τ p a 872) else (nI (forN (vtR τ p s a) s (τ (204 + p))), if τ (837 + (s - 1)) = 0 ∧ sec τ s ≤ forN (vtR τ p s a) s (τ (204 + p)) then rup (rup (vtR τ p s a) (837 + (s - 1)) (τ (789 + (16 * p + s - 1)))) (853 + (s - 1)) (τ (204 + p)) else vtR τ p s a)) else (-4, τ)
def s_vote (p s a : Int32) (τ : Row) : Int32 × Row := if f_X4_isProposer p && (f_X4_isSlot s && f_X4_isAcceptor a) then s_voteN p.toNatClampNeg s.toNatClampNeg a.toNatClampNeg τ else (-1, τ)
def trR (τ : Row) (s : Nat) : Row := fun k => if k = 869 then s else if 12 ≤ k ∧ k < 204 ∧ (k - 12) / 2 % 16 < s then 0 else τ k
def allN (τ : Row) (s : Nat) : Nat → Nat
  | 0 => 0
  | n + 1 => allN τ s n + votesN τ n s
def s_trimN (s : Nat) (τ : Row) : Int32 × Row := if pre τ < s then (-4, τ) else if s ≤ τ 869 then (-5, τ) else (nI (allN τ s 6), trR τ s)
def s_trim (s : Int32) (τ : Row) : Int32 × Row := if f_X4_isSlot s then s_trimN s.toNatClampNeg τ else (-1, τ)
/-! the class does them -/
theorem C_turn {g : Mem} {o : Nat} {τ : Row} (hC : CR g o τ) (h : RI τ) (a : Int32) (up : Bool) : ∃ g', f_X2_turn o a up g = some ((s_turn a up τ).1, g') ∧ CR g' o (s_turn a up τ).2 ∧ Fr o g g' := by
  unfold f_X2_turn s_turn
  cases hv : f_X4_isAcceptor a with
  | false => exact ⟨g, rfl, hC, Fr.rf⟩
  | true =>
    obtain ⟨k, hk, rfl⟩ := isA_of hv
    rw [if_pos rfl, if_pos rfl, nI_clamp (by omega), hC.1, has_nI _ (upm_lt h) _ hk, hs_upm h hk]
    unfold s_turnN
    have hbI : ∀ x y : Bool, bI x = bI y ↔ x = y := by decide
    by_cases he : decide (τ k = 1) = up
    · rw [if_pos ((hbI _ _).mpr he), if_pos he]
      exact ⟨g, rfl, hC, Fr.rf⟩
    · rw [if_neg (fun q => he ((hbI _ _).mp q)), if_neg he, xor_nI _ (upm_lt h) _ hk]
      have h1 := h.2.1 k hk
      have hne : τ k ≠ (if up then 1 else 0) := by
        intro q
        apply he
        rw [q]
        cases up <;> decide
      rw [← upm_set h hk (by cases up <;> decide) hne, lt1, mu_eq]
      have hlt : upm (rup τ k (if up then 1 else 0)) < 64 := by
        rw [upm_set h hk (by cases up <;> decide) hne]
        have := upm_lt h
        have e : ∀ k, k < 64 → ∀ a, a < 6 → (if hs k a then k - 2 ^ a else k + 2 ^ a) < 64 := by decide +kernel
        exact e _ this _ hk
      rw [bc_nI _ hlt]
      exact ⟨_, rfl, CR_f0 hC hk _, Fr.up0⟩