/-! THE ROWS' MEANING: a row of natural numbers (the reference's row), and what the class's state and the reference hold of it -/
abbrev Row : Type := Nat → Nat
def rup (τ : Row) (k v : Nat) : Row := fun j => if j = k then v else τ j
theorem z0 : (0 : Int32) = nI 0 := rfl
theorem z1 : (1 : Int32) = nI 1 := rfl
theorem z2 : (2 : Int32) = nI 2 := rfl
theorem z3 : (3 : Int32) = nI 3 := rfl
theorem z4 : (4 : Int32) = nI 4 := rfl
theorem z5 : (5 : Int32) = nI 5 := rfl
theorem z6 : (6 : Int32) = nI 6 := rfl
theorem z7 : (7 : Int32) = nI 7 := rfl
theorem z12 : (12 : Int32) = nI 12 := rfl
theorem z16 : (16 : Int32) = nI 16 := rfl
theorem z60 : (60 : Int32) = nI 60 := rfl
theorem z63 : (63 : Int32) = nI 63 := rfl
theorem z99 : (99 : Int32) = nI 99 := rfl
theorem z100 : (100 : Int32) = nI 100 := rfl
theorem z101 : (101 : Int32) = nI 101 := rfl
theorem z163 : (163 : Int32) = nI 163 := rfl
theorem z204 : (204 : Int32) = nI 204 := rfl
theorem z207 : (207 : Int32) = nI 207 := rfl
theorem z210 : (210 : Int32) = nI 210 := rfl
theorem z213 : (213 : Int32) = nI 213 := rfl
theorem z789 : (789 : Int32) = nI 789 := rfl
theorem z837 : (837 : Int32) = nI 837 := rfl
theorem z853 : (853 : Int32) = nI 853 := rfl
theorem z869 : (869 : Int32) = nI 869 := rfl
theorem z870 : (870 : Int32) = nI 870 := rfl
theorem z871 : (871 : Int32) = nI 871 := rfl
theorem z872 : (872 : Int32) = nI 872 := rfl
theorem z873 : (873 : Int32) = nI 873 := rfl
theorem z999 : (999 : Int32) = nI 999 := rfl
theorem rd_nI {g : Mem} {o n i : Nat} (h : i < n) (hn : n < 2 ^ 31) : rd g o n (nI i) = some (g o i) := by
  have h1 : i < 2 ^ 31 := Nat.lt_trans h hn
  unfold rd
  rw [nI_clamp h1, if_neg]
  rintro (h2 | h2)
  · exact nI_pos h1 h2
  · omega
theorem wr_nI {g : Mem} {o n i : Nat} {v : Int32} (h : i < n) (hn : n < 2 ^ 31) : wr g o n (nI i) v = some (m_up g o i v) := by
  have h1 : i < 2 ^ 31 := Nat.lt_trans h hn
  unfold wr
  rw [nI_clamp h1, if_neg]
  rintro (h2 | h2)
  · exact nI_pos h1 h2
  · omega
theorem m_up_eq (g : Mem) (o k : Nat) (v : Int32) (o' k' : Nat) : m_up g o k v o' k' = if o' = o then (if k' = k then v else g o k') else g o' k' := by
  unfold m_up m_set upd
  by_cases h : o' = o <;> simp [h]
theorem bnd_some {α β : Type} (x : α) (f : α → Option β) : (some x).bind f = f x := rfl
theorem bd2_some {α β : Type} (x : α) (g : Mem) (f : α → Mem → Option β) : bd2 (some (x, g)) f = f x g := rfl
theorem fuel_gt : 4000 < fuel0 := by decide
/-- a member of a set of acceptors, as bits -/
def hs (k a : Nat) : Bool := k / 2 ^ a % 2 == 1
def pc (k : Nat) : Nat := k % 2 + k / 2 % 2 + k / 4 % 2 + k / 8 % 2 + k / 16 % 2 + k / 32 % 2
set_option maxRecDepth 100000 in
theorem has_nI : ∀ k, k < 64 → ∀ a, a < 6 → f_X4_has (nI k) (nI a) = hs k a := by decide +kernel
set_option maxRecDepth 100000 in
theorem bc_nI : ∀ k, k < 64 → f_J6_bitCount_0f7a4 (nI k) = nI (pc k) := by decide +kernel
set_option maxRecDepth 100000 in
theorem or_nI : ∀ k, k < 64 → ∀ a, a < 6 → nI k ||| ((1 : Int32) <<< (nI a &&& 31)) = nI (if hs k a then k else k + 2 ^ a) := by decide +kernel
set_option maxRecDepth 100000 in
theorem or_lt : ∀ k, k < 64 → ∀ a, a < 6 → (if hs k a then k else k + 2 ^ a) < 64 := by decide +kernel
set_option maxRecDepth 100000 in
theorem and_nI : ∀ k, k < 64 → ∀ j, j < 64 → nI k &&& nI j = nI (k &&& j) := by decide +kernel
set_option maxRecDepth 100000 in
theorem and_lt : ∀ k, k < 64 → ∀ j, j < 64 → k &&& j < 64 := by decide +kernel
theorem pc_le (k : Nat) : pc k ≤ 6 := by unfold pc; omega
theorem cell_nI {a s : Nat} (h : 1 ≤ s) : f_X4_cell (nI a) (nI s) = nI (16 * a + s - 1) := by
  unfold f_X4_cell
  rw [z16, z1, pk_mul, nI_add, pk_sub (by omega), Nat.mul_comm]
/-! what is told of a row: the prefix, the voters, the quorums' sizes -/
def preF (τ : Row) : Nat → Nat → Nat
  | 0, m => m
  | f + 1, m => if τ (837 + m) = 0 then m else preF τ f (m + 1)
def pre (τ : Row) : Nat := preF τ 16 0
def voN (τ : Row) : Nat → Nat
  | 0 => 7
  | n + 1 => if 100 < τ (837 + n) then τ (837 + n) - 100 else voN τ n
/-- the voters of slot s -/
def vo (τ : Row) (s : Nat) : Nat := voN τ (s - 3)
def sec (τ : Row) (s : Nat) : Nat := min (τ 870) (pc (vo τ s))
def fir (τ : Row) (s : Nat) : Nat := pc (vo τ s) + 1 - sec τ s
def lack (τ : Row) (p s : Nat) : Nat := fir τ s - pc (vo τ s &&& τ (210 + p))
/-- how many of the first n places hold -/
def cntN (P : Nat → Bool) : Nat → Nat
  | 0 => 0
  | n + 1 => cntN P n + (if P n then 1 else 0)
/-- the set of those of the first n places that hold -/
def setN (P : Nat → Bool) : Nat → Nat
  | 0 => 0
  | n + 1 => setN P n + (if P n then 2 ^ n else 0)
/-- the greatest told vote's ballot and value among the first n acceptors of the set -/
def bdN (τ : Row) (p s set : Nat) : Nat → Nat × Nat
  | 0 => (0, 0)
  | n + 1 => if hs set n ∧ (bdN τ p s set n).1 < τ (213 + 2 * (96 * p + 16 * n + s - 1)) then (τ (213 + 2 * (96 * p + 16 * n + s - 1)), τ (214 + 2 * (96 * p + 16 * n + s - 1))) else bdN τ p s set n
def bound (τ : Row) (p s : Nat) : Nat := (bdN τ p s (vo τ s &&& τ (210 + p)) 6).2
/-- what holds of every row that comes up -/
def RI (τ : Row) : Prop := (∀ k, k < 871 → τ k ≤ 999) ∧ (∀ a, a < 6 → τ a ≤ 1) ∧ (∀ p, p < 3 → τ (210 + p) < 64) ∧ (∀ i, i < 96 → τ (13 + 2 * i) ≤ 163) ∧ (∀ i, i < 288 → τ (214 + 2 * i) ≤ 163) ∧ (∀ k, 789 ≤ k → k < 853 → τ k ≤ 163) ∧ (1 ≤ τ 870 ∧ τ 870 ≤ 6) ∧ τ 869 ≤ 16
def upm (τ : Row) : Nat := τ 0 + 2 * τ 1 + 4 * τ 2 + 8 * τ 3 + 16 * τ 4 + 32 * τ 5
/-- the class's state o holds the row -/
def CR (g : Mem) (o : Nat) (τ : Row) : Prop :=
  g o 0 = nI (upm τ) ∧ g o 1 = nI (τ 870) ∧ g o 2 = nI (τ 869) ∧ g o 3 = nI (τ 871) ∧ g o 4 = nI (τ 872) ∧ (∀ i, i < 6 → g (o + 1) i = nI (τ (6 + i))) ∧ (∀ i, i < 96 → g (o + 2) i = nI (τ (12 + 2 * i))) ∧ (∀ i, i < 96 → g (o + 3) i = nI (τ (13 + 2 * i))) ∧ (∀ i, i < 3 → g (o + 4) i = nI (τ (204 + i))) ∧ (∀ i, i < 3 → g (o + 5) i = nI (τ (207 + i))) ∧ (∀ i, i < 3 → g (o + 6) i = nI (τ (210 + i))) ∧ (∀ i, i < 48 → g (o + 7) i = nI (τ (789 + i))) ∧ (∀ p a s, p < 3 → a < 6 → s < 16 → hs (τ (210 + p)) a = true → g (o + 8) (96 * p + 16 * a + s) = nI (τ (213 + 2 * (96 * p + 16 * a + s))) ∧ g (o + 9) (96 * p + 16 * a + s) = nI (τ (214 + 2 * (96 * p + 16 * a + s)))) ∧ (∀ i, i < 16 → g (o + 10) (i + 1) = nI (τ (837 + i))) ∧ (∀ i, i < 16 → g (o + 11) (i + 1) = nI (τ (853 + i)))
theorem voN_lt {τ : Row} (h : RI τ) : ∀ n, n ≤ 16 → voN τ n < 64 := by
  intro n
  induction n with
  | zero => intro _; show 7 < 64; omega
  | succ n ih =>
    intro hn
    have h1 := h.2.2.2.2.2.1 (837 + n) (by omega) (by omega)
    have h2 := ih (by omega)
    unfold voN
    split <;> omega
theorem vo_lt {τ : Row} (h : RI τ) {s : Nat} (hs : s ≤ 16) : vo τ s < 64 := voN_lt h _ (by omega)
theorem preF_le (τ : Row) : ∀ f m, preF τ f m ≤ f + m := by
  intro f
  induction f with
  | zero => intro m; unfold preF; omega
  | succ f ih =>
    intro m
    unfold preF
    split
    · omega
    · have := ih (m + 1)
      omega
theorem pre_le (τ : Row) : pre τ ≤ 16 := preF_le τ 16 0
/-! the class's readers -/
theorem lp_C_prefix {β : Type} {g : Mem} {o : Nat} {τ : Row} (hc : ∀ i, i < 16 → g (o + 10) (i + 1) = nI (τ (837 + i))) (h : RI τ) (k : Int32 → Option Int32) : ∀ n m f, f + m = 16 → f < n → f_X2_prefix_L2 k o g n (nI m) = k (nI (preF τ f m)) := by
  intro n
  induction n with
  | zero => intro m f _ h; omega
  | succ n ih =>
    intro m f hm hf
    rw [f_X2_prefix_L2]
    cases f with
    | zero =>
      have hm : m = 16 := by omega
      subst hm
      rw [if_pos (by rw [z16]; exact nI_le (by omega) (by omega))]
      rfl
    | succ f =>
      have h1 := hc m (by omega)
      have h2 := h.2.2.2.2.2.1 (837 + m) (by omega) (by omega)
      rw [if_neg (by rw [z16]; exact nI_ge (by omega) (by omega)), z1, nI_add, rd_nI (by omega) (by omega), bnd_some, h1, preF]
      by_cases h3 : τ (837 + m) = 0
      · rw [if_pos h3, h3, if_pos nI_0]
      · rw [if_neg h3, if_neg (by rw [z0]; intro e; exact h3 ((nI_eq (by omega) (by omega)).mp e))]
        exact ih (m + 1) f (by omega) (by omega)
theorem C_prefix {g : Mem} {o : Nat} {τ : Row} (hC : CR g o τ) (h : RI τ) : f_X2_prefix o g = some (nI (pre τ)) := by
  unfold f_X2_prefix
  obtain ⟨-, -, -, -, -, -, -, -, -, -, -, -, -, hcv, -⟩ := hC
  exact lp_C_prefix (β := Nat) hcv h _ fuel0 0 16 (by omega) (by have := fuel_gt; omega)
theorem leS {s p : Nat} (hs : s ≤ 100) (hp : p ≤ 100) : nI p < nI s - nI 3 ↔ p + 3 < s := by
  rw [Int32.lt_iff_toInt_lt, pk_sub_toInt (by omega) (by omega), nI_toInt (by omega)]
  omega
theorem C_isOpen {g : Mem} {o : Nat} {τ : Row} (hC : CR g o τ) (h : RI τ) {s : Nat} (h1 : s ≤ 16) : f_X2_isOpen o (nI s) g = some (decide (s ≤ pre τ + 3)) := by
  unfold f_X2_isOpen
  have := pre_le τ
  rw [C_prefix hC h, bnd_some, z3]
  by_cases h2 : s ≤ pre τ + 3
  · rw [if_neg (fun q => by have := (leS (by omega) (by omega)).mp q; omega), decide_eq_true h2]
  · rw [if_pos ((leS (by omega) (by omega)).mpr (by omega)), decide_eq_false h2]
theorem lp_C_voters {g : Mem} {o : Nat} {τ : Row} (hc : ∀ i, i < 16 → g (o + 10) (i + 1) = nI (τ (837 + i))) (h : RI τ) (k : Int32 → Option Int32) {s : Nat} (hs : s ≤ 16) : ∀ n v, v ≤ s - 3 → s - 3 - v < n → f_X2_votersOf_L5 k o (nI s) g n (nI (voN τ v)) (nI (v + 1)) = k (nI (voN τ (s - 3))) := by
  intro n
  induction n with
  | zero => intro v _ h; omega
  | succ n ih =>
    intro v hv hf
    rw [f_X2_votersOf_L5, if_neg (by rw [z16]; exact nI_nlt (by omega) (by omega))]
    have e1 : (nI s - (3 : Int32) < nI (v + 1)) ↔ s < v + 4 := by
      rw [z3, Int32.lt_iff_toInt_lt, pk_sub_toInt (by omega) (by omega), nI_toInt (by omega)]
      omega
    by_cases h3 : v = s - 3
    · rw [if_pos (e1.mpr (by omega)), h3]
    · have h1 := hc v (by omega)
      have h2 := h.2.2.2.2.2.1 (837 + v) (by omega) (by omega)
      rw [if_neg (fun q => by have := e1.mp q; omega), rd_nI (by omega) (by omega), bnd_some, h1]
      have e2 : voN τ (v + 1) = if 100 < τ (837 + v) then τ (837 + v) - 100 else voN τ v := by rw [voN]
      by_cases h4 : 100 < τ (837 + v)
      · rw [if_neg (by rw [z100]; exact nI_ge (by omega) (by omega)), bnd_some]
        unfold lt1
        rw [z100, pk_sub (by omega), z1, nI_add]
        have := ih (v + 1) (by omega) (by omega)
        rw [e2, if_pos h4] at this
        exact this
      · rw [if_pos (by rw [z100]; exact nI_le (by omega) (by omega))]
        unfold lt1
        rw [z1, nI_add]
        have := ih (v + 1) (by omega) (by omega)
        rw [e2, if_neg h4] at this
        exact this
theorem C_voters {g : Mem} {o : Nat} {τ : Row} (hC : CR g o τ) (h : RI τ) {s : Nat} (hs : s ≤ 16) : f_X2_votersOf o (nI s) g = some (nI (vo τ s)) := by
  unfold f_X2_votersOf
  obtain ⟨-, -, -, -, -, -, -, -, -, -, -, -, -, hcv, -⟩ := hC
  exact lp_C_voters hcv h _ hs fuel0 0 (by omega) (by have := fuel_gt; omega)
theorem imin_nI {a b : Nat} (ha : a < 2 ^ 31) (hb : b < 2 ^ 31) : imin (nI a) (nI b) = nI (min a b) := by
  unfold imin
  by_cases h : b < a
  · rw [if_pos (nI_lt h ha), Nat.min_eq_right (by omega)]
  · rw [if_neg (nI_nlt (by omega) hb), Nat.min_eq_left (by omega)]
theorem imax_nI {a b : Nat} (ha : a < 2 ^ 31) (hb : b < 2 ^ 31) : imax (nI a) (nI b) = nI (max a b) := by
  unfold imax
  by_cases h : a < b
  · rw [if_pos (nI_lt h hb), Nat.max_eq_right (by omega)]
  · rw [if_neg (nI_nlt (by omega) ha), Nat.max_eq_left (by omega)]
theorem C_second {g : Mem} {o : Nat} {τ : Row} (hC : CR g o τ) (h : RI τ) {v : Nat} (hv : v < 64) : f_X2_secondSize o (nI v) g = nI (min (τ 870) (pc v)) := by
  unfold f_X2_secondSize
  have h1 := h.1 870 (by omega)
  have h2 := pc_le v
  rw [hC.2.1, bc_nI v hv, imin_nI (by omega) (by omega)]
theorem C_first {g : Mem} {o : Nat} {τ : Row} (hC : CR g o τ) (h : RI τ) {v : Nat} (hv : v < 64) : f_X2_firstSize o (nI v) g = nI (pc v + 1 - min (τ 870) (pc v)) := by
  unfold f_X2_firstSize
  rw [C_second hC h hv, bc_nI v hv, z1, nI_add, pk_sub (by omega)]
theorem setN_lt (P : Nat → Bool) : ∀ n, setN P n < 2 ^ n := by
  intro n
  induction n with
  | zero => show 0 < 2 ^ 0; omega
  | succ n ih =>
    unfold setN
    have : 2 ^ (n + 1) = 2 ^ n + 2 ^ n := by rw [Nat.pow_succ]; omega
    split <;> omega
