/-! p25: what holds of every row: V a i b, 'a has voted b in slot i + 1 at some time'; Pv i b, 'what ballot b proposed there' -/
abbrev GV : Type := Nat → Nat → Nat → Bool
abbrev GP : Type := Nat → Nat → Nat
def SAFE (τ : Row) (V : GV) (i b : Nat) : Prop := fir τ (i + 1) ≤ cntN (fun a => hs (vo τ (i + 1)) a && (decide (b < τ (6 + a)) && !V a i b)) 6
def IA (τ : Row) (V : GV) (Pv : GP) : Prop := ∀ a i b, a < 6 → i < 16 → V a i b = true → 0 < b ∧ b ≤ τ (6 + a) ∧ Pv i b ≠ 0
def IB (τ : Row) (V : GV) (Pv : GP) : Prop := ∀ a i, a < 6 → i < 16 → (i < τ 869 → τ (12 + 2 * (16 * a + i)) = 0) ∧ (τ 869 ≤ i → (τ (12 + 2 * (16 * a + i)) ≠ 0 → V a i (τ (12 + 2 * (16 * a + i))) = true ∧ τ (13 + 2 * (16 * a + i)) = Pv i (τ (12 + 2 * (16 * a + i)))) ∧ ∀ b, V a i b = true → b ≤ τ (12 + 2 * (16 * a + i)))
def IC (τ : Row) (V : GV) (Pv : GP) : Prop := ∀ p a, p < 3 → a < 6 → hs (τ (210 + p)) a = true → τ (204 + p) ≤ τ (6 + a) ∧ ∀ i, i < 16 → τ 869 ≤ i → τ (213 + 2 * (96 * p + 16 * a + i)) < τ (204 + p) ∧ (τ (213 + 2 * (96 * p + 16 * a + i)) ≠ 0 → V a i (τ (213 + 2 * (96 * p + 16 * a + i))) = true ∧ τ (214 + 2 * (96 * p + 16 * a + i)) = Pv i (τ (213 + 2 * (96 * p + 16 * a + i)))) ∧ ∀ b, V a i b = true → b < τ (204 + p) → b ≤ τ (213 + 2 * (96 * p + 16 * a + i))
def ID (τ : Row) (Pv : GP) : Prop := (∀ p, p < 3 → (τ (204 + p) = 0 → τ (210 + p) = 0) ∧ (τ (204 + p) ≠ 0 → τ (204 + p) % 3 = (p + 1) % 3)) ∧ (∀ p i, p < 3 → i < 16 → τ (789 + (16 * p + i)) = Pv i (τ (204 + p)) ∧ (τ (789 + (16 * p + i)) ≠ 0 → lack τ p (i + 1) = 0)) ∧ (∀ i b, i < 16 → Pv i b ≠ 0 → b ≠ 0 ∧ b ≤ τ (204 + (b + 2) % 3)) ∧ τ 869 ≤ pre τ
def IE (τ : Row) (V : GV) (Pv : GP) : Prop := ∀ i b', i < 16 → Pv i b' ≠ 0 → i + 1 ≤ pre τ + 3 ∧ ∀ b, 0 < b → b < b' → Pv i b ≠ Pv i b' → SAFE τ V i b
def IF (τ : Row) (V : GV) (Pv : GP) : Prop := ∀ i, i < 16 → τ (837 + i) ≠ 0 → Pv i (τ (853 + i)) = τ (837 + i) ∧ sec τ (i + 1) ≤ cntN (fun a => hs (vo τ (i + 1)) a && V a i (τ (853 + i))) 6
def IV (τ : Row) (V : GV) (Pv : GP) : Prop := IA τ V Pv ∧ IB τ V Pv ∧ IC τ V Pv ∧ ID τ Pv ∧ IE τ V Pv ∧ IF τ V Pv
def INV (τ : Row) : Prop := ∃ V Pv, IV τ V Pv
/-! counts -/
theorem cnt_mono {P Q : Nat → Bool} : ∀ n, (∀ i, i < n → P i = true → Q i = true) → cntN P n ≤ cntN Q n := by
  intro n
  induction n with
  | zero => intro _; exact Nat.le_refl _
  | succ n ih =>
    intro h
    have h1 := ih (fun i hi => h i (by omega))
    have h2 := h n (by omega)
    show cntN P n + (if P n then 1 else 0) ≤ cntN Q n + (if Q n then 1 else 0)
    cases hP : P n with
    | false =>
      rw [if_neg (by decide)]
      omega
    | true =>
      rw [h2 hP]
      omega
theorem cnt_disj {P Q H : Nat → Bool} : ∀ n, (∀ i, i < n → P i = true → H i = true) → (∀ i, i < n → Q i = true → H i = true) → (∀ i, i < n → P i = true → Q i = true → False) → cntN P n + cntN Q n ≤ cntN H n := by
  intro n
  induction n with
  | zero => intro _ _ _; exact Nat.le_refl _
  | succ n ih =>
    intro h1 h2 h3
    have h4 := ih (fun i hi => h1 i (by omega)) (fun i hi => h2 i (by omega)) (fun i hi => h3 i (by omega))
    have a1 := h1 n (by omega)
    have a2 := h2 n (by omega)
    have a3 := h3 n (by omega)
    show cntN P n + (if P n then 1 else 0) + (cntN Q n + (if Q n then 1 else 0)) ≤ cntN H n + (if H n then 1 else 0)
    cases hP : P n with
    | false =>
      cases hQ : Q n with
      | false =>
        rw [if_neg (by decide)]
        omega
      | true =>
        rw [a2 hQ, if_neg (by decide), if_pos rfl]
        omega
    | true =>
      cases hQ : Q n with
      | false =>
        rw [a1 hP, if_pos rfl, if_neg (by decide)]
        omega
      | true => exact absurd (a3 hP hQ) id
/-! the prefix, the voters of open slots -/
theorem preF_sp (τ : Row) : ∀ f m, m ≤ preF τ f m ∧ (∀ i, m ≤ i → i < preF τ f m → τ (837 + i) ≠ 0) ∧ (preF τ f m < f + m → τ (837 + preF τ f m) = 0) := by
  intro f
  induction f with
  | zero => intro m; rw [preF]; exact ⟨Nat.le_refl _, fun i h1 h2 => by omega, fun h => by omega⟩
  | succ f ih =>
    intro m
    rw [preF]
    by_cases h : τ (837 + m) = 0
    · rw [if_pos h]; exact ⟨Nat.le_refl _, fun i h1 h2 => by omega, fun _ => h⟩
    · rw [if_neg h]
      obtain ⟨h1, h2, h3⟩ := ih (m + 1)
      refine ⟨by omega, fun i hi1 hi2 => ?_, fun hl => h3 (by omega)⟩
      rcases Nat.eq_or_lt_of_le hi1 with e | e
      · rw [← e]; exact h
      · exact h2 i e hi2
theorem pre_ne {τ : Row} {i : Nat} (h : i < pre τ) : τ (837 + i) ≠ 0 := (preF_sp τ 16 0).2.1 i (Nat.zero_le _) h
theorem pre_z {τ : Row} (h : pre τ < 16) : τ (837 + pre τ) = 0 := (preF_sp τ 16 0).2.2 h
theorem pre_mono {τ τ' : Row} (h : ∀ i, i < 16 → τ (837 + i) ≠ 0 → τ' (837 + i) ≠ 0) : pre τ ≤ pre τ' := by
  rcases Nat.lt_or_ge (pre τ') (pre τ) with q | q
  · have h1 := pre_le τ
    exact absurd (pre_z (τ := τ') (by omega)) (h _ (by omega) (pre_ne q))
  · exact q
/-- the open slots stay open, with their voters -/
def OP (τ τ' : Row) : Prop := τ' 870 = τ 870 ∧ pre τ ≤ pre τ' ∧ ∀ i, i < 16 → i + 1 ≤ pre τ + 3 → vo τ' (i + 1) = vo τ (i + 1)
theorem OP_same {τ τ' : Row} (h0 : τ' 870 = τ 870) (h : ∀ i, i < 16 → τ' (837 + i) = τ (837 + i)) : OP τ τ' :=
  ⟨h0, pre_mono (fun i hi hn => by rw [h i hi]; exact hn), fun i hi _ => voN_same _ (fun k hk => h k (by omega))⟩
theorem OP_choose {τ τ' : Row} {i : Nat} (h0 : τ' 870 = τ 870) (hz : τ (837 + i) = 0) (hw : τ' (837 + i) ≠ 0) (h : ∀ k, k < 16 → k ≠ i → τ' (837 + k) = τ (837 + k)) : OP τ τ' := by
  refine ⟨h0, pre_mono (fun k hk hn => ?_), fun j hj ho => voN_same _ (fun k hk => h k (by omega) (fun e => ?_))⟩
  · by_cases e : k = i
    · subst e; exact hw
    · rw [h k hk e]; exact hn
  · subst e
    exact pre_ne (by omega) hz
theorem OP_sec {τ τ' : Row} (h : OP τ τ') {i : Nat} (hi : i < 16) (ho : i + 1 ≤ pre τ + 3) : sec τ' (i + 1) = sec τ (i + 1) := by
  unfold sec
  rw [h.1, h.2.2 i hi ho]
theorem OP_fir {τ τ' : Row} (h : OP τ τ') {i : Nat} (hi : i < 16) (ho : i + 1 ≤ pre τ + 3) : fir τ' (i + 1) = fir τ (i + 1) := by
  unfold fir
  rw [OP_sec h hi ho, h.2.2 i hi ho]
theorem OP_lack {τ τ' : Row} (h : OP τ τ') {p i : Nat} (hi : i < 16) (ho : i + 1 ≤ pre τ + 3) (hp : τ' (210 + p) = τ (210 + p)) : lack τ' p (i + 1) = lack τ p (i + 1) := by
  unfold lack
  rw [OP_fir h hi ho, h.2.2 i hi ho, hp]
theorem SAFE_mono {τ τ' : Row} {V V' : GV} {i b : Nat} (hO : OP τ τ') (hi : i < 16) (ho : i + 1 ≤ pre τ + 3) (h : ∀ a, a < 6 → b < τ (6 + a) → V a i b = false → b < τ' (6 + a) ∧ V' a i b = false) (hsf : SAFE τ V i b) : SAFE τ' V' i b := by
  unfold SAFE at hsf ⊢
  rw [OP_fir hO hi ho, hO.2.2 i hi ho]
  refine Nat.le_trans hsf (cnt_mono 6 (fun a ha hq => ?_))
  simp only [Bool.and_eq_true, decide_eq_true_eq, Bool.not_eq_true'] at hq ⊢
  obtain ⟨q1, q2, q3⟩ := hq
  exact ⟨q1, h a ha q2 q3⟩
/-- the same ghosts, another row: what is known of ballots' safety stays -/
theorem IE_of {τ τ' : Row} {V V' : GV} {Pv : GP} (hO : OP τ τ') (h : ∀ a i b, a < 6 → i < 16 → b < τ (6 + a) → V a i b = false → b < τ' (6 + a) ∧ V' a i b = false) (hE : IE τ V Pv) : IE τ' V' Pv := by
  intro i b' hi hb
  obtain ⟨h1, h2⟩ := hE i b' hi hb
  have := hO.2.1
  exact ⟨by omega, fun b hb0 hb1 hb2 => SAFE_mono hO hi h1 (fun a ha => h a i b ha hi) (h2 b hb0 hb1 hb2)⟩
theorem IF_of {τ τ' : Row} {V : GV} {Pv : GP} (hO : OP τ τ') (hc : ∀ i, i < 16 → τ' (837 + i) = τ (837 + i) ∧ τ' (853 + i) = τ (853 + i)) (hE : IE τ V Pv) (hF : IF τ V Pv) : IF τ' V Pv := by
  intro i hi hn
  rw [(hc i hi).1] at hn
  obtain ⟨h1, h2⟩ := hF i hi hn
  have ho := (hE i _ hi (by rw [h1]; exact hn)).1
  rw [(hc i hi).1, (hc i hi).2, OP_sec hO hi ho, hO.2.2 i hi ho]
  exact ⟨h1, h2⟩
theorem ID_open {τ : Row} {V : GV} {Pv : GP} (hD : ID τ Pv) (hE : IE τ V Pv) {p i : Nat} (hp : p < 3) (hi : i < 16) (h : τ (789 + (16 * p + i)) ≠ 0) : i + 1 ≤ pre τ + 3 := (hE i (τ (204 + p)) hi (by rw [← (hD.2.1 p i hp hi).1]; exact h)).1
/-- only what a row's ballots rest on counts -/
theorem INV_same {τ τ' : Row} (hI : INV τ) (h : ∀ k, 6 ≤ k → (k < 207 ∨ 210 ≤ k) → k < 871 → τ' k = τ k) : INV τ' := by
  obtain ⟨V, Pv, hA, hB, hC, hD, hE, hF⟩ := hI
  have hO : OP τ τ' := OP_same (h _ (by omega) (by omega) (by omega)) (fun i hi => h _ (by omega) (by omega) (by omega))
  refine ⟨V, Pv, fun a i b ha hi hv => ?_, fun a i ha hi => ?_, fun p a hp ha hv => ?_, ⟨fun p hp => ?_, fun p i hp hi => ?_, fun i b hi hb => ?_, ?_⟩, ?_, ?_⟩
  · rw [h (6 + a) (by omega) (by omega) (by omega)]
    exact hA a i b ha hi hv
  · rw [h (12 + 2 * (16 * a + i)) (by omega) (by omega) (by omega), h (13 + 2 * (16 * a + i)) (by omega) (by omega) (by omega), h 869 (by omega) (by omega) (by omega)]
    exact hB a i ha hi
  · rw [h (210 + p) (by omega) (by omega) (by omega)] at hv
    obtain ⟨c1, c2⟩ := hC p a hp ha hv
    rw [h (204 + p) (by omega) (by omega) (by omega), h (6 + a) (by omega) (by omega) (by omega), h 869 (by omega) (by omega) (by omega)]
    refine ⟨c1, fun i hi => ?_⟩
    rw [h (213 + 2 * (96 * p + 16 * a + i)) (by omega) (by omega) (by omega), h (214 + 2 * (96 * p + 16 * a + i)) (by omega) (by omega) (by omega)]
    exact c2 i hi
  · rw [h (204 + p) (by omega) (by omega) (by omega), h (210 + p) (by omega) (by omega) (by omega)]
    exact hD.1 p hp
  · rw [h (204 + p) (by omega) (by omega) (by omega), h (789 + (16 * p + i)) (by omega) (by omega) (by omega)]
    obtain ⟨d1, d2⟩ := hD.2.1 p i hp hi
    refine ⟨d1, fun hn => ?_⟩
    rw [OP_lack hO hi (ID_open hD hE hp hi hn) (h (210 + p) (by omega) (by omega) (by omega))]
    exact d2 hn
  · rw [h (204 + (b + 2) % 3) (by omega) (by omega) (by omega)]
    exact hD.2.2.1 i b hi hb
  · rw [h 869 (by omega) (by omega) (by omega)]
    exact Nat.le_trans hD.2.2.2 hO.2.1
  · exact IE_of hO (fun a i b ha hi h1 h2 => ⟨by rw [h (6 + a) (by omega) (by omega) (by omega)]; exact h1, h2⟩) hE
  · exact IF_of hO (fun i hi => ⟨h _ (by omega) (by omega) (by omega), h _ (by omega) (by omega) (by omega)⟩) hE hF
