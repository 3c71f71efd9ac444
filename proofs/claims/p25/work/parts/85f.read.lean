/-! p25: what the law reads, at numbers -/
theorem orN_z {x : Nat} (h : x = 0) : orN x = -5 := if_pos h
theorem orN_p {x : Nat} (h : x ≠ 0) : orN x = nI x := if_neg h
theorem m5_lt : ((-5 : Int32) < 0) := by decide
theorem bI_inj {a b : Bool} : bI a = bI b ↔ a = b := by cases a <;> cases b <;> decide
theorem bI_if (c : Prop) [Decidable c] : bI (decide c) = nI (if c then 1 else 0) := by
  by_cases h : c
  · rw [decide_eq_true h, if_pos h]; rfl
  · rw [decide_eq_false h, if_neg h]; rfl
theorem orN_le0 {x : Nat} (h : x < 2 ^ 31) : orN x ≤ 0 ↔ x = 0 := by
  by_cases e : x = 0
  · rw [orN_z e]; exact ⟨fun _ => e, fun _ => by decide⟩
  · rw [orN_p e, z0, nI_leI h (by omega)]
    omega
theorem orN_ge0 {x : Nat} (h : x < 2 ^ 31) : 0 ≤ orN x ↔ x ≠ 0 := by
  by_cases e : x = 0
  · rw [orN_z e]; exact ⟨fun q => absurd q (by decide), fun q => absurd e q⟩
  · rw [orN_p e, z0, nI_leI (by omega) h]
    exact ⟨fun _ => e, fun _ => Nat.zero_le _⟩
theorem orN_le {x n : Nat} (h : x < 2 ^ 31) (hn : n < 2 ^ 31) : orN x ≤ nI n ↔ x ≤ n := by
  by_cases e : x = 0
  · rw [orN_z e]
    have h1 : (-5 : Int32) ≤ nI n := by
      rw [Int32.le_iff_toInt_le, nI_toInt hn]
      have : (-5 : Int32).toInt = -5 := by decide
      omega
    exact ⟨fun _ => by omega, fun _ => h1⟩
  · rw [orN_p e, nI_leI h hn]
theorem pre_ix {τ : Row} {i : Nat} (hi : i < 16) : i + 1 ≤ pre τ ↔ i ≤ pre τ ∧ τ (837 + i) ≠ 0 := by
  refine ⟨fun h => ⟨by omega, pre_ne (by omega)⟩, fun ⟨h1, h2⟩ => ?_⟩
  rcases Nat.eq_or_lt_of_le h1 with e | e
  · exact absurd (by rw [e]; exact pre_z (by omega)) h2
  · exact e
section READ
variable {g : Mem} {τ : Row}
theorem R_slot (hC : CR g 1 τ) (h : RI τ) {i : Nat} (hi : i < 16) (w : Int32) : f_X4_slot (nI (i + 1)) w g = some (if w = 0 then orN (τ (837 + i)) else if w = 1 then orN (τ (853 + i)) else if w = 2 then (if i + 1 ≤ pre τ + 3 then nI (vo τ (i + 1)) else -5) else if w = 3 then (if i + 1 ≤ pre τ + 3 then nI (fir τ (i + 1)) else -5) else if w = 4 then (if i + 1 ≤ pre τ + 3 then nI (sec τ (i + 1)) else -5) else if w = 5 then (if τ 869 < i + 1 then 0 else 1) else -2) := by
  rw [C_slot hC h]
  unfold o_slot
  rw [isS_nI (by omega) (by omega), if_pos rfl, nI_clamp (by omega)]
  rfl
theorem R_s0 (hC : CR g 1 τ) (h : RI τ) {i : Nat} (hi : i < 16) : f_X4_slot (nI (i + 1)) 0 g = some (orN (τ (837 + i))) := R_slot hC h hi 0
theorem R_s1 (hC : CR g 1 τ) (h : RI τ) {i : Nat} (hi : i < 16) : f_X4_slot (nI (i + 1)) 1 g = some (orN (τ (853 + i))) := R_slot hC h hi 1
theorem R_s2 (hC : CR g 1 τ) (h : RI τ) {i : Nat} (hi : i < 16) : f_X4_slot (nI (i + 1)) 2 g = some (if i + 1 ≤ pre τ + 3 then nI (vo τ (i + 1)) else -5) := R_slot hC h hi 2
theorem R_s3 (hC : CR g 1 τ) (h : RI τ) {i : Nat} (hi : i < 16) : f_X4_slot (nI (i + 1)) 3 g = some (if i + 1 ≤ pre τ + 3 then nI (fir τ (i + 1)) else -5) := R_slot hC h hi 3
theorem R_s4 (hC : CR g 1 τ) (h : RI τ) {i : Nat} (hi : i < 16) : f_X4_slot (nI (i + 1)) 4 g = some (if i + 1 ≤ pre τ + 3 then nI (sec τ (i + 1)) else -5) := R_slot hC h hi 4
theorem R_s5 (hC : CR g 1 τ) (h : RI τ) {i : Nat} (hi : i < 16) : f_X4_slot (nI (i + 1)) 5 g = some (if τ 869 < i + 1 then 0 else 1) := R_slot hC h hi 5
theorem R_slotX (hC : CR g 1 τ) (h : RI τ) {s w : Int32} {v : Int32} (e : o_slot s w τ = v) : f_X4_slot s w g = some v := by rw [C_slot hC h, e]
theorem R_acc (hC : CR g 1 τ) (h : RI τ) {a : Nat} (ha : a < 6) (w : Int32) : f_X4_acceptor (nI a) w g = some (if w = 0 then nI (τ a) else if w = 1 then nI (τ (6 + a)) else if w = 2 then nI (votesN τ a 16) else -2) := by
  rw [C_acceptor hC h]
  unfold o_acceptor
  rw [isA_nI ha, if_pos rfl, nI_clamp (by omega)]
theorem R_a0 (hC : CR g 1 τ) (h : RI τ) {a : Nat} (ha : a < 6) : f_X4_acceptor (nI a) 0 g = some (nI (τ a)) := R_acc hC h ha 0
theorem R_a1 (hC : CR g 1 τ) (h : RI τ) {a : Nat} (ha : a < 6) : f_X4_acceptor (nI a) 1 g = some (nI (τ (6 + a))) := R_acc hC h ha 1
theorem R_a2 (hC : CR g 1 τ) (h : RI τ) {a : Nat} (ha : a < 6) : f_X4_acceptor (nI a) 2 g = some (nI (votesN τ a 16)) := R_acc hC h ha 2
theorem R_vot (hC : CR g 1 τ) (h : RI τ) {a i : Nat} (ha : a < 6) (hi : i < 16) (w : Int32) : f_X4_voted (nI a) (nI (i + 1)) w g = some (if w < 0 then -2 else if w ≤ 1 then (if τ (12 + 2 * (16 * a + i)) = 0 then -5 else if w = 0 then nI (τ (12 + 2 * (16 * a + i))) else nI (τ (13 + 2 * (16 * a + i)))) else -2) := by
  rw [C_voted hC h]
  unfold o_voted
  rw [isA_nI ha, isS_nI (by omega) (by omega), if_pos (c := (true && true) = true) rfl, nI_clamp (by omega), nI_clamp (by omega), show 16 * a + (i + 1) - 1 = 16 * a + i from by omega]
theorem R_v0 (hC : CR g 1 τ) (h : RI τ) {a i : Nat} (ha : a < 6) (hi : i < 16) : f_X4_voted (nI a) (nI (i + 1)) 0 g = some (orN (τ (12 + 2 * (16 * a + i)))) := R_vot hC h ha hi 0
theorem R_v1 (hC : CR g 1 τ) (h : RI τ) {a i : Nat} (ha : a < 6) (hi : i < 16) : f_X4_voted (nI a) (nI (i + 1)) 1 g = some (if τ (12 + 2 * (16 * a + i)) = 0 then -5 else nI (τ (13 + 2 * (16 * a + i)))) := R_vot hC h ha hi 1
theorem R_prp (hC : CR g 1 τ) (h : RI τ) {p : Nat} (hp : p < 3) (w : Int32) : f_X4_proposer (nI p) w g = some (if w = 0 then nI (τ (204 + p)) else if w = 1 then nI (τ (207 + p)) else if w = 2 then nI (τ (210 + p)) else if w = 3 then nI (cntN (fun j => decide (τ (789 + (16 * p + j)) ≠ 0)) 16) else -2) := by
  rw [C_proposer hC h]
  unfold o_proposer
  rw [isP_nI hp, if_pos rfl, nI_clamp (by omega)]
theorem R_p0 (hC : CR g 1 τ) (h : RI τ) {p : Nat} (hp : p < 3) : f_X4_proposer (nI p) 0 g = some (nI (τ (204 + p))) := R_prp hC h hp 0
theorem R_p1 (hC : CR g 1 τ) (h : RI τ) {p : Nat} (hp : p < 3) : f_X4_proposer (nI p) 1 g = some (nI (τ (207 + p))) := R_prp hC h hp 1
theorem R_p2 (hC : CR g 1 τ) (h : RI τ) {p : Nat} (hp : p < 3) : f_X4_proposer (nI p) 2 g = some (nI (τ (210 + p))) := R_prp hC h hp 2
theorem R_p3 (hC : CR g 1 τ) (h : RI τ) {p : Nat} (hp : p < 3) : f_X4_proposer (nI p) 3 g = some (nI (cntN (fun j => decide (τ (789 + (16 * p + j)) ≠ 0)) 16)) := R_prp hC h hp 3
theorem R_ppd (hC : CR g 1 τ) (h : RI τ) {p i : Nat} (hp : p < 3) (hi : i < 16) (w : Int32) : f_X4_proposed (nI p) (nI (i + 1)) w g = some (if w = 0 then orN (τ (789 + (16 * p + i))) else if w = 1 then (if i + 1 ≤ pre τ + 3 then nI (bound τ p (i + 1)) else -5) else if w = 2 then (if i + 1 ≤ pre τ + 3 then nI (lack τ p (i + 1)) else -5) else -2) := by
  rw [C_proposed hC h]
  unfold o_proposed
  rw [isP_nI hp, isS_nI (by omega) (by omega), if_pos (c := (true && true) = true) rfl, nI_clamp (by omega), nI_clamp (by omega), show 16 * p + (i + 1) - 1 = 16 * p + i from by omega]
theorem R_d0 (hC : CR g 1 τ) (h : RI τ) {p i : Nat} (hp : p < 3) (hi : i < 16) : f_X4_proposed (nI p) (nI (i + 1)) 0 g = some (orN (τ (789 + (16 * p + i)))) := R_ppd hC h hp hi 0
theorem R_d1 (hC : CR g 1 τ) (h : RI τ) {p i : Nat} (hp : p < 3) (hi : i < 16) : f_X4_proposed (nI p) (nI (i + 1)) 1 g = some (if i + 1 ≤ pre τ + 3 then nI (bound τ p (i + 1)) else -5) := R_ppd hC h hp hi 1
theorem R_d2 (hC : CR g 1 τ) (h : RI τ) {p i : Nat} (hp : p < 3) (hi : i < 16) : f_X4_proposed (nI p) (nI (i + 1)) 2 g = some (if i + 1 ≤ pre τ + 3 then nI (lack τ p (i + 1)) else -5) := R_ppd hC h hp hi 2
variable {hn tn : Nat}
theorem R_c (hC : CR g 1 τ) (h : RI τ) (h1 : g 25 2 = nI hn) (h2 : g 87 1 = nI tn) (w : Int32) : f_X4_count w g = some (o_count w τ hn tn) := C_count hC h h1 h2 w
theorem R_c0 (hC : CR g 1 τ) (h : RI τ) (h1 : g 25 2 = nI hn) (h2 : g 87 1 = nI tn) : f_X4_count 0 g = some (nI (pre τ)) := C_count hC h h1 h2 0
theorem R_c1 (hC : CR g 1 τ) (h : RI τ) (h1 : g 25 2 = nI hn) (h2 : g 87 1 = nI tn) : f_X4_count 1 g = some (nI (cntN (fun j => decide (0 < τ (837 + j))) 16)) := C_count hC h h1 h2 1
theorem R_c2 (hC : CR g 1 τ) (h : RI τ) (h1 : g 25 2 = nI hn) (h2 : g 87 1 = nI tn) : f_X4_count 2 g = some (nI (τ 869)) := C_count hC h h1 h2 2
theorem R_c3 (hC : CR g 1 τ) (h : RI τ) (h1 : g 25 2 = nI hn) (h2 : g 87 1 = nI tn) : f_X4_count 3 g = some (nI (τ 870)) := C_count hC h h1 h2 3
theorem R_c4 (hC : CR g 1 τ) (h : RI τ) (h1 : g 25 2 = nI hn) (h2 : g 87 1 = nI tn) : f_X4_count 4 g = some (nI (upm τ)) := C_count hC h h1 h2 4
theorem R_c5 (hC : CR g 1 τ) (h : RI τ) (h1 : g 25 2 = nI hn) (h2 : g 87 1 = nI tn) : f_X4_count 5 g = some (nI (min 16 (pre τ + 3))) := C_count hC h h1 h2 5
theorem R_c6 (hC : CR g 1 τ) (h : RI τ) (h1 : g 25 2 = nI hn) (h2 : g 87 1 = nI tn) : f_X4_count 6 g = some (nI (τ 871)) := C_count hC h h1 h2 6
theorem R_c8 (hC : CR g 1 τ) (h : RI τ) (h1 : g 25 2 = nI hn) (h2 : g 87 1 = nI tn) : f_X4_count 8 g = some (nI (cntN (fun j => decide (100 < τ (837 + j))) 16)) := C_count hC h h1 h2 8
theorem R_c9 (hC : CR g 1 τ) (h : RI τ) (h1 : g 25 2 = nI hn) (h2 : g 87 1 = nI tn) : f_X4_count 9 g = some (nI hn) := C_count hC h h1 h2 9
end READ
/-! the law's own small methods -/
theorem shr_bit : ∀ k, k < 64 → ∀ a, a < 6 → (nI k >>> (nI a &&& 31)) &&& 1 = bI (hs k a) := by decide +kernel
theorem lp_bits (K : Int32 → Option Int32) {k : Nat} (hk : k < 64) : ∀ n a, a ≤ 6 → 6 - a < n → f_L_bits_L4 K (nI k) n (nI (cntN (hs k) a)) (nI a) = K (nI (cntN (hs k) 6)) := by
  intro n
  induction n with
  | zero => intro a _ h; exact absurd h (Nat.not_lt_zero _)
  | succ n ih =>
    intro a ha hn
    rw [f_L_bits_L4]
    by_cases e : a = 6
    · subst e
      rw [if_pos (by decide)]
    · have hc := cntN_le (hs k) a
      rw [if_neg (by rw [z6]; exact nI_ge (by omega) (by omega)), shr_bit k hk a (by omega), lt1, nI_1, lt1]
      have e2 : nI (cntN (hs k) a) + bI (hs k a) = nI (cntN (hs k) (a + 1)) := by
        show _ = nI (cntN (hs k) a + (if hs k a then 1 else 0))
        rw [← nI_add]
        cases hs k a <;> rfl
      rw [e2]
      exact ih (a + 1) (by omega) (by omega)
theorem R_bits {k : Nat} (hk : k < 64) : f_L_bits (nI k) = some (nI (pc k)) := by
  unfold f_L_bits
  have h1 := lp_bits (fun x4 => some x4) hk fuel0 0 (by omega) (by have := fuel_gt; omega)
  rw [pc_cnt k hk]
  exact h1
theorem R_low (x : Int32) {n : Nat} (h0 : 0 < n) (hn : n < 2 ^ 31) : ∃ r, r < n ∧ f_L_low x (nI n) = some (nI r) := by
  unfold f_L_low
  rw [if_neg (nI_ne0 h0 hn), pk_and x 31 (by decide)]
  have hm : x.toBitVec.toNat % 2 ^ 31 < 2 ^ 31 := Nat.mod_lt _ (by decide)
  exact ⟨x.toBitVec.toNat % 2 ^ 31 % n, Nat.mod_lt _ h0, congrArg some (pk_rem hm h0 hn)⟩
