/-! what is told: of a row, and of the whole -/
def orN (x : Nat) : Int32 := if x = 0 then -5 else nI x
def o_acceptor (a w : Int32) (τ : Row) : Int32 := if f_X4_isAcceptor a then (if w = 0 then nI (τ a.toNatClampNeg) else if w = 1 then nI (τ (6 + a.toNatClampNeg)) else if w = 2 then nI (votesN τ a.toNatClampNeg 16) else -2) else -1
def o_voted (a s w : Int32) (τ : Row) : Int32 := if f_X4_isAcceptor a && f_X4_isSlot s then (if w < 0 then -2 else if w ≤ 1 then (if τ (12 + 2 * (16 * a.toNatClampNeg + s.toNatClampNeg - 1)) = 0 then -5 else if w = 0 then nI (τ (12 + 2 * (16 * a.toNatClampNeg + s.toNatClampNeg - 1))) else nI (τ (13 + 2 * (16 * a.toNatClampNeg + s.toNatClampNeg - 1)))) else -2) else -1
def o_proposer (p w : Int32) (τ : Row) : Int32 := if f_X4_isProposer p then (if w = 0 then nI (τ (204 + p.toNatClampNeg)) else if w = 1 then nI (τ (207 + p.toNatClampNeg)) else if w = 2 then nI (τ (210 + p.toNatClampNeg)) else if w = 3 then nI (cntN (fun j => decide (τ (789 + (16 * p.toNatClampNeg + j)) ≠ 0)) 16) else -2) else -1
def o_proposed (p s w : Int32) (τ : Row) : Int32 := if f_X4_isProposer p && f_X4_isSlot s then (if w = 0 then orN (τ (789 + (16 * p.toNatClampNeg + s.toNatClampNeg - 1))) else if w = 1 then (if s.toNatClampNeg ≤ pre τ + 3 then nI (bound τ p.toNatClampNeg s.toNatClampNeg) else -5) else if w = 2 then (if s.toNatClampNeg ≤ pre τ + 3 then nI (lack τ p.toNatClampNeg s.toNatClampNeg) else -5) else -2) else -1
def o_slot (s w : Int32) (τ : Row) : Int32 := if f_X4_isSlot s then (if w = 0 then orN (τ (837 + (s.toNatClampNeg - 1))) else if w = 1 then orN (τ (853 + (s.toNatClampNeg - 1))) else if w = 2 then (if s.toNatClampNeg ≤ pre τ + 3 then nI (vo τ s.toNatClampNeg) else -5) else if w = 3 then (if s.toNatClampNeg ≤ pre τ + 3 then nI (fir τ s.toNatClampNeg) else -5) else if w = 4 then (if s.toNatClampNeg ≤ pre τ + 3 then nI (sec τ s.toNatClampNeg) else -5) else if w = 5 then (if τ 869 < s.toNatClampNeg then 0 else 1) else -2) else -1
def o_could (s b : Int32) (τ : Row) : Int32 := if f_X4_isSlot s then (if b < 1 then -2 else if b ≤ 999 then (if τ 869 < s.toNatClampNeg ∧ s.toNatClampNeg ≤ pre τ + 3 then (if sec τ s.toNatClampNeg ≤ cld τ s.toNatClampNeg b.toNatClampNeg then 1 else 0) else -4) else -2) else -1
def o_count (w : Int32) (τ : Row) (hn tn : Nat) : Int32 := if w = 0 then nI (pre τ) else if w = 1 then nI (cntN (fun j => decide (0 < τ (837 + j))) 16) else if w = 2 then nI (τ 869) else if w = 3 then nI (τ 870) else if w = 4 then nI (upm τ) else if w = 5 then nI (min 16 (pre τ + 3)) else if w = 6 then nI (τ 871) else if w = 7 then nI (τ 872) else if w = 8 then nI (cntN (fun j => decide (100 < τ (837 + j))) 16) else if w = 9 then nI hn else if w = 10 then nI tn else -2
/-- cut by a number: both sides of an if-chain over w -/
theorem ifc {α β : Type} {c : Prop} [Decidable c] {a b : Option α} {x y : α} (h1 : c → a = some x) (h2 : ¬ c → b = some y) : (if c then a else b) = some (if c then x else y) := by
  by_cases h : c
  · rw [if_pos h, if_pos h]; exact h1 h
  · rw [if_neg h, if_neg h]; exact h2 h
section READ
variable {g : Mem} {τ : Row}
theorem orN_nI {x : Nat} (h : x < 2 ^ 31) : f_X4_orNone (nI x) = orN x := by
  unfold f_X4_orNone orN
  by_cases e : x = 0
  · rw [if_pos (by rw [e]; rfl), if_pos e]
  · rw [if_neg (fun z => e ((nI_z h).mp z)), if_neg e]
theorem C_acceptor (hC : CR g 1 τ) (h : RI τ) (a w : Int32) : f_X4_acceptor a w g = some (o_acceptor a w τ) := by
  unfold f_X4_acceptor o_acceptor
  cases hv : f_X4_isAcceptor a with
  | false => rfl
  | true =>
    obtain ⟨k, hk, rfl⟩ := isA_of hv
    have b := h.2.1 k hk
    rw [if_pos rfl, if_pos rfl, nI_clamp (by omega), hC.1, has_nI _ (upm_lt h) _ hk, hs_upm h hk]
    refine ifc (β := Nat) (fun _ => ?_) (fun _ => ifc (β := Nat) (fun _ => ?_) (fun _ => ifc (β := Nat) (fun _ => ?_) (fun _ => rfl)))
    · by_cases e : τ k = 1
      · rw [decide_eq_true e, if_pos rfl, e]; rfl
      · rw [decide_eq_false e, if_neg (by decide), show τ k = 0 from by omega]; rfl
    · rw [rd_nI hk (by omega), bnd_some, hC.2.2.2.2.2.1 k hk]
    · rw [z16, C_votesOf hC h hk (by omega), bnd_some]; rfl
theorem C_voted (hC : CR g 1 τ) (h : RI τ) (a s w : Int32) : f_X4_voted a s w g = some (o_voted a s w τ) := by
  unfold f_X4_voted o_voted
  cases hv : f_X4_isAcceptor a with
  | false => rfl
  | true =>
    cases hw : f_X4_isSlot s with
    | false => rfl
    | true =>
      obtain ⟨k, hk, rfl⟩ := isA_of hv
      obtain ⟨j, hj1, hj, rfl⟩ := isS_of hw
      have b := h.1 (12 + 2 * (16 * k + j - 1)) (by omega)
      rw [if_pos rfl, if_pos rfl, if_pos (c := (true && true) = true) rfl, nI_clamp (by omega), nI_clamp (by omega)]
      refine ifc (β := Nat) (fun _ => rfl) (fun _ => ifc (β := Nat) (fun _ => ?_) (fun _ => rfl))
      rw [lt1, cell_nI hj1, rd_nI (by omega) (by omega), bnd_some, hC.2.2.2.2.2.2.1 _ (by omega)]
      by_cases e : τ (12 + 2 * (16 * k + j - 1)) = 0
      · rw [if_pos (by rw [e]; rfl), if_pos e]
      · rw [if_neg (fun z => e ((nI_z (by omega)).mp z)), if_neg e]
        refine ifc (β := Nat) (fun _ => by rw [bnd_some]) (fun _ => ?_)
        rw [rd_nI (by omega) (by omega), bnd_some, hC.2.2.2.2.2.2.2.1 _ (by omega)]
theorem C_proposer (hC : CR g 1 τ) (h : RI τ) (p w : Int32) : f_X4_proposer p w g = some (o_proposer p w τ) := by
  unfold f_X4_proposer o_proposer
  cases hv : f_X4_isProposer p with
  | false => rfl
  | true =>
    obtain ⟨k, hk, rfl⟩ := isP_of hv
    rw [if_pos rfl, if_pos rfl, nI_clamp (by omega)]
    refine ifc (β := Nat) (fun _ => ?_) (fun _ => ifc (β := Nat) (fun _ => ?_) (fun _ => ifc (β := Nat) (fun _ => ?_) (fun _ => ifc (β := Nat) (fun _ => ?_) (fun _ => rfl))))
    · rw [rd_nI hk (by omega), bnd_some, hC.2.2.2.2.2.2.2.2.1 k hk]
    · rw [rd_nI hk (by omega), bnd_some, hC.2.2.2.2.2.2.2.2.2.1 k hk]
    · rw [rd_nI hk (by omega), bnd_some, hC.2.2.2.2.2.2.2.2.2.2.1 k hk]
    · rw [C_offersOf hC h hk, bnd_some]
theorem C_proposed (hC : CR g 1 τ) (h : RI τ) (p s w : Int32) : f_X4_proposed p s w g = some (o_proposed p s w τ) := by
  unfold f_X4_proposed o_proposed
  cases hv : f_X4_isProposer p with
  | false => rfl
  | true =>
    cases hw : f_X4_isSlot s with
    | false => rfl
    | true =>
      obtain ⟨k, hk, rfl⟩ := isP_of hv
      obtain ⟨j, hj1, hj, rfl⟩ := isS_of hw
      have b := h.1 (789 + (16 * k + j - 1)) (by omega)
      rw [if_pos rfl, if_pos rfl, if_pos (c := (true && true) = true) rfl, nI_clamp (by omega), nI_clamp (by omega)]
      refine ifc (β := Nat) (fun _ => ?_) (fun _ => ifc (β := Nat) (fun _ => ?_) (fun _ => ifc (β := Nat) (fun _ => ?_) (fun _ => rfl)))
      · rw [cell_nI hj1, rd_nI (by omega) (by omega), bnd_some, hC.2.2.2.2.2.2.2.2.2.2.2.1 _ (by omega), orN_nI (by omega)]
      · rw [C_isOpen hC h hj, bnd_some]
        by_cases e : j ≤ pre τ + 3
        · rw [decide_eq_true e, if_pos rfl, if_pos e, C_bound hC h hk hj1 hj, bnd_some]
        · rw [decide_eq_false e, if_neg (by decide), if_neg e]
      · rw [C_isOpen hC h hj, bnd_some]
        by_cases e : j ≤ pre τ + 3
        · rw [decide_eq_true e, if_pos rfl, if_pos e, C_missing hC h hk hj, bnd_some]
        · rw [decide_eq_false e, if_neg (by decide), if_neg e]
theorem C_slot (hC : CR g 1 τ) (h : RI τ) (s w : Int32) : f_X4_slot s w g = some (o_slot s w τ) := by
  unfold f_X4_slot o_slot
  cases hw : f_X4_isSlot s with
  | false => rfl
  | true =>
    obtain ⟨j, hj1, hj, rfl⟩ := isS_of hw
    have b := h.1 (837 + (j - 1)) (by omega)
    have b2 := h.1 (853 + (j - 1)) (by omega)
    have b3 := h.2.2.2.2.2.2.2
    have hv := vo_lt h hj
    have e10 := hC.2.2.2.2.2.2.2.2.2.2.2.2.2.1 (j - 1) (by omega)
    have e11 := hC.2.2.2.2.2.2.2.2.2.2.2.2.2.2 (j - 1) (by omega)
    rw [show j - 1 + 1 = j from by omega] at e10 e11
    rw [if_pos rfl, if_pos rfl, nI_clamp (by omega)]
    refine ifc (β := Nat) (fun _ => ?_) (fun _ => ifc (β := Nat) (fun _ => ?_) (fun _ => ifc (β := Nat) (fun _ => ?_) (fun _ => ifc (β := Nat) (fun _ => ?_) (fun _ => ifc (β := Nat) (fun _ => ?_) (fun _ => ifc (β := Nat) (fun _ => ?_) (fun _ => rfl))))))
    · rw [rd_nI (by omega) (by omega), bnd_some, e10, orN_nI (by omega)]
    · rw [rd_nI (by omega) (by omega), bnd_some, e11, orN_nI (by omega)]
    · rw [C_isOpen hC h hj, bnd_some]
      by_cases e : j ≤ pre τ + 3
      · rw [decide_eq_true e, if_pos rfl, if_pos e, C_voters hC h hj, bnd_some]
      · rw [decide_eq_false e, if_neg (by decide), if_neg e]
    · rw [C_isOpen hC h hj, bnd_some]
      by_cases e : j ≤ pre τ + 3
      · rw [decide_eq_true e, if_pos rfl, if_pos e, C_voters hC h hj, bnd_some, C_first hC h hv]; rfl
      · rw [decide_eq_false e, if_neg (by decide), if_neg e]
    · rw [C_isOpen hC h hj, bnd_some]
      by_cases e : j ≤ pre τ + 3
      · rw [decide_eq_true e, if_pos rfl, if_pos e, C_voters hC h hj, bnd_some, C_second hC h hv]; rfl
      · rw [decide_eq_false e, if_neg (by decide), if_neg e]
    · rw [hC.2.2.1]
      by_cases e : τ 869 < j
      · rw [if_pos (nI_lt e (by omega)), if_pos e]
      · rw [if_neg (nI_nlt (by omega) (by omega)), if_neg e]
theorem C_count {hn tn : Nat} (hC : CR g 1 τ) (h : RI τ) (h1 : g 25 2 = nI hn) (h2 : g 87 1 = nI tn) (w : Int32) : f_X4_count w g = some (o_count w τ hn tn) := by
  unfold f_X4_count o_count
  have hp := pre_le τ
  refine ifc (β := Nat) (fun _ => ?_) (fun _ => ifc (β := Nat) (fun _ => ?_) (fun _ => ifc (β := Nat) (fun _ => ?_) (fun _ => ifc (β := Nat) (fun _ => ?_) (fun _ => ifc (β := Nat) (fun _ => ?_) (fun _ => ifc (β := Nat) (fun _ => ?_) (fun _ => ifc (β := Nat) (fun _ => ?_) (fun _ => ifc (β := Nat) (fun _ => ?_) (fun _ => ifc (β := Nat) (fun _ => ?_) (fun _ => ifc (β := Nat) (fun _ => ?_) (fun _ => ifc (β := Nat) (fun _ => ?_) (fun _ => rfl)))))))))))
  · rw [C_prefix hC h, bnd_some]
  · rw [z0, C_chosenAbove hC h (by omega), bnd_some]
  · rw [hC.2.2.1]
  · rw [hC.2.1]
  · rw [hC.1]
  · rw [C_prefix hC h, bnd_some, z3, nI_add, z16, imin_nI (by omega) (by omega)]
  · rw [hC.2.2.2.1]
  · rw [hC.2.2.2.2.1]
  · rw [z100, C_chosenAbove hC h (by omega), bnd_some]
  · rw [h1]
  · rw [h2]
end READ
