/-! p25: an error leaves the row (taken over from the whole check); the calls that the law makes -/
theorem ltN {n : Nat} (h : n < 2 ^ 31) : ¬ nI n < 0 := nI_pos h
def NP (τ : Row) (x : Int32 × Row) : Prop := x.1 < 0 → x.2 = τ
theorem NP_if {τ : Row} {c : Prop} [Decidable c] {a b : Int32 × Row} (h1 : c → NP τ a) (h2 : ¬ c → NP τ b) : NP τ (if c then a else b) := by
  by_cases h : c
  · rw [if_pos h]; exact h1 h
  · rw [if_neg h]; exact h2 h
theorem NP_rf {τ : Row} {x : Int32} : NP τ (x, τ) := fun _ => rfl
theorem NP_nI {τ ρ : Row} {x : Nat} (h : x < 2 ^ 31) : NP τ (nI x, ρ) := fun q => absurd q (ltN h)
theorem NP_turn {τ : Row} (a : Int32) (up : Bool) : NP τ (s_turn a up τ) := by
  unfold s_turn s_turnN
  exact NP_if (fun _ => NP_if (fun _ => NP_rf) (fun _ => NP_nI (Nat.lt_of_le_of_lt (pc_le _) (by decide)))) (fun _ => NP_rf)
theorem NP_prepare {τ : Row} (a : Int32) : NP τ (s_prepare a τ) := by
  unfold s_prepare s_prepareN
  exact NP_if (fun _ => NP_if (fun q => NP_nI (by omega)) (fun _ => NP_rf)) (fun _ => NP_rf)
theorem NP_promise {τ : Row} (h : RI τ) (p a : Int32) : NP τ (s_promise p a τ) := by
  unfold s_promise
  refine NP_if (fun q => ?_) (fun _ => NP_rf)
  obtain ⟨q1, q2⟩ := Bool.and_eq_true_iff.mp q
  obtain ⟨p, hp, rfl⟩ := isP_of q1
  obtain ⟨a, ha, rfl⟩ := isA_of q2
  rw [nI_clamp (by omega), nI_clamp (by omega)]
  have b := h.1 (6 + a) (by omega)
  unfold s_promiseN
  exact NP_if (fun _ => NP_rf) (fun _ => NP_if (fun _ => NP_rf) (fun _ => NP_if (fun _ => NP_nI (by omega)) (fun _ => NP_nI (Nat.lt_of_le_of_lt (cntN_le _ 16) (by decide)))))
theorem NP_propose {τ : Row} (h : RI τ) (p s v : Int32) : NP τ (s_propose p s v τ) := by
  unfold s_propose
  refine NP_if (fun q => NP_if (fun q3 => ?_) (fun _ => NP_rf)) (fun _ => NP_rf)
  obtain ⟨q1, q2⟩ := Bool.and_eq_true_iff.mp q
  obtain ⟨p, hp, rfl⟩ := isP_of q1
  obtain ⟨s, hs1, hs2, rfl⟩ := isS_of q2
  obtain ⟨v, v1, v2, v3, rfl⟩ := isV_of q3
  rw [nI_clamp (by omega), nI_clamp (by omega), nI_clamp (by omega)]
  have b := bound_le h hp hs1 hs2
  unfold s_proposeN
  refine NP_if (fun _ => NP_nI ?_) (fun _ => NP_rf)
  split <;> omega
theorem NP_vote {τ : Row} (h : RI τ) (p s a : Int32) : NP τ (s_vote p s a τ) := by
  unfold s_vote
  refine NP_if (fun q => ?_) (fun _ => NP_rf)
  obtain ⟨q1, q2⟩ := Bool.and_eq_true_iff.mp q
  obtain ⟨q2, q3⟩ := Bool.and_eq_true_iff.mp q2
  obtain ⟨p, hp, rfl⟩ := isP_of q1
  obtain ⟨s, hs1, hs2, rfl⟩ := isS_of q2
  obtain ⟨a, ha, rfl⟩ := isA_of q3
  rw [nI_clamp (by omega), nI_clamp (by omega), nI_clamp (by omega)]
  have b := h.1 (6 + a) (by omega)
  unfold s_voteN
  exact NP_if (fun _ => NP_if (fun _ => NP_rf) (fun _ => NP_if (fun _ => NP_nI (by omega)) (fun _ => NP_nI (Nat.lt_of_le_of_lt (cntN_le _ 6) (by decide))))) (fun _ => NP_rf)
theorem allN_le (τ : Row) (s : Nat) (hs : s ≤ 16) : ∀ n, allN τ s n ≤ 16 * n := by
  intro n
  induction n with
  | zero => exact Nat.le_refl _
  | succ n ih =>
    rw [allN]
    have : votesN τ n s ≤ s := cntN_le _ s
    omega
theorem NP_trim {τ : Row} (s : Int32) : NP τ (s_trim s τ) := by
  unfold s_trim
  refine NP_if (fun q => ?_) (fun _ => NP_rf)
  obtain ⟨s, hs1, hs2, rfl⟩ := isS_of q
  rw [nI_clamp (by omega)]
  have := allN_le τ s hs2 6
  unfold s_trimN
  exact NP_if (fun _ => NP_rf) (fun _ => NP_if (fun _ => NP_rf) (fun _ => NP_nI (by omega)))
def acted (ρ : Row) : St → St
  | (τ, hn, hist, kf, sn, tn, txt, rf) => (ρ, min 4 (hn + 1), push τ hist, kf, sn, tn, txt, rf)
def SV : St → Prop
  | (τ, hn, hist, kf, sn, tn, txt, rf) => SI (τ, hn, hist, kf, sn, tn, txt, rf) ∧ INV τ ∧ (∀ i, i < hn → INV (hist i)) ∧ kf = false
theorem SI_act {f : Row → Int32 × Row} {S : St} (hf : ∀ τ, RK τ → RK (f τ).2) (h : SI S) : SI (o_act f S).2 := by
  obtain ⟨τ, hn, hist, kf, sn, tn, txt, rf⟩ := S
  obtain ⟨i1, i2, i3, i4, i5, i6⟩ := id h
  by_cases hneg : (f τ).1 < 0
  · rw [o_act_n hneg]; exact h
  · rw [o_act_p hneg]
    refine ⟨hf _ i1, Nat.min_le_left _ _, fun i hi => ?_, i4, i5, i6⟩
    unfold push
    by_cases h0 : i = 0
    · rw [if_pos h0]; exact i1
    · rw [if_neg h0]; exact i3 _ (by omega)
/-- what a call comes to: the answer; the new memory and state; the row of it; nothing where the answer is below 0, else one state more -/
def AC (F : Option (Int32 × Mem)) (x : Int32 × Row) (S : St) : Prop := ∃ g' S', F = some (x.1, g') ∧ RC g' S' ∧ SV S' ∧ S'.1 = x.2 ∧ (x.1 < 0 ∧ S' = S ∨ ¬ x.1 < 0 ∧ S' = acted x.2 S)
section CALLS
variable {g : Mem} {τ : Row} {hn : Nat} {hist : Nat → Row} {kf : Bool} {sn : Row} {tn : Nat} {txt : Nat → Nat} {rf : Option (Nat × Int32 × Nat)}
theorem A_act (F F2 : Mem → Option (Int32 × Mem)) (f : Row → Int32 × Row) (hX : ∀ g, F2 g = (f_X0_draft 1 g).bind fun g1 => (bd2 (F g1) fun x2 g3 => (bd2 (f_X4_settled x2 g3) fun x4 g5 => (some (x4, g5))))) (hF : ∀ g τ, CR g 1 τ → RI τ → ∃ g', F g = some ((f τ).1, g') ∧ CR g' 1 (f τ).2 ∧ Fr 1 g g') (hN : ∀ τ, RI τ → NP τ (f τ)) (hf : ∀ τ, RK τ → RK (f τ).2) (hV : ∀ τ, RK τ → INV τ → INV (f τ).2) (hR : RC g (τ, hn, hist, kf, sn, tn, txt, rf)) (hS : SV (τ, hn, hist, kf, sn, tn, txt, rf)) : AC (F2 g) (f τ) (τ, hn, hist, kf, sn, tn, txt, rf) := by
  obtain ⟨hI, s2, s3, s4⟩ := id hS
  obtain ⟨g', e1, r1⟩ := C_act F f (fun g1 hc _ => hF g1 τ hc hI.1.1) (hN τ hI.1.1) hR hI
  have hi := SI_act hf hI
  by_cases hneg : (f τ).1 < 0
  · rw [o_act_n hneg] at e1 r1 hi
    exact ⟨g', _, (hX g).trans e1, r1, hS, (hN τ hI.1.1 hneg).symm, Or.inl ⟨hneg, rfl⟩⟩
  · rw [o_act_p hneg] at e1 r1 hi
    refine ⟨g', _, (hX g).trans e1, r1, ⟨hi, hV τ hI.1 s2, fun i hlt => ?_, s4⟩, rfl, Or.inr ⟨hneg, rfl⟩⟩
    unfold push
    by_cases h0 : i = 0
    · rw [if_pos h0]; exact s2
    · rw [if_neg h0]; exact s3 _ (by omega)
theorem E_turn {a : Nat} (ha : a < 6) (up : Bool) (τ : Row) : s_turn (nI a) up τ = s_turnN a up τ := by
  unfold s_turn
  rw [isA_nI ha, if_pos rfl, nI_clamp (by omega)]
theorem E_prepare {p : Nat} (hp : p < 3) (τ : Row) : s_prepare (nI p) τ = s_prepareN p τ := by
  unfold s_prepare
  rw [isP_nI hp, if_pos rfl, nI_clamp (by omega)]
theorem E_promise {p a : Nat} (hp : p < 3) (ha : a < 6) (τ : Row) : s_promise (nI p) (nI a) τ = s_promiseN p a τ := by
  unfold s_promise
  rw [isP_nI hp, isA_nI ha, if_pos (c := (true && true) = true) rfl, nI_clamp (by omega), nI_clamp (by omega)]
theorem isV_nI {v : Nat} (h1 : 1 ≤ v) (h2 : v ≤ 99 ∨ 101 ≤ v ∧ v ≤ 163) : isV (nI v) = true := by
  unfold isV
  simp only [Bool.and_eq_true, Bool.or_eq_true, decide_eq_true_eq]
  rw [z1, z99, z101, z163, nI_leI (by omega) (by omega), nI_leI (by omega) (by omega), nI_leI (by omega) (by omega), nI_leI (by omega) (by omega)]
  exact ⟨h1, h2⟩
theorem E_propose {p s v : Nat} (hp : p < 3) (hs1 : 1 ≤ s) (hs2 : s ≤ 16) (h1 : 1 ≤ v) (h2 : v ≤ 99 ∨ 101 ≤ v ∧ v ≤ 163) (τ : Row) : s_propose (nI p) (nI s) (nI v) τ = s_proposeN p s v τ := by
  unfold s_propose
  rw [isP_nI hp, isS_nI hs1 hs2, if_pos (c := (true && true) = true) rfl, isV_nI h1 h2, if_pos rfl, nI_clamp (by omega), nI_clamp (by omega), nI_clamp (by omega)]
theorem E_propose0 {p s : Nat} (hp : p < 3) (hs1 : 1 ≤ s) (hs2 : s ≤ 16) (τ : Row) : s_propose (nI p) (nI s) 100 τ = (-2, τ) := by
  unfold s_propose
  rw [isP_nI hp, isS_nI hs1 hs2, if_pos (c := (true && true) = true) rfl, if_neg (by decide)]
theorem E_vote {p s a : Nat} (hp : p < 3) (hs1 : 1 ≤ s) (hs2 : s ≤ 16) (ha : a < 6) (τ : Row) : s_vote (nI p) (nI s) (nI a) τ = s_voteN p s a τ := by
  unfold s_vote
  rw [isP_nI hp, isS_nI hs1 hs2, isA_nI ha, if_pos (c := (true && (true && true)) = true) rfl, nI_clamp (by omega), nI_clamp (by omega), nI_clamp (by omega)]
theorem E_trim {s : Nat} (hs1 : 1 ≤ s) (hs2 : s ≤ 16) (τ : Row) : s_trim (nI s) τ = s_trimN s τ := by
  unfold s_trim
  rw [isS_nI hs1 hs2, if_pos rfl, nI_clamp (by omega)]
theorem E_trim0 (τ : Row) : s_trim 17 τ = (-1, τ) := by
  unfold s_trim
  rw [if_neg (by decide)]
theorem A_setUp (hR : RC g (τ, hn, hist, kf, sn, tn, txt, rf)) (hS : SV (τ, hn, hist, kf, sn, tn, txt, rf)) {a : Nat} (ha : a < 6) (up : Bool) : AC (f_X4_setUp (nI a) up g) (s_turnN a up τ) (τ, hn, hist, kf, sn, tn, txt, rf) := by
  rw [← E_turn ha]
  exact A_act (f_X2_turn 1 (nI a) up) (f_X4_setUp (nI a) up) (s_turn (nI a) up) (fun _ => rfl) (fun _ _ hc h => C_turn hc h _ up) (fun _ _ => NP_turn _ up) (fun _ h => RK_turn h _ up) (fun τ _ h => by rw [E_turn ha]; exact INV_turnN h ha up) hR hS
theorem A_prepare (hR : RC g (τ, hn, hist, kf, sn, tn, txt, rf)) (hS : SV (τ, hn, hist, kf, sn, tn, txt, rf)) {p : Nat} (hp : p < 3) : AC (f_X4_prepare (nI p) g) (s_prepareN p τ) (τ, hn, hist, kf, sn, tn, txt, rf) := by
  rw [← E_prepare hp]
  exact A_act (f_X2_startBallot 1 (nI p)) (f_X4_prepare (nI p)) (s_prepare (nI p)) (fun _ => rfl) (fun _ _ hc h => C_prepare hc h _) (fun _ _ => NP_prepare _) (fun _ h => RK_prepare h _) (fun τ _ h => by rw [E_prepare hp]; exact INV_prepN h hp) hR hS
theorem A_promise (hR : RC g (τ, hn, hist, kf, sn, tn, txt, rf)) (hS : SV (τ, hn, hist, kf, sn, tn, txt, rf)) {p a : Nat} (hp : p < 3) (ha : a < 6) : AC (f_X4_promise (nI p) (nI a) g) (s_promiseN p a τ) (τ, hn, hist, kf, sn, tn, txt, rf) := by
  rw [← E_promise hp ha]
  exact A_act (f_X2_askPromise 1 (nI p) (nI a)) (f_X4_promise (nI p) (nI a)) (s_promise (nI p) (nI a)) (fun _ => rfl) (fun _ _ hc h => C_promise hc h _ _) (fun _ h => NP_promise h _ _) (fun _ h => RK_promise h _ _) (fun τ hk h => by rw [E_promise hp ha]; exact INV_promN hk h hp ha) hR hS
theorem A_propose (hR : RC g (τ, hn, hist, kf, sn, tn, txt, rf)) (hS : SV (τ, hn, hist, kf, sn, tn, txt, rf)) {p s v : Nat} (hp : p < 3) (hs1 : 1 ≤ s) (hs2 : s ≤ 16) (h1 : 1 ≤ v) (h2 : v ≤ 99 ∨ 101 ≤ v ∧ v ≤ 163) : AC (f_X4_propose (nI p) (nI s) (nI v) g) (s_proposeN p s v τ) (τ, hn, hist, kf, sn, tn, txt, rf) := by
  rw [← E_propose hp hs1 hs2 h1 h2]
  exact A_act (f_X2_offerValue 1 (nI p) (nI s) (nI v)) (f_X4_propose (nI p) (nI s) (nI v)) (s_propose (nI p) (nI s) (nI v)) (fun _ => rfl) (fun _ _ hc h => C_propose hc h _ _ _) (fun _ h => NP_propose h _ _ _) (fun _ h => RK_propose h _ _ _) (fun τ hk h => by rw [E_propose hp hs1 hs2 h1 h2]; exact INV_propN hk h hp hs1 hs2 (by omega)) hR hS
theorem A_propose0 (hR : RC g (τ, hn, hist, kf, sn, tn, txt, rf)) (hS : SV (τ, hn, hist, kf, sn, tn, txt, rf)) {p s : Nat} (hp : p < 3) (hs1 : 1 ≤ s) (hs2 : s ≤ 16) : AC (f_X4_propose (nI p) (nI s) 100 g) (-2, τ) (τ, hn, hist, kf, sn, tn, txt, rf) := by
  rw [← E_propose0 hp hs1 hs2]
  exact A_act (f_X2_offerValue 1 (nI p) (nI s) 100) (f_X4_propose (nI p) (nI s) 100) (s_propose (nI p) (nI s) 100) (fun _ => rfl) (fun _ _ hc h => C_propose hc h _ _ _) (fun _ h => NP_propose h _ _ _) (fun _ h => RK_propose h _ _ _) (fun τ hk h => by rw [E_propose0 hp hs1 hs2]; exact h) hR hS
theorem A_vote (hR : RC g (τ, hn, hist, kf, sn, tn, txt, rf)) (hS : SV (τ, hn, hist, kf, sn, tn, txt, rf)) {p s a : Nat} (hp : p < 3) (hs1 : 1 ≤ s) (hs2 : s ≤ 16) (ha : a < 6) : AC (f_X4_vote (nI p) (nI s) (nI a) g) (s_voteN p s a τ) (τ, hn, hist, kf, sn, tn, txt, rf) := by
  rw [← E_vote hp hs1 hs2 ha]
  exact A_act (f_X2_askVote 1 (nI p) (nI s) (nI a)) (f_X4_vote (nI p) (nI s) (nI a)) (s_vote (nI p) (nI s) (nI a)) (fun _ => rfl) (fun _ _ hc h => C_vote hc h _ _ _) (fun _ h => NP_vote h _ _ _) (fun _ h => RK_vote h _ _ _) (fun τ hk h => by rw [E_vote hp hs1 hs2 ha]; exact INV_voteN hk h hp hs1 hs2 ha) hR hS
theorem A_trim (hR : RC g (τ, hn, hist, kf, sn, tn, txt, rf)) (hS : SV (τ, hn, hist, kf, sn, tn, txt, rf)) {s : Nat} (hs1 : 1 ≤ s) (hs2 : s ≤ 16) : AC (f_X4_trim (nI s) g) (s_trimN s τ) (τ, hn, hist, kf, sn, tn, txt, rf) := by
  rw [← E_trim hs1 hs2]
  exact A_act (f_X2_forgetUpTo 1 (nI s)) (f_X4_trim (nI s)) (s_trim (nI s)) (fun _ => rfl) (fun _ _ hc h => C_trim hc h _) (fun _ _ => NP_trim _) (fun _ h => RK_trim h _) (fun τ hk h => by rw [E_trim hs1 hs2]; exact INV_trimN h) hR hS
theorem A_trim0 (hR : RC g (τ, hn, hist, kf, sn, tn, txt, rf)) (hS : SV (τ, hn, hist, kf, sn, tn, txt, rf)) : AC (f_X4_trim 17 g) (-1, τ) (τ, hn, hist, kf, sn, tn, txt, rf) := by
  rw [← E_trim0]
  exact A_act (f_X2_forgetUpTo 1 17) (f_X4_trim 17) (s_trim 17) (fun _ => rfl) (fun _ _ hc h => C_trim hc h _) (fun _ _ => NP_trim _) (fun _ h => RK_trim h _) (fun τ hk h => by rw [E_trim0]; exact h) hR hS
end CALLS
