/-! every call: both sides answer alike -/
def JS (g h : Mem) (S : St) : Prop := RC g S ∧ RM h S ∧ SI S
def BOTH (F G : Mem → Option (Int32 × Mem)) : Prop := ∀ g h S, JS g h S → ∃ v g' h' S', F g = some (v, g') ∧ G h = some (v, h') ∧ JS g' h' S'
def BOTHR (F G : Mem → Option Int32) : Prop := ∀ g h S, JS g h S → ∃ v, F g = some v ∧ G h = some v
theorem SI_act {f : Row → Int32 × Row} {S : St} (hf : ∀ τ, RK τ → RK (f τ).2) (h : SI S) : SI (o_act f S).2 := by
  obtain ⟨τ, hn, hist, kf, sn, tn, txt, rf⟩ := S
  obtain ⟨i1, i2, i3, i4, i5, i6⟩ := id h
  by_cases hneg : (f τ).1 < 0
  · rw [o_act_n hneg]; exact h
  · rw [o_act_p hneg]
    refine ⟨hf _ i1, Nat.min_le_left _ _, fun i hi => ?_, i4, i5, i6⟩
    unfold push
    by_cases h0 : i = 0
    · rw [if_pos h0]; exact i1
    · rw [if_neg h0]; exact i3 _ (by omega)
theorem BOTH_act (F G F2 : Mem → Option (Int32 × Mem)) (f : Row → Int32 × Row) (hX : ∀ g, F2 g = (f_X0_draft 1 g).bind fun g1 => (bd2 (F g1) fun x2 g3 => (bd2 (f_X4_settled x2 g3) fun x4 g5 => (some (x4, g5))))) (hF : ∀ g τ, CR g 1 τ → RI τ → ∃ g', F g = some ((f τ).1, g') ∧ CR g' 1 (f τ).2 ∧ Fr 1 g g') (hG : MAct G f) (hN : ∀ τ, RI τ → NP τ (f τ)) (hf : ∀ τ, RK τ → RK (f τ).2) : BOTH F2 G := by
  intro g h S hJ
  obtain ⟨τ, hn, hist, kf, sn, tn, txt, rf⟩ := S
  obtain ⟨hR, hM, hI⟩ := hJ
  obtain ⟨g', e1, r1⟩ := C_act F f (fun g1 hc _ => hF g1 τ hc hI.1.1) (hN τ hI.1.1) hR hI
  obtain ⟨h', e2, r2⟩ := M_act G f hG hM hI
  exact ⟨_, g', h', _, (hX g).trans e1, e2, r1, r2, SI_act hf hI⟩
theorem B_setUp (a : Int32) (up : Bool) : BOTH (f_X4_setUp a up) (f_X5_setUp a up) := BOTH_act (f_X2_turn 1 a up) _ _ (s_turn a up) (fun _ => rfl) (fun _ _ hc h => C_turn hc h a up) (M_turn a up) (fun _ _ => NP_turn a up) (fun _ h => RK_turn h a up)
theorem B_setSecond (a : Int32) : BOTH (f_X4_setSecond a) (f_X5_setSecond a) := BOTH_act (f_X2_resizeSecond 1 a) _ _ (s_second a) (fun _ => rfl) (fun _ _ hc h => C_second2 hc h a) (M_second2 a) (fun _ h => NP_second h a) (fun _ h => RK_second h a)
theorem B_prepare (a : Int32) : BOTH (f_X4_prepare a) (f_X5_prepare a) := BOTH_act (f_X2_startBallot 1 a) _ _ (s_prepare a) (fun _ => rfl) (fun _ _ hc h => C_prepare hc h a) (M_prepare a) (fun _ _ => NP_prepare a) (fun _ h => RK_prepare h a)
theorem B_promise (a b : Int32) : BOTH (f_X4_promise a b) (f_X5_promise a b) := BOTH_act (f_X2_askPromise 1 a b) _ _ (s_promise a b) (fun _ => rfl) (fun _ _ hc h => C_promise hc h a b) (M_promise a b) (fun _ h => NP_promise h a b) (fun _ h => RK_promise h a b)
theorem B_propose (a b c : Int32) : BOTH (f_X4_propose a b c) (f_X5_propose a b c) := BOTH_act (f_X2_offerValue 1 a b c) _ _ (s_propose a b c) (fun _ => rfl) (fun _ _ hc h => C_propose hc h a b c) (M_propose a b c) (fun _ h => NP_propose h a b c) (fun _ h => RK_propose h a b c)
theorem B_vote (a b c : Int32) : BOTH (f_X4_vote a b c) (f_X5_vote a b c) := BOTH_act (f_X2_askVote 1 a b c) _ _ (s_vote a b c) (fun _ => rfl) (fun _ _ hc h => C_vote hc h a b c) (M_vote a b c) (fun _ h => NP_vote h a b c) (fun _ h => RK_vote h a b c)
theorem B_trim (a : Int32) : BOTH (f_X4_trim a) (f_X5_trim a) := BOTH_act (f_X2_forgetUpTo 1 a) _ _ (s_trim a) (fun _ => rfl) (fun _ _ hc h => C_trim hc h a) (M_trim a) (fun _ _ => NP_trim a) (fun _ h => RK_trim h a)
theorem B_undo : BOTH f_X4_undo f_X5_undo := by
  intro g h S hJ
  obtain ⟨τ, hn, hist, kf, sn, tn, txt, rf⟩ := S
  obtain ⟨hR, hM, hI⟩ := hJ
  obtain ⟨g', e1, r1⟩ := C_undo hR hI
  obtain ⟨h', e2, r2⟩ := M_undo hM hI
  refine ⟨_, g', h', _, e1, e2, r1, r2, ?_⟩
  obtain ⟨i1, i2, i3, i4, i5, i6⟩ := id hI
  by_cases h0 : hn = 0
  · have hu : o_undo (τ, hn, hist, kf, sn, tn, txt, rf) = (-5, (τ, hn, hist, kf, sn, tn, txt, rf)) := if_pos h0
    rw [hu]; exact hI
  · have hu : o_undo (τ, hn, hist, kf, sn, tn, txt, rf) = (nI (hn - 1), (hist 0, hn - 1, fun i => hist (i + 1), kf, sn, tn, txt, rf)) := if_neg h0
    rw [hu]
    exact ⟨i3 0 (by omega), by omega, fun i hi => i3 _ (by omega), i4, i5, i6⟩
theorem B_keep : BOTH f_X4_keep f_X5_keep := by
  intro g h S hJ
  obtain ⟨τ, hn, hist, kf, sn, tn, txt, rf⟩ := S
  obtain ⟨hR, hM, hI⟩ := hJ
  obtain ⟨g', e1, r1⟩ := C_keep hR hI
  obtain ⟨h', e2, r2⟩ := M_keep hM hI
  refine ⟨_, g', h', _, e1, e2, r1, r2, ?_⟩
  obtain ⟨i1, i2, i3, i4, i5, i6⟩ := hI
  exact ⟨i1, i2, i3, fun _ => i1, i5, i6⟩
theorem B_restore : BOTH f_X4_restore f_X5_restore := by
  intro g h S hJ
  obtain ⟨τ, hn, hist, kf, sn, tn, txt, rf⟩ := S
  obtain ⟨hR, hM, hI⟩ := hJ
  obtain ⟨g', e1, r1⟩ := C_restore hR hI
  obtain ⟨h', e2, r2⟩ := M_restore hM hI
  refine ⟨_, g', h', _, e1, e2, r1, r2, ?_⟩
  obtain ⟨i1, i2, i3, i4, i5, i6⟩ := id hI
  by_cases h0 : kf = true
  · have hu : o_restore (τ, hn, hist, kf, sn, tn, txt, rf) = (nI (pre sn), (sn, min 4 (hn + 1), push τ hist, kf, sn, tn, txt, rf)) := if_pos h0
    rw [hu]
    refine ⟨i4 h0, Nat.min_le_left _ _, fun i hi => ?_, i4, i5, i6⟩
    unfold push
    by_cases h0 : i = 0
    · rw [if_pos h0]; exact i1
    · rw [if_neg h0]; exact i3 _ (by omega)
  · have hu : o_restore (τ, hn, hist, kf, sn, tn, txt, rf) = (-5, (τ, hn, hist, kf, sn, tn, txt, rf)) := if_neg h0
    rw [hu]; exact hI
theorem B_type {c : Nat} (hc : c < 65536) : BOTH (f_X4_type (nI c)) (f_X5_type (nI c)) := by
  intro g h S hJ
  obtain ⟨τ, hn, hist, kf, sn, tn, txt, rf⟩ := S
  obtain ⟨hR, hM, hI⟩ := hJ
  obtain ⟨g', e1, r1⟩ := C_type hR hI hc
  obtain ⟨h', e2, r2⟩ := M_type hM hI hc
  refine ⟨_, g', h', _, e1, e2, r1, r2, ?_⟩
  obtain ⟨i1, i2, i3, i4, i5, i6⟩ := id hI
  by_cases h0 : tn = 60
  · have hu : o_type c (τ, hn, hist, kf, sn, tn, txt, rf) = (-3, (τ, hn, hist, kf, sn, tn, txt, rf)) := if_pos h0
    rw [hu]; exact hI
  · have hu : o_type c (τ, hn, hist, kf, sn, tn, txt, rf) = (nI (tn + 1), (τ, hn, hist, kf, sn, tn + 1, fun i => if i = tn then c else txt i, rf)) := if_neg h0
    rw [hu]
    refine ⟨i1, i2, i3, i4, by omega, fun i hi => ?_⟩
    show (if i = tn then c else txt i) < 65536
    by_cases q : i = tn
    · rw [if_pos q]; exact hc
    · rw [if_neg q]; exact i6 i (by omega)
theorem B_clear : BOTH f_X4_clearText f_X5_clearText := by
  intro g h S hJ
  obtain ⟨τ, hn, hist, kf, sn, tn, txt, rf⟩ := S
  obtain ⟨hR, hM, hI⟩ := hJ
  obtain ⟨g', e1, r1⟩ := C_clear hR
  obtain ⟨h', e2, r2⟩ := M_clear hM
  refine ⟨_, g', h', _, e1, e2, r1, r2, ?_⟩
  obtain ⟨i1, i2, i3, i4, i5, i6⟩ := hI
  exact ⟨i1, i2, i3, i4, Nat.zero_le _, fun i hi => absurd hi (Nat.not_lt_zero i)⟩
theorem B_perform : BOTH f_X4_perform f_X5_perform := by
  intro g h S hJ
  obtain ⟨τ, hn, hist, kf, sn, tn, txt, rf⟩ := S
  obtain ⟨hR, hM, hI⟩ := hJ
  obtain ⟨g', e1, r1⟩ := C_perform hR hI
  obtain ⟨h', e2, r2⟩ := M_perform hM hI
  refine ⟨_, g', h', _, e1, e2, r1, r2, ?_⟩
  obtain ⟨i1, i2, i3, i4, i5, i6⟩ := id hI
  cases hr : (P_run (tx tn txt) tn 20 0).1 with
  | false => rw [o_perf_no hr]; exact hI
  | true =>
    cases hX : (X_go (tx tn txt) (P_run (tx tn txt) tn 20 0).2 0 τ).1 with
    | none =>
      rw [o_perf_ok hr hX]
      refine ⟨RK_go _ _ _ i1, Nat.min_le_left _ _, fun i hi => ?_, i4, i5, i6⟩
      unfold push
      by_cases h0 : i = 0
      · rw [if_pos h0]; exact i1
      · rw [if_neg h0]; exact i3 _ (by omega)
    | some q => rw [o_perf_rf hr hX]; exact ⟨i1, i2, i3, i4, i5, i6⟩
theorem B_acceptor (a w : Int32) : BOTHR (f_X4_acceptor a w) (f_X5_acceptor a w) := fun _ _ _ hJ => ⟨_, C_acceptor hJ.1.1 hJ.2.2.1.1 a w, M_acceptor hJ.2.1.1 hJ.2.2.1.1 a w⟩
theorem B_voted (a s w : Int32) : BOTHR (f_X4_voted a s w) (f_X5_voted a s w) := fun _ _ _ hJ => ⟨_, C_voted hJ.1.1 hJ.2.2.1.1 a s w, M_voted hJ.2.1.1 hJ.2.2.1.1 a s w⟩
theorem B_proposer (p w : Int32) : BOTHR (f_X4_proposer p w) (f_X5_proposer p w) := fun _ _ _ hJ => ⟨_, C_proposer hJ.1.1 hJ.2.2.1.1 p w, M_proposer hJ.2.1.1 hJ.2.2.1.1 p w⟩
theorem B_proposed (p s w : Int32) : BOTHR (f_X4_proposed p s w) (f_X5_proposed p s w) := fun _ _ _ hJ => ⟨_, C_proposed hJ.1.1 hJ.2.2.1.1 p s w, M_proposed hJ.2.1.1 hJ.2.2.1.1 p s w⟩
theorem B_slot (s w : Int32) : BOTHR (f_X4_slot s w) (f_X5_slot s w) := fun _ _ _ hJ => ⟨_, C_slot hJ.1.1 hJ.2.2.1.1 s w, M_slot hJ.2.1.1 hJ.2.2.1 s w⟩
theorem B_could (s b : Int32) : BOTHR (f_X4_could s b) (f_X5_could s b) := fun _ _ _ hJ => ⟨_, C_couldT hJ.1.1 hJ.2.2.1.1 s b, M_couldT hJ.2.1.1 hJ.2.2.1.1 s b⟩
theorem B_witness (a b c d : Int32) : BOTHR (fun _ => f_X4_witness a b c d) (fun _ => f_X5_witness a b c d) := fun _ _ _ _ => ⟨_, C_witness a b c d, M_witness a b c d⟩
theorem B_count (w : Int32) : BOTHR (f_X4_count w) (f_X5_count w) := by
  intro g h S hJ
  obtain ⟨τ, hn, hist, kf, sn, tn, txt, rf⟩ := S
  obtain ⟨hR, hM, hI⟩ := hJ
  exact ⟨_, C_count hR.1 hI.1.1 hR.2.2.1 hR.2.2.2.2.2.1 w, M_count hM.1 hI.1.1 hM.2.1 hM.2.2.2.2.2.2.1 w⟩
theorem B_refusal (a : Int32) : BOTHR (fun g => some (f_X4_refusal a g)) (fun h => some (f_X5_refusal a h)) := by
  intro g h S hJ
  obtain ⟨τ, hn, hist, kf, sn, tn, txt, rf⟩ := S
  obtain ⟨hR, hM, hI⟩ := hJ
  exact ⟨_, congrArg some (C_refusal hR a), congrArg some (M_refusal hM a)⟩
