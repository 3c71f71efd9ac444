/-! the class's other calls -/
theorem rfC_fr {g g' : Mem} {rf : Option (Nat × Int32 × Nat)} (h : rfC g rf) (e : g' 0 = g 0) : rfC g' rf := by
  unfold rfC at h ⊢
  rw [e]
  exact h
def o_undo : St → Int32 × St
  | (τ, hn, hist, kf, sn, tn, txt, rf) => if hn = 0 then (-5, (τ, hn, hist, kf, sn, tn, txt, rf)) else (nI (hn - 1), (hist 0, hn - 1, fun i => hist (i + 1), kf, sn, tn, txt, rf))
def o_keep : St → Int32 × St
  | (τ, hn, hist, _, _, tn, txt, rf) => (nI (pre τ), (τ, hn, hist, true, τ, tn, txt, rf))
def o_restore : St → Int32 × St
  | (τ, hn, hist, kf, sn, tn, txt, rf) => if kf = true then (nI (pre sn), (sn, min 4 (hn + 1), push τ hist, kf, sn, tn, txt, rf)) else (-5, (τ, hn, hist, kf, sn, tn, txt, rf))
def o_type (c : Nat) : St → Int32 × St
  | (τ, hn, hist, kf, sn, tn, txt, rf) => if tn = 60 then (-3, (τ, hn, hist, kf, sn, tn, txt, rf)) else (nI (tn + 1), (τ, hn, hist, kf, sn, tn + 1, fun i => if i = tn then c else txt i, rf))
def o_clear : St → Int32 × St
  | (τ, hn, hist, kf, sn, tn, txt, rf) => (nI tn, (τ, hn, hist, kf, sn, 0, txt, rf))
def o_refusal (a : Int32) : St → Int32
  | (_, _, _, _, _, _, _, rf) => if a < 0 then -2 else if a ≤ 2 then (match rf with
    | none => -5
    | some (k, e, q) => if a = 0 then nI k else if a = 1 then e else nI q) else -2
section CALLS
variable {g : Mem} {τ : Row} {hn : Nat} {hist : Nat → Row} {kf : Bool} {sn : Row} {tn : Nat} {txt : Nat → Nat} {rf : Option (Nat × Int32 × Nat)}
theorem C_undo (hR : RC g (τ, hn, hist, kf, sn, tn, txt, rf)) (hI : SI (τ, hn, hist, kf, sn, tn, txt, rf)) : ∃ g', f_X4_undo g = some ((o_undo (τ, hn, hist, kf, sn, tn, txt, rf)).1, g') ∧ RC g' (o_undo (τ, hn, hist, kf, sn, tn, txt, rf)).2 := by
  obtain ⟨r1, ⟨nx, hx, r2, r3⟩, r4, r5, r6, r7, r8, r9⟩ := id hR
  obtain ⟨i1, i2, i3, i4, i5, i6⟩ := hI
  unfold f_X4_undo f_X0_bringBackLatest
  rw [r4]
  by_cases h : hn = 0
  · subst h
    rw [if_pos nI_0, bd2_some]
    exact ⟨g, rfl, hR⟩
  · have a2 : ∀ z, rowOf z = 27 + 12 * z := fun z => rfl
    have e1 : ∀ A, m_up g 25 1 A 25 2 = nI hn := fun A => by rw [mu_k (by decide), r4]
    rw [if_neg (fun z => h ((nI_z (by omega)).mp z)), r2, lt1, lt1, z5, nI_add, z1, pk_sub (by omega), pk_rem (by omega) (by omega) (by omega), e1, pk_sub (by omega), mu_k (by decide), mu_eq, show (nx + 5 - 1) % 5 = (nx + 4) % 5 from by omega, rowOf_r (by omega) g, bnd_some, C_copyE, bnd_some, bd2_some, cpS_q (by omega), mu_eq]
    have hu : o_undo (τ, hn, hist, kf, sn, tn, txt, rf) = (nI (hn - 1), (hist 0, hn - 1, fun i => hist (i + 1), kf, sn, tn, txt, rf)) := if_neg h
    rw [hu]
    refine ⟨_, rfl, ?_⟩
    have st : ∀ o τ', CR g o τ' → (25 < o ∨ o + 12 ≤ 25) → CR (m_up (m_up g 25 1 (nI ((nx + 4) % 5))) 25 2 (nI (hn - 1))) o τ' := fun o τ' hc ho => CR_fr hc (fun q h1 h2 => by rw [mu_q (by omega), mu_q (by omega)])
    have st2 : ∀ o τ', CR g o τ' → (25 < o ∨ o + 12 ≤ 25) → 13 ≤ o → CR (cpS (m_up (m_up g 25 1 (nI ((nx + 4) % 5))) 25 2 (nI (hn - 1))) 1 (rowOf ((nx + 4) % 5))) o τ' := fun o τ' hc ho h3 => CR_fr (st o τ' hc ho) (fun q h1 h2 => cpS_q (by omega))
    refine ⟨CR_copy (st _ _ (by have := r3 0 (by omega); rw [show (nx + 4 - 0) % 5 = (nx + 4) % 5 from by omega] at this; exact this) (by rw [a2]; omega)) (by rw [a2]; omega), ⟨(nx + 4) % 5, by omega, by rw [cpS_q (by omega), mu_k (by decide), mu_eq], fun i hi => ?_⟩, by rw [cpS_q (by omega), mu_eq], by rw [cpS_q (by omega), mu_o (by decide), mu_o (by decide)]; exact r5, fun q => st2 13 _ (r6 q) (by omega) (by omega), by rw [cpS_q (by omega), mu_o (by decide), mu_o (by decide)]; exact r7, fun i hi => by rw [cpS_q (by omega), mu_o (by decide), mu_o (by decide)]; exact r8 i hi, rfC_fr r9 (by rw [cpS_q (by omega), mu_q (by decide), mu_q (by decide)])⟩
    have := r3 (i + 1) (by omega)
    rw [show (nx + 4 - (i + 1)) % 5 = ((nx + 4) % 5 + 4 - i) % 5 from by omega] at this
    exact st2 _ _ this (by rw [a2]; omega) (by rw [a2]; omega)
theorem C_restore (hR : RC g (τ, hn, hist, kf, sn, tn, txt, rf)) (hI : SI (τ, hn, hist, kf, sn, tn, txt, rf)) : ∃ g', f_X4_restore g = some ((o_restore (τ, hn, hist, kf, sn, tn, txt, rf)).1, g') ∧ RC g' (o_restore (τ, hn, hist, kf, sn, tn, txt, rf)).2 := by
  have r5 := hR.2.2.2.1
  unfold f_X4_restore
  rw [r5]
  cases kf with
  | false =>
    rw [if_pos (show bI false = 0 from rfl)]
    exact ⟨g, rfl, hR⟩
  | true =>
    rw [if_neg (show ¬ bI true = 0 by decide)]
    have i4 := hI.2.2.2.1 rfl
    have hp := pre_le sn
    have key := C_act (fun g1 => (f_X2_copy 1 13 g1).bind fun g3 => ((f_X2_prefix 1 g3).bind fun x4 => some (x4, g3))) (fun _ => (nI (pre sn), sn)) (fun g1 _ h13 => by
      have hc := CR_copy (o := 1) (h13 rfl) (by omega)
      dsimp only
      rw [C_copyE, bnd_some, C_prefix hc i4.1, bnd_some]
      exact ⟨_, rfl, hc, Fr_copy⟩) (fun q => absurd q (nI_pos (by omega))) hR hI
    have e : ∀ g1, (bd2 ((f_X2_copy 1 13 g1).bind fun g3 => ((f_X2_prefix 1 g3).bind fun x4 => some (x4, g3))) fun x2 g3 => (bd2 (f_X4_settled x2 g3) fun x4 g5 => (some (x4, g5)))) = ((f_X2_copy 1 13 g1).bind fun g3 => ((f_X2_prefix 1 g3).bind fun x4 => (bd2 (f_X4_settled x4 g3) fun x5 g6 => (some (x5, g6))))) := by
      intro g1
      rw [C_copyE, bnd_some, bnd_some]
      cases f_X2_prefix 1 (cpS g1 1 13) <;> rfl
    simp only [e] at key
    have ho : o_act (fun _ => (nI (pre sn), sn)) (τ, hn, hist, true, sn, tn, txt, rf) = o_restore (τ, hn, hist, true, sn, tn, txt, rf) := o_act_p (nI_pos (by omega))
    rw [ho] at key
    exact key
theorem nar_c {c : Nat} (h : c < 65536) : vp_nar .char (nI c) = nI c := by
  rw [vp_nar_char]
  have e := pk_char (nI c)
  have t : (nI c).toBitVec.toNat = c := pk_tn (by omega)
  rw [t, Nat.mod_eq_of_lt h] at e
  have e2 := pk_vc (nI c)
  rw [e, vp_nar_char] at e2
  exact e2
theorem C_type (hR : RC g (τ, hn, hist, kf, sn, tn, txt, rf)) (hI : SI (τ, hn, hist, kf, sn, tn, txt, rf)) {c : Nat} (hc : c < 65536) : ∃ g', f_X4_type (nI c) g = some ((o_type c (τ, hn, hist, kf, sn, tn, txt, rf)).1, g') ∧ RC g' (o_type c (τ, hn, hist, kf, sn, tn, txt, rf)).2 := by
  obtain ⟨r1, ⟨nx, hx, r2, r3⟩, r4, r5, r6, r7, r8, r9⟩ := id hR
  obtain ⟨i1, i2, i3, i4, i5, i6⟩ := hI
  unfold f_X4_type f_X3_append
  rw [r7]
  by_cases h : tn = 60
  · have hu : o_type c (τ, hn, hist, kf, sn, tn, txt, rf) = (-3, (τ, hn, hist, kf, sn, tn, txt, rf)) := if_pos h
    rw [hu, if_neg (by rw [z60]; exact nI_nlt (by omega) (by omega)), bd2_some]
    exact ⟨g, rfl, hR⟩
  · have hu : o_type c (τ, hn, hist, kf, sn, tn, txt, rf) = (nI (tn + 1), (τ, hn, hist, kf, sn, tn + 1, fun i => if i = tn then c else txt i, rf)) := if_neg h
    rw [hu, if_pos (by rw [z60]; exact nI_lt (by omega) (by omega)), nar_c hc, wr_nI (by omega) (by omega), bnd_some, lt1, mu_eq, mu_o (show (87 : Nat) ≠ 88 by decide), r7, nI_1, bd2_some]
    have a2 : ∀ z, rowOf z = 27 + 12 * z := fun z => rfl
    have st : ∀ o τ', CR g o τ' → o + 12 ≤ 87 → CR (m_up (m_up g 88 tn (nI c)) 87 1 (nI (tn + 1))) o τ' := fun o τ' hc ho => CR_fr hc (fun q h1 h2 => by rw [mu_q (by omega), mu_q (by omega)])
    refine ⟨_, rfl, st _ _ r1 (by omega), ⟨nx, hx, by rw [mu_o (by decide), mu_o (by decide)]; exact r2, fun i hi => st _ _ (r3 i hi) (by rw [a2]; omega)⟩, by rw [mu_o (by decide), mu_o (by decide)]; exact r4, by rw [mu_o (by decide), mu_o (by decide)]; exact r5, fun q => st _ _ (r6 q) (by omega), by rw [mu_eq], fun i hi => ?_, rfC_fr r9 (by rw [mu_q (by decide), mu_q (by decide)])⟩
    rw [mu_o (by decide)]
    by_cases hi0 : i = tn
    · subst hi0
      rw [mu_eq]
      exact congrArg nI (if_pos rfl).symm
    · rw [mu_k hi0, r8 i (by omega)]
      exact congrArg nI (if_neg hi0).symm
theorem C_clear (hR : RC g (τ, hn, hist, kf, sn, tn, txt, rf)) : ∃ g', f_X4_clearText g = some ((o_clear (τ, hn, hist, kf, sn, tn, txt, rf)).1, g') ∧ RC g' (o_clear (τ, hn, hist, kf, sn, tn, txt, rf)).2 := by
  obtain ⟨r1, ⟨nx, hx, r2, r3⟩, r4, r5, r6, r7, r8, r9⟩ := hR
  unfold f_X4_clearText f_X3_empty
  rw [r7, lt1, lt1, bd2_some]
  have a2 : ∀ z, rowOf z = 27 + 12 * z := fun z => rfl
  have st : ∀ o τ', CR g o τ' → o + 12 ≤ 87 → o ≤ 75 → CR (m_up g 87 1 0) o τ' := fun o τ' hc ho _ => CR_fr hc (fun q h1 h2 => by rw [mu_q (by omega)])
  exact ⟨_, rfl, st _ _ r1 (by omega) (by omega), ⟨nx, hx, by rw [mu_o (by decide)]; exact r2, fun i hi => st _ _ (r3 i hi) (by rw [a2]; omega) (by rw [a2]; omega)⟩, by rw [mu_o (by decide)]; exact r4, by rw [mu_o (by decide)]; exact r5, fun q => st _ _ (r6 q) (by omega) (by omega), by rw [mu_eq]; rfl, fun i hi => absurd hi (Nat.not_lt_zero i), rfC_fr r9 (by rw [mu_q (by decide)])⟩
theorem C_refusal (hR : RC g (τ, hn, hist, kf, sn, tn, txt, rf)) (a : Int32) : f_X4_refusal a g = o_refusal a (τ, hn, hist, kf, sn, tn, txt, rf) := by
  have r9 := hR.2.2.2.2.2.2.2
  unfold f_X4_refusal
  cases rf with
  | none =>
    have e : g 0 6 = 0 := r9
    show _ = if a < 0 then (-2 : Int32) else if a ≤ 2 then -5 else -2
    rw [e, if_pos (c := (0 : Int32) = 0) rfl]
  | some q =>
    obtain ⟨k, e, q⟩ := q
    obtain ⟨q1, q2, q3, q4⟩ := r9
    show _ = if a < 0 then (-2 : Int32) else if a ≤ 2 then (if a = 0 then nI k else if a = 1 then e else nI q) else -2
    rw [q1, q2, q3, q4, if_neg (c := (1 : Int32) = 0) (by decide)]
end CALLS
