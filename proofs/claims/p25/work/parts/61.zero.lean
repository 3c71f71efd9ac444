/-! the first memories -/
def r0 : Row := fun k => if k < 6 then 1 else if k = 870 then 2 else 0
def S0 : St := (r0, 0, fun _ => r0, false, r0, 0, fun _ => 0, none)
theorem RI_0 : RI r0 := by
  refine ⟨fun i hi => ?_, fun i hi => ?_, fun i hi => ?_, fun i hi => ?_, fun i hi => ?_, fun i hi hi2 => ?_, ?_, ?_⟩
  all_goals unfold r0
  all_goals repeat' split
  all_goals omega
theorem r0_z {k : Nat} (h1 : 6 ≤ k) (h2 : k ≠ 870) : r0 k = 0 := by unfold r0; rw [if_neg (by omega), if_neg h2]
theorem SI_0 : SI S0 := by
  refine ⟨⟨RI_0, fun s hs => ?_, fun p i hp hi h => ?_⟩, Nat.zero_le _, fun i hi => absurd hi (Nat.not_lt_zero i), fun h => absurd h (by decide), Nat.zero_le _, fun i hi => absurd hi (Nat.not_lt_zero i)⟩
  · rw [r0_z (by omega) (by omega), r0_z (by omega) (by omega)]
  · exact absurd (r0_z (by omega) (by omega)) h
theorem CR_0 {g : Mem} {o : Nat} (h0 : g o = g2I 0) (h : ∀ j, 1 ≤ j → j < 12 → g (o + j) = fun _ => 0) : CR g o r0 := by
  refine ⟨?_, ?_, ?_, ?_, ?_, fun i hi => ?_, fun i hi => ?_, fun i hi => ?_, fun i hi => ?_, fun i hi => ?_, fun i hi => ?_, fun i hi => ?_, fun p a s hp ha hs _ => ⟨?_, ?_⟩, fun i hi => ?_, fun i hi => ?_⟩
  · rw [h0]; decide
  · rw [h0]; decide
  · rw [h0]; decide
  · rw [h0]; decide
  · rw [h0]; decide
  all_goals rw [h _ (by omega) (by omega), r0_z (by omega) (by omega)]
  all_goals rfl
/-- the class's first memory -/
def gCI : Mem := fun q k => if q = 1 ∨ q = 13 ∨ q = 27 ∨ q = 39 ∨ q = 51 ∨ q = 63 ∨ q = 75 then g2I 0 k else 0
theorem gCI_0 {q : Nat} (h : ¬ (q = 1 ∨ q = 13 ∨ q = 27 ∨ q = 39 ∨ q = 51 ∨ q = 63 ∨ q = 75)) : gCI q = fun _ => 0 := by
  funext k
  unfold gCI
  rw [if_neg h]
theorem RC_0 : RC gCI S0 := by
  refine ⟨CR_0 ?_ (fun j h1 h2 => gCI_0 (by omega)), ⟨0, by decide, ?_, fun i hi => absurd hi (Nat.not_lt_zero i)⟩, ?_, ?_, fun h => absurd h (by decide), ?_, fun i hi => absurd hi (Nat.not_lt_zero i), ?_⟩
  · funext k
    unfold gCI
    rw [if_pos (Or.inl rfl)]
  · rw [gCI_0 (by omega)]; rfl
  · rw [gCI_0 (by omega)]; rfl
  · rw [gCI_0 (by omega)]; rfl
  · rw [gCI_0 (by omega)]; rfl
  · show gCI 0 6 = 0
    rw [gCI_0 (by omega)]