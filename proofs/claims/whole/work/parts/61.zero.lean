/-! the first memories -/
def r0 : Row := fun k => if k < 6 then 1 else if k = 870 then 2 else 0
def S0 : St := (r0, 0, fun _ => r0, false, r0, 0, fun _ => 0, none)
set_option maxRecDepth 100000 in
theorem RM_0 : RM g5I S0 := by
  refine ⟨?_, rfl, fun i hi => absurd hi (Nat.not_lt_zero i), rfl, fun h => absurd h (by decide), rfl, rfl, fun i hi => absurd hi (Nat.not_lt_zero i), ?_⟩
  · show ∀ k, k < 873 → g5I 1 k = nI (r0 k)
    decide +kernel
  · show g5I 0 11 = -1
    rfl
theorem RI_0 : RI r0 := by
  refine ⟨fun i hi => ?_, fun i hi => ?_, fun i hi => ?_, fun i hi => ?_, fun i hi => ?_, fun i hi hi2 => ?_, ?_, ?_⟩
  all_goals unfold r0
  all_goals repeat' split
  all_goals omega
