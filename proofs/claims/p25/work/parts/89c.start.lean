/-! p25: the first calls -/
theorem pre_r0 : pre r0 = 0 := by
  unfold pre
  rw [preF, if_pos (r0_z (by omega) (by omega))]
theorem SV_0 : SV S0 := ⟨SI_0, INV_0, fun i hi => absurd hi (Nat.not_lt_zero i), rfl⟩
theorem Z_undo {g : Mem} (hR : RC g S0) : ∃ g', f_X4_undo g = some (-5, g') ∧ RC g' S0 := by
  obtain ⟨g', e1, r1⟩ := C_undo hR SI_0
  have ho : o_undo (r0, 0, fun _ => r0, false, r0, 0, fun _ => 0, none) = (-5, S0) := rfl
  rw [ho] at e1 r1
  exact ⟨g', e1, r1⟩
theorem Z_restore {g : Mem} (hR : RC g S0) : ∃ g', f_X4_restore g = some (-5, g') ∧ RC g' S0 := by
  obtain ⟨g', e1, r1⟩ := C_restore hR SI_0
  have ho : o_restore (r0, 0, fun _ => r0, false, r0, 0, fun _ => 0, none) = (-5, S0) := rfl
  rw [ho] at e1 r1
  exact ⟨g', e1, r1⟩
theorem Z_perform {g : Mem} (hR : RC g S0) : ∃ g', f_X4_perform g = some (-100, g') ∧ RC g' S0 := by
  obtain ⟨g', e1, r1⟩ := C_perform hR SI_0
  have hp : P_run (tx 0 (fun _ => 0)) 0 20 0 = (false, 0) := by decide +kernel
  have ho : o_perform (r0, 0, fun _ => r0, false, r0, 0, fun _ => 0, none) = (-100, S0) := by
    unfold o_perform
    simp only [hp]
    rfl
  rw [ho] at e1 r1
  exact ⟨g', e1, r1⟩
theorem Z_trim {g : Mem} (hR : RC g S0) : ∃ g', f_X4_trim 1 g = some (-4, g') ∧ RC g' S0 := by
  obtain ⟨g', S', e1, r1, -, -, e2⟩ := A_trim hR SV_0 (s := 1) (by omega) (by omega)
  have h0 : s_trimN 1 r0 = (-4, r0) := by
    unfold s_trimN
    rw [pre_r0, if_pos (by omega)]
  rw [h0] at e1 e2
  rcases e2 with ⟨-, rfl⟩ | ⟨q, -⟩
  · exact ⟨g', e1, r1⟩
  · exact absurd (show (-4 : Int32) < 0 by decide) q
theorem Z_promise {g : Mem} (hR : RC g S0) : ∃ g', f_X4_promise 0 0 g = some (-4, g') ∧ RC g' S0 := by
  obtain ⟨g', S', e1, r1, -, -, e2⟩ := A_promise hR SV_0 (p := 0) (a := 0) (by omega) (by omega)
  have h0 : s_promiseN 0 0 r0 = (-4, r0) := by
    unfold s_promiseN
    rw [if_pos (Or.inl (r0_z (by omega) (by omega)))]
  rw [h0] at e1 e2
  rcases e2 with ⟨-, rfl⟩ | ⟨q, -⟩
  · exact ⟨g', e1, r1⟩
  · exact absurd (show (-4 : Int32) < 0 by decide) q
theorem Z_slot {g : Mem} (hR : RC g S0) : f_X4_slot 4 2 g = some (-5) := by
  have h := R_s2 hR.1 RI_0 (i := 3) (by omega)
  rw [pre_r0, if_neg (by omega)] at h
  exact h
theorem Z_refusal {g : Mem} (hR : RC g S0) : f_X4_refusal 0 g = -5 := C_refusal hR 0
theorem law_0 {p : Program} {l : Launch} {e : Env} {s : State} {m : MethodId} {below : List Frame} {meth : Method} {c : Code} {b L : Nat} {xs : Nat → Int32} {G : GG} {ac : Nat → Nat} {g : Mem} (X : LX p s m c b L xs G ac) (hr : meth.sig.returnType = ret) (hlocks : meth.locks = false) (hRC : RC g S0) : JL p l e s m b below meth c G ac 8 [(1, .ref (ac 0)), (0, .ref b)] [] g := by
  obtain ⟨g1, e1, r1⟩ := Z_undo hRC
  obtain ⟨g2, e2, r2⟩ := Z_restore r1
  obtain ⟨g3, e3, r3⟩ := Z_perform r2
  obtain ⟨g4, e4, r4⟩ := Z_trim r3
  obtain ⟨g5, e5, r5⟩ := Z_promise r4
  refine l_aload_n 9 X 0 dL_law_8 rfl rfl ?_
  refine l_V (As := []) 12 X (c_X4_undo l (wA G ac) (aof (wC G ac gZ))  g _ e1) (cwV 0 X.1.2.2.2.2 gL_law_X4_undo rfl rfl rfl hd_X4_undo ⟨Nat.le_of_ble_eq_true rfl, Nat.le_of_ble_eq_true rfl⟩) rfl rfl (Nat.le_of_ble_eq_true rfl) dL_law_9 rfl ?_
  refine l_bipush (v := (-5)) 14 X dL_law_12 rfl (by decide) ?_
  refine l_icmp_ne 77 17 X dL_law_14 rfl rfl (fun w => absurd rfl w) (fun _ => ?_)
  refine l_aload_n 18 X 0 dL_law_17 rfl rfl ?_
  refine l_V (As := []) 21 X (c_X4_restore l (wA G ac) (aof (wC G ac gZ))  g1 _ e2) (cwV 0 X.1.2.2.2.2 gL_law_X4_restore rfl rfl rfl hd_X4_restore ⟨Nat.le_of_ble_eq_true rfl, Nat.le_of_ble_eq_true rfl⟩) rfl rfl (Nat.le_of_ble_eq_true rfl) dL_law_18 rfl ?_
  refine l_bipush (v := (-5)) 23 X dL_law_21 rfl (by decide) ?_
  refine l_icmp_ne 77 26 X dL_law_23 rfl rfl (fun w => absurd rfl w) (fun _ => ?_)
  refine l_aload_n 27 X 0 dL_law_26 rfl rfl ?_
  refine l_V (As := []) 30 X (c_X4_perform l (wA G ac) (aof (wC G ac gZ))  g2 _ e3) (cwV 0 X.1.2.2.2.2 gL_law_X4_perform rfl rfl rfl hd_X4_perform ⟨Nat.le_of_ble_eq_true rfl, Nat.le_of_ble_eq_true rfl⟩) rfl rfl (Nat.le_of_ble_eq_true rfl) dL_law_27 rfl ?_
  refine l_bipush (v := (-100)) 32 X dL_law_30 rfl (by decide) ?_
  refine l_icmp_ne 77 35 X dL_law_32 rfl rfl (fun w => absurd rfl w) (fun _ => ?_)
  refine l_aload_n 36 X 0 dL_law_35 rfl rfl ?_
  refine l_iconst (v := 0) 37 X dL_law_36 rfl (by decide) ?_
  refine l_V (As := [.int 0]) 40 X (c_X4_refusal l (wA G ac) (aof (wC G ac gZ)) 0 g3 _ (Z_refusal r3)) (cwV 1 X.1.2.2.2.2 gL_law_X4_refusal rfl rfl rfl hd_X4_refusal ⟨Nat.le_of_ble_eq_true rfl, Nat.le_of_ble_eq_true rfl⟩) rfl rfl (Nat.le_of_ble_eq_true rfl) dL_law_37 rfl ?_
  refine l_bipush (v := (-5)) 42 X dL_law_40 rfl (by decide) ?_
  refine l_icmp_ne 77 45 X dL_law_42 rfl rfl (fun w => absurd rfl w) (fun _ => ?_)
  refine l_aload_n 46 X 0 dL_law_45 rfl rfl ?_
  refine l_iconst (v := 1) 47 X dL_law_46 rfl (by decide) ?_
  refine l_V (As := [.int 1]) 50 X (c_X4_trim l (wA G ac) (aof (wC G ac gZ)) 1 g3 _ e4) (cwV 1 X.1.2.2.2.2 gL_law_X4_trim rfl rfl rfl hd_X4_trim ⟨Nat.le_of_ble_eq_true rfl, Nat.le_of_ble_eq_true rfl⟩) rfl rfl (Nat.le_of_ble_eq_true rfl) dL_law_47 rfl ?_
  refine l_bipush (v := (-4)) 52 X dL_law_50 rfl (by decide) ?_
  refine l_icmp_ne 77 55 X dL_law_52 rfl rfl (fun w => absurd rfl w) (fun _ => ?_)
  refine l_aload_n 56 X 0 dL_law_55 rfl rfl ?_
  refine l_iconst (v := 4) 57 X dL_law_56 rfl (by decide) ?_
  refine l_iconst (v := 2) 58 X dL_law_57 rfl (by decide) ?_
  refine l_V (As := [.int 4, .int 2]) 61 X (c_X4_slot l (wA G ac) (aof (wC G ac gZ)) 4 2 g4 _ (Z_slot r4)) (cwV 2 X.1.2.2.2.2 gL_law_X4_slot rfl rfl rfl hd_X4_slot ⟨Nat.le_of_ble_eq_true rfl, Nat.le_of_ble_eq_true rfl⟩) rfl rfl (Nat.le_of_ble_eq_true rfl) dL_law_58 rfl ?_
  refine l_bipush (v := (-5)) 63 X dL_law_61 rfl (by decide) ?_
  refine l_icmp_ne 77 66 X dL_law_63 rfl rfl (fun w => absurd rfl w) (fun _ => ?_)
  refine l_aload_n 67 X 0 dL_law_66 rfl rfl ?_
  refine l_iconst (v := 0) 68 X dL_law_67 rfl (by decide) ?_
  refine l_iconst (v := 0) 69 X dL_law_68 rfl (by decide) ?_
  refine l_V (As := [.int 0, .int 0]) 72 X (c_X4_promise l (wA G ac) (aof (wC G ac gZ)) 0 0 g4 _ e5) (cwV 2 X.1.2.2.2.2 gL_law_X4_promise rfl rfl rfl hd_X4_promise ⟨Nat.le_of_ble_eq_true rfl, Nat.le_of_ble_eq_true rfl⟩) rfl rfl (Nat.le_of_ble_eq_true rfl) dL_law_69 rfl ?_
  refine l_bipush (v := (-4)) 74 X dL_law_72 rfl (by decide) ?_
  refine l_icmp_eq 79 77 X dL_law_74 rfl rfl (fun _ => ?_) (fun w => absurd rfl w)
  refine l_iconst (v := 0) 80 X dL_law_79 rfl (by decide) ?_
  refine l_istore_n 81 X [(2, .int 0), (1, .ref (ac 0)), (0, .ref b)] dL_law_80 rfl rfl (by decide) rfl ?_
  exact law_loop X hr hlocks 32 0 rfl g5 S0 r5 SV_0
