theorem in_X2_copy_X2 : ∀ w ∈ wsX20, w ∈ wsX2_copy := by decide +kernel
def rm_X2_copy : Room := { frames := 2, cells := 0, slots := 0, locals := 61 }
theorem hd_X2_copy : yX2_copy.cls = RX2 ∧ yX2_copy.cls ≠ "java/lang/invoke/MethodHandle" ∧ yX2_copy.cls ≠ "java/lang/invoke/VarHandle" ∧ (parseMethodDescriptor yX2_copy.desc).map (fun d => d.parameters.length) = some 1 := by decide +kernel
set_option maxRecDepth 100000 in
set_option maxHeartbeats 4000000 in
theorem c_X2_copy (l : Launch) (G : GG) (A : Nat → Prop) (o : Nat) (o1 : Nat) (ho : IsSt o) (ho1 : IsSt o1) (g : Mem) (res : Mem) (hf : f_X2_copy o o1 g = some res) : k_Mv l yX2_copy wsX2_copy rm_X2_copy G shC A [.ref (G.2.1 o), .ref (G.2.1 o1)] g res := by
  have hinX2 : ∀ w ∈ wsX20, w ∈ wsX2_copy := in_X2_copy_X2
  refine k_ofv (cc := cX2_copy) (nL := 2) (own := RX2) (by decide +kernel) rfl rfl (by simp [lg_sl, Value.category]) ⟨rfl, rfl⟩ [(0, .ref (G.2.1 o)), (1, .ref (G.2.1 o1))] rfl ?_
  intro p e s m args below meth c C hr hk0
  rw [f_X2_copy] at hf
  refine r_aload_n 1 C 0 dX2_copy_0 rfl rfl ?_
  refine r_aload_n 2 C 1 dX2_copy_1 rfl rfl ?_
  refine r_geti 5 C (k := 0) (st_0 ho1) rfl hinX2 (by decide) rfl dX2_copy_2 rfl (by decide +kernel) ?_
  obtain ⟨g1, hg1, hf⟩ := ol hf
  refine r_puti 8 C (k := 0) (ty := .int) tyX2 tyX2_ok nmX2 (st_0 ho) rfl hinX2 (by decide) rfl rfl (by decide +kernel) rfl rfl hg1 dX2_copy_5 rfl (by decide +kernel) ?_
  refine r_aload_n 9 C 0 dX2_copy_8 rfl rfl ?_
  refine r_aload_n 10 C 1 dX2_copy_9 rfl rfl ?_
  refine r_geti 13 C (k := 1) (st_0 ho1) rfl hinX2 (by decide) rfl dX2_copy_10 rfl (by decide +kernel) ?_
  obtain ⟨g2, hg2, hf⟩ := ol hf
  refine r_puti 16 C (k := 1) (ty := .int) tyX2 tyX2_ok nmX2 (st_0 ho) rfl hinX2 (by decide) rfl rfl (by decide +kernel) rfl rfl hg2 dX2_copy_13 rfl (by decide +kernel) ?_
  refine r_aload_n 17 C 0 dX2_copy_16 rfl rfl ?_
  refine r_aload_n 18 C 1 dX2_copy_17 rfl rfl ?_
  refine r_geti 21 C (k := 2) (st_0 ho1) rfl hinX2 (by decide) rfl dX2_copy_18 rfl (by decide +kernel) ?_
  obtain ⟨g3, hg3, hf⟩ := ol hf
  refine r_puti 24 C (k := 2) (ty := .int) tyX2 tyX2_ok nmX2 (st_0 ho) rfl hinX2 (by decide) rfl rfl (by decide +kernel) rfl rfl hg3 dX2_copy_21 rfl (by decide +kernel) ?_
  refine r_aload_n 25 C 0 dX2_copy_24 rfl rfl ?_
  refine r_aload_n 26 C 1 dX2_copy_25 rfl rfl ?_
  refine r_geti 29 C (k := 3) (st_0 ho1) rfl hinX2 (by decide) rfl dX2_copy_26 rfl (by decide +kernel) ?_
  obtain ⟨g4, hg4, hf⟩ := ol hf
  refine r_puti 32 C (k := 3) (ty := .int) tyX2 tyX2_ok nmX2 (st_0 ho) rfl hinX2 (by decide) rfl rfl (by decide +kernel) rfl rfl hg4 dX2_copy_29 rfl (by decide +kernel) ?_
  refine r_aload_n 33 C 0 dX2_copy_32 rfl rfl ?_
  refine r_aload_n 34 C 1 dX2_copy_33 rfl rfl ?_
  refine r_geti 37 C (k := 4) (st_0 ho1) rfl hinX2 (by decide) rfl dX2_copy_34 rfl (by decide +kernel) ?_
  obtain ⟨g5, hg5, hf⟩ := ol hf
  refine r_puti 40 C (k := 4) (ty := .int) tyX2 tyX2_ok nmX2 (st_0 ho) rfl hinX2 (by decide) rfl rfl (by decide +kernel) rfl rfl hg5 dX2_copy_37 rfl (by decide +kernel) ?_
  refine r_aload_n 41 C 1 dX2_copy_40 rfl rfl ?_
  refine r_getr 44 C (k := 5) (st_0 ho1) rfl hinX2 (by decide) rfl dX2_copy_41 rfl (by decide +kernel) ?_
  refine r_aload_n 45 C 0 dX2_copy_44 rfl rfl ?_
  refine r_getr 48 C (k := 5) (st_0 ho) rfl hinX2 (by decide) rfl dX2_copy_45 rfl (by decide +kernel) ?_
  obtain ⟨g6, hg6, hf⟩ := ob hf
  refine r_Sv (As := [.ref (G.2.1 (o1 + 1)), .ref (G.2.1 (o + 1))]) 51 C (c_X2_copyAll l G A (o1 + 1) (o + 1) 6 (st_1 ho1) (st_1 ho) (by decide) g5 _ hg6) (va_cwS 2 C.1.2.2.2.2 gX2_copy_X2_copyAll rfl rfl rfl hd_X2_copyAll ⟨Nat.le_of_ble_eq_true rfl, Nat.le_of_ble_eq_true rfl⟩) rfl rfl (Nat.le_of_ble_eq_true rfl) dX2_copy_48 rfl ?_
  refine r_aload_n 52 C 1 dX2_copy_51 rfl rfl ?_
  refine r_getr 55 C (k := 6) (st_0 ho1) rfl hinX2 (by decide) rfl dX2_copy_52 rfl (by decide +kernel) ?_
  refine r_aload_n 56 C 0 dX2_copy_55 rfl rfl ?_
  refine r_getr 59 C (k := 6) (st_0 ho) rfl hinX2 (by decide) rfl dX2_copy_56 rfl (by decide +kernel) ?_
  obtain ⟨g7, hg7, hf⟩ := ob hf
  refine r_Sv (As := [.ref (G.2.1 (o1 + 2)), .ref (G.2.1 (o + 2))]) 62 C (c_X2_copyAll l G A (o1 + 2) (o + 2) 96 (st_2 ho1) (st_2 ho) (by decide) g6 _ hg7) (va_cwS 2 C.1.2.2.2.2 gX2_copy_X2_copyAll rfl rfl rfl hd_X2_copyAll ⟨Nat.le_of_ble_eq_true rfl, Nat.le_of_ble_eq_true rfl⟩) rfl rfl (Nat.le_of_ble_eq_true rfl) dX2_copy_59 rfl ?_
  refine r_aload_n 63 C 1 dX2_copy_62 rfl rfl ?_
  refine r_getr 66 C (k := 7) (st_0 ho1) rfl hinX2 (by decide) rfl dX2_copy_63 rfl (by decide +kernel) ?_
  refine r_aload_n 67 C 0 dX2_copy_66 rfl rfl ?_
  refine r_getr 70 C (k := 7) (st_0 ho) rfl hinX2 (by decide) rfl dX2_copy_67 rfl (by decide +kernel) ?_
  obtain ⟨g8, hg8, hf⟩ := ob hf
  refine r_Sv (As := [.ref (G.2.1 (o1 + 3)), .ref (G.2.1 (o + 3))]) 73 C (c_X2_copyAll l G A (o1 + 3) (o + 3) 96 (st_3 ho1) (st_3 ho) (by decide) g7 _ hg8) (va_cwS 2 C.1.2.2.2.2 gX2_copy_X2_copyAll rfl rfl rfl hd_X2_copyAll ⟨Nat.le_of_ble_eq_true rfl, Nat.le_of_ble_eq_true rfl⟩) rfl rfl (Nat.le_of_ble_eq_true rfl) dX2_copy_70 rfl ?_
  refine r_aload_n 74 C 1 dX2_copy_73 rfl rfl ?_
  refine r_getr 77 C (k := 8) (st_0 ho1) rfl hinX2 (by decide) rfl dX2_copy_74 rfl (by decide +kernel) ?_
  refine r_aload_n 78 C 0 dX2_copy_77 rfl rfl ?_
  refine r_getr 81 C (k := 8) (st_0 ho) rfl hinX2 (by decide) rfl dX2_copy_78 rfl (by decide +kernel) ?_
  obtain ⟨g9, hg9, hf⟩ := ob hf
  refine r_Sv (As := [.ref (G.2.1 (o1 + 4)), .ref (G.2.1 (o + 4))]) 84 C (c_X2_copyAll l G A (o1 + 4) (o + 4) 3 (st_4 ho1) (st_4 ho) (by decide) g8 _ hg9) (va_cwS 2 C.1.2.2.2.2 gX2_copy_X2_copyAll rfl rfl rfl hd_X2_copyAll ⟨Nat.le_of_ble_eq_true rfl, Nat.le_of_ble_eq_true rfl⟩) rfl rfl (Nat.le_of_ble_eq_true rfl) dX2_copy_81 rfl ?_
  refine r_aload_n 85 C 1 dX2_copy_84 rfl rfl ?_
  refine r_getr 88 C (k := 9) (st_0 ho1) rfl hinX2 (by decide) rfl dX2_copy_85 rfl (by decide +kernel) ?_
  refine r_aload_n 89 C 0 dX2_copy_88 rfl rfl ?_
  refine r_getr 92 C (k := 9) (st_0 ho) rfl hinX2 (by decide) rfl dX2_copy_89 rfl (by decide +kernel) ?_
  obtain ⟨g10, hg10, hf⟩ := ob hf
  refine r_Sv (As := [.ref (G.2.1 (o1 + 5)), .ref (G.2.1 (o + 5))]) 95 C (c_X2_copyAll l G A (o1 + 5) (o + 5) 3 (st_5 ho1) (st_5 ho) (by decide) g9 _ hg10) (va_cwS 2 C.1.2.2.2.2 gX2_copy_X2_copyAll rfl rfl rfl hd_X2_copyAll ⟨Nat.le_of_ble_eq_true rfl, Nat.le_of_ble_eq_true rfl⟩) rfl rfl (Nat.le_of_ble_eq_true rfl) dX2_copy_92 rfl ?_
  refine r_aload_n 96 C 1 dX2_copy_95 rfl rfl ?_
  refine r_getr 99 C (k := 10) (st_0 ho1) rfl hinX2 (by decide) rfl dX2_copy_96 rfl (by decide +kernel) ?_
  refine r_aload_n 100 C 0 dX2_copy_99 rfl rfl ?_
  refine r_getr 103 C (k := 10) (st_0 ho) rfl hinX2 (by decide) rfl dX2_copy_100 rfl (by decide +kernel) ?_
  obtain ⟨g11, hg11, hf⟩ := ob hf
  refine r_Sv (As := [.ref (G.2.1 (o1 + 6)), .ref (G.2.1 (o + 6))]) 106 C (c_X2_copyAll l G A (o1 + 6) (o + 6) 3 (st_6 ho1) (st_6 ho) (by decide) g10 _ hg11) (va_cwS 2 C.1.2.2.2.2 gX2_copy_X2_copyAll rfl rfl rfl hd_X2_copyAll ⟨Nat.le_of_ble_eq_true rfl, Nat.le_of_ble_eq_true rfl⟩) rfl rfl (Nat.le_of_ble_eq_true rfl) dX2_copy_103 rfl ?_
  refine r_aload_n 107 C 1 dX2_copy_106 rfl rfl ?_
  refine r_getr 110 C (k := 11) (st_0 ho1) rfl hinX2 (by decide) rfl dX2_copy_107 rfl (by decide +kernel) ?_
  refine r_aload_n 111 C 0 dX2_copy_110 rfl rfl ?_
  refine r_getr 114 C (k := 11) (st_0 ho) rfl hinX2 (by decide) rfl dX2_copy_111 rfl (by decide +kernel) ?_
  obtain ⟨g12, hg12, hf⟩ := ob hf
  refine r_Sv (As := [.ref (G.2.1 (o1 + 7)), .ref (G.2.1 (o + 7))]) 117 C (c_X2_copyAll l G A (o1 + 7) (o + 7) 48 (st_7 ho1) (st_7 ho) (by decide) g11 _ hg12) (va_cwS 2 C.1.2.2.2.2 gX2_copy_X2_copyAll rfl rfl rfl hd_X2_copyAll ⟨Nat.le_of_ble_eq_true rfl, Nat.le_of_ble_eq_true rfl⟩) rfl rfl (Nat.le_of_ble_eq_true rfl) dX2_copy_114 rfl ?_
  refine r_aload_n 118 C 1 dX2_copy_117 rfl rfl ?_
  refine r_getr 121 C (k := 12) (st_0 ho1) rfl hinX2 (by decide) rfl dX2_copy_118 rfl (by decide +kernel) ?_
  refine r_aload_n 122 C 0 dX2_copy_121 rfl rfl ?_
  refine r_getr 125 C (k := 12) (st_0 ho) rfl hinX2 (by decide) rfl dX2_copy_122 rfl (by decide +kernel) ?_
  obtain ⟨g13, hg13, hf⟩ := ob hf
  refine r_Sv (As := [.ref (G.2.1 (o1 + 8)), .ref (G.2.1 (o + 8))]) 128 C (c_X2_copyAll l G A (o1 + 8) (o + 8) 288 (st_8 ho1) (st_8 ho) (by decide) g12 _ hg13) (va_cwS 2 C.1.2.2.2.2 gX2_copy_X2_copyAll rfl rfl rfl hd_X2_copyAll ⟨Nat.le_of_ble_eq_true rfl, Nat.le_of_ble_eq_true rfl⟩) rfl rfl (Nat.le_of_ble_eq_true rfl) dX2_copy_125 rfl ?_
  refine r_aload_n 129 C 1 dX2_copy_128 rfl rfl ?_
  refine r_getr 132 C (k := 13) (st_0 ho1) rfl hinX2 (by decide) rfl dX2_copy_129 rfl (by decide +kernel) ?_
  refine r_aload_n 133 C 0 dX2_copy_132 rfl rfl ?_
  refine r_getr 136 C (k := 13) (st_0 ho) rfl hinX2 (by decide) rfl dX2_copy_133 rfl (by decide +kernel) ?_
  obtain ⟨g14, hg14, hf⟩ := ob hf
  refine r_Sv (As := [.ref (G.2.1 (o1 + 9)), .ref (G.2.1 (o + 9))]) 139 C (c_X2_copyAll l G A (o1 + 9) (o + 9) 288 (st_9 ho1) (st_9 ho) (by decide) g13 _ hg14) (va_cwS 2 C.1.2.2.2.2 gX2_copy_X2_copyAll rfl rfl rfl hd_X2_copyAll ⟨Nat.le_of_ble_eq_true rfl, Nat.le_of_ble_eq_true rfl⟩) rfl rfl (Nat.le_of_ble_eq_true rfl) dX2_copy_136 rfl ?_
  refine r_aload_n 140 C 1 dX2_copy_139 rfl rfl ?_
  refine r_getr 143 C (k := 14) (st_0 ho1) rfl hinX2 (by decide) rfl dX2_copy_140 rfl (by decide +kernel) ?_
  refine r_aload_n 144 C 0 dX2_copy_143 rfl rfl ?_
  refine r_getr 147 C (k := 14) (st_0 ho) rfl hinX2 (by decide) rfl dX2_copy_144 rfl (by decide +kernel) ?_
  obtain ⟨g15, hg15, hf⟩ := ob hf
  refine r_Sv (As := [.ref (G.2.1 (o1 + 10)), .ref (G.2.1 (o + 10))]) 150 C (c_X2_copyAll l G A (o1 + 10) (o + 10) 17 (st_10 ho1) (st_10 ho) (by decide) g14 _ hg15) (va_cwS 2 C.1.2.2.2.2 gX2_copy_X2_copyAll rfl rfl rfl hd_X2_copyAll ⟨Nat.le_of_ble_eq_true rfl, Nat.le_of_ble_eq_true rfl⟩) rfl rfl (Nat.le_of_ble_eq_true rfl) dX2_copy_147 rfl ?_
  refine r_aload_n 151 C 1 dX2_copy_150 rfl rfl ?_
  refine r_getr 154 C (k := 15) (st_0 ho1) rfl hinX2 (by decide) rfl dX2_copy_151 rfl (by decide +kernel) ?_
  refine r_aload_n 155 C 0 dX2_copy_154 rfl rfl ?_
  refine r_getr 158 C (k := 15) (st_0 ho) rfl hinX2 (by decide) rfl dX2_copy_155 rfl (by decide +kernel) ?_
  obtain ⟨g16, hg16, hf⟩ := ob hf
  refine r_Sv (As := [.ref (G.2.1 (o1 + 11)), .ref (G.2.1 (o + 11))]) 161 C (c_X2_copyAll l G A (o1 + 11) (o + 11) 17 (st_11 ho1) (st_11 ho) (by decide) g15 _ hg16) (va_cwS 2 C.1.2.2.2.2 gX2_copy_X2_copyAll rfl rfl rfl hd_X2_copyAll ⟨Nat.le_of_ble_eq_true rfl, Nat.le_of_ble_eq_true rfl⟩) rfl rfl (Nat.le_of_ble_eq_true rfl) dX2_copy_158 rfl ?_
  have hf := Option.some.inj hf
  subst hf
  exact r_vret C hr hk0 dX2_copy_161
theorem in_X2_refuse_X2 : ∀ w ∈ wsX20, w ∈ wsX2_refuse := by decide +kernel
def rm_X2_refuse : Room := { frames := 1, cells := 0, slots := 0, locals := 21 }
theorem hd_X2_refuse : yX2_refuse.cls = RX2 ∧ yX2_refuse.cls ≠ "java/lang/invoke/MethodHandle" ∧ yX2_refuse.cls ≠ "java/lang/invoke/VarHandle" ∧ (parseMethodDescriptor yX2_refuse.desc).map (fun d => d.parameters.length) = some 2 := by decide +kernel
set_option maxRecDepth 100000 in
set_option maxHeartbeats 4000000 in
theorem c_X2_refuse (l : Launch) (G : GG) (A : Nat → Prop) (o : Nat) (a1 : Int32) (a2 : Int32) (ho : IsSt o) (g : Mem) (res : Int32 × Mem) (hf : f_X2_refuse o a1 a2 g = some res) : k_Mi l yX2_refuse wsX2_refuse rm_X2_refuse G shC A [.ref (G.2.1 o), .int a1, .int a2] g res.1 res.2 := by
  have hinX2 : ∀ w ∈ wsX20, w ∈ wsX2_refuse := in_X2_refuse_X2
  refine k_ofi (cc := cX2_refuse) (nL := 3) (own := RX2) (by decide +kernel) rfl rfl (by simp [lg_sl, Value.category]) ⟨rfl, rfl⟩ [(0, .ref (G.2.1 o)), (1, .int a1), (2, .int a2)] rfl ?_
  intro p e s m args below meth c C hr hk0
  rw [f_X2_refuse] at hf
  refine r_aload_n 1 C 0 dX2_refuse_0 rfl rfl ?_
  refine r_getr 4 C (k := 9) (st_0 ho) rfl hinX2 (by decide) rfl dX2_refuse_1 rfl (by decide +kernel) ?_
  refine r_iload_n 5 C 1 dX2_refuse_4 rfl rfl ?_
  refine r_aload_n 6 C 0 dX2_refuse_5 rfl rfl ?_
  refine r_getr 9 C (k := 9) (st_0 ho) rfl hinX2 (by decide) rfl dX2_refuse_6 rfl (by decide +kernel) ?_
  refine r_iload_n 10 C 1 dX2_refuse_9 rfl rfl ?_
  obtain ⟨x1, hx1, hf⟩ := ob hf
  refine r_iaload 11 C (st_5 ho) dX2_refuse_10 rfl hx1 ?_
  refine r_aload_n 12 C 0 dX2_refuse_11 rfl rfl ?_
  refine r_getr 15 C (k := 5) (st_0 ho) rfl hinX2 (by decide) rfl dX2_refuse_12 rfl (by decide +kernel) ?_
  refine r_iload_n 16 C 2 dX2_refuse_15 rfl rfl ?_
  obtain ⟨x2, hx2, hf⟩ := ob hf
  refine r_iaload 17 C (st_1 ho) dX2_refuse_16 rfl hx2 ?_
  refine r_max 20 C (by decide +kernel) (by decide +kernel) (by decide +kernel) (by decide +kernel) (Nat.le_of_ble_eq_true rfl) (Nat.le_of_ble_eq_true rfl) dX2_refuse_17 rfl ?_
  obtain ⟨g3, hg3, hf⟩ := ob hf
  refine r_iastore 21 C (st_5 ho) dX2_refuse_20 rfl hg3 ?_
  refine r_bipush (v := 100) 23 C dX2_refuse_21 rfl (by decide) ?_
  refine r_aload_n 24 C 0 dX2_refuse_23 rfl rfl ?_
  refine r_getr 27 C (k := 5) (st_0 ho) rfl hinX2 (by decide) rfl dX2_refuse_24 rfl (by decide +kernel) ?_
  refine r_iload_n 28 C 2 dX2_refuse_27 rfl rfl ?_
  obtain ⟨x4, hx4, hf⟩ := ob hf
  refine r_iaload 29 C (st_1 ho) dX2_refuse_28 rfl hx4 ?_
  refine r_iadd 30 C dX2_refuse_29 rfl ?_
  have hf := Option.some.inj hf
  subst hf
  exact r_iret C hr hk0 dX2_refuse_30
def rm_X4_cell : Room := { frames := 0, cells := 0, slots := 0, locals := 0 }
theorem hd_X4_cell : yX4_cell.cls ≠ "java/lang/invoke/MethodHandle" ∧ yX4_cell.cls ≠ "java/lang/invoke/VarHandle" ∧ (parseMethodDescriptor yX4_cell.desc).map (fun d => d.parameters.length) = some 2 := by decide +kernel
set_option maxRecDepth 100000 in
set_option maxHeartbeats 4000000 in
theorem c_X4_cell (l : Launch) (G : GG) (A : Nat → Prop) (a1 : Int32) (a2 : Int32)  (g : Mem) (res : Int32) (hf : f_X4_cell a1 a2 = res) : k_Mi l yX4_cell wsX4_cell rm_X4_cell G shC A [.int a1, .int a2] g res g := by
  refine k_ofi (cc := cX4_cell) (nL := 2) (own := RX4) (by decide +kernel) rfl rfl (by simp [lg_sl, Value.category]) ⟨rfl, rfl⟩ [(0, .int a1), (1, .int a2)] rfl ?_
  intro p e s m args below meth c C hr hk0
  rw [f_X4_cell] at hf
  refine r_iload_n 1 C 0 dX4_cell_0 rfl rfl ?_
  refine r_bipush (v := 16) 3 C dX4_cell_1 rfl (by decide) ?_
  refine r_imul 4 C dX4_cell_3 rfl ?_
  refine r_iload_n 5 C 1 dX4_cell_4 rfl rfl ?_
  refine r_iadd 6 C dX4_cell_5 rfl ?_
  refine r_iconst (v := 1) 7 C dX4_cell_6 rfl (by decide) ?_
  refine r_isub 8 C dX4_cell_7 rfl ?_
  subst hf
  exact r_iret C hr hk0 dX4_cell_8
theorem in_X2_tellVotes_X2 : ∀ w ∈ wsX20, w ∈ wsX2_tellVotes := by decide +kernel
def rm_X2_tellVotes : Room := { frames := 1, cells := 0, slots := 0, locals := 21 }
theorem hd_X2_tellVotes : yX2_tellVotes.cls = RX2 ∧ yX2_tellVotes.cls ≠ "java/lang/invoke/MethodHandle" ∧ yX2_tellVotes.cls ≠ "java/lang/invoke/VarHandle" ∧ (parseMethodDescriptor yX2_tellVotes.desc).map (fun d => d.parameters.length) = some 2 := by decide +kernel
set_option maxRecDepth 100000 in
set_option maxHeartbeats 4000000 in
theorem t_X2_tellVotes_L10 {p : Program} {l : Launch} {e : Env} {s : State} {m : MethodId} {args : Array Value} {below : List Frame} {meth : Method} {c : Code} {G : GG} {A : Nat → Prop} (C : KX p s m args c cX2_tellVotes 5 RX2 wsX2_tellVotes G shC A) (hr : meth.sig.returnType = none) (hk0 : meth.locks = false) (o : Nat) (a1 : Int32) (a2 : Int32) (ho : IsSt o) (v2 : Int32) (v3 : Int32) {res : Mem} {k : Mem → Option Mem} (hk : ∀ (g : Mem), k g = some res → JJ p l e rm_X2_tellVotes s m args below meth c 5 G shC A (MQ below (k_Qv G shC A res) args s 0 0 A) 67 [] [] g) : ∀ (n : Nat) (v4 : Int32) (g : Mem), f_X2_tellVotes_L10 k o v2 v3 n v4 g = some res → JJ p l e rm_X2_tellVotes s m args below meth c 5 G shC A (MQ below (k_Qv G shC A res) args s 0 0 A) 10 [(0, .ref (G.2.1 o)), (2, .int v2), (3, .int v3), (4, .int v4)] [] g := by
  have hinX2 : ∀ w ∈ wsX20, w ∈ wsX2_tellVotes := in_X2_tellVotes_X2
  intro n
  induction n with
  | zero =>
    intro v4 g hf
    rw [f_X2_tellVotes_L10] at hf
    cases hf
  | succ n ih =>
    intro v4 g hf
    rw [f_X2_tellVotes_L10] at hf
    refine r_iload 12 C 3 dX2_tellVotes_10 rfl rfl ?_
    refine r_bipush (v := 16) 14 C dX2_tellVotes_12 rfl (by decide) ?_
    refine r_icmp_gt 67 17 C dX2_tellVotes_14 rfl rfl (fun c2 => ?_) (fun c2 => ?_)
    · have hf := oip c2 hf
      refine r_sub [] [] rfl ?_
      exact hk  _ hf
    · have hf := oin c2 hf
      refine r_aload_n 18 C 0 dX2_tellVotes_17 rfl rfl ?_
      refine r_getr 21 C (k := 12) (st_0 ho) rfl hinX2 (by decide) rfl dX2_tellVotes_18 rfl (by decide +kernel) ?_
      refine r_iload_n 22 C 2 dX2_tellVotes_21 rfl rfl ?_
      refine r_iload 24 C 3 dX2_tellVotes_22 rfl rfl ?_
      refine r_SNi (As := [.int v3, .int v4]) 27 C (c_X4_cell l G A v3 v4 g _ rfl) (k_cwSN C (by decide +kernel) gX2_tellVotes_X4_cell_n104 rfl ⟨rfl, rfl⟩ (by decide +kernel) (by decide +kernel) hd_X4_cell ⟨Nat.le_of_ble_eq_true rfl, Nat.le_of_ble_eq_true rfl⟩) rfl rfl (Nat.le_of_ble_eq_true rfl) dX2_tellVotes_24 rfl ?_
      refine r_aload_n 28 C 0 dX2_tellVotes_27 rfl rfl ?_
      refine r_getr 31 C (k := 6) (st_0 ho) rfl hinX2 (by decide) rfl dX2_tellVotes_28 rfl (by decide +kernel) ?_
      refine r_iload_n 32 C 1 dX2_tellVotes_31 rfl rfl ?_
      refine r_iload 34 C 3 dX2_tellVotes_32 rfl rfl ?_
      refine r_SNi (As := [.int v2, .int v4]) 37 C (c_X4_cell l G A v2 v4 g _ rfl) (k_cwSN C (by decide +kernel) gX2_tellVotes_X4_cell_n104 rfl ⟨rfl, rfl⟩ (by decide +kernel) (by decide +kernel) hd_X4_cell ⟨Nat.le_of_ble_eq_true rfl, Nat.le_of_ble_eq_true rfl⟩) rfl rfl (Nat.le_of_ble_eq_true rfl) dX2_tellVotes_34 rfl ?_
      obtain ⟨x3, hx3, hf⟩ := ob hf
      refine r_iaload 38 C (st_2 ho) dX2_tellVotes_37 rfl hx3 ?_
      obtain ⟨g4, hg4, hf⟩ := ob hf
      refine r_iastore 39 C (st_8 ho) dX2_tellVotes_38 rfl hg4 ?_
      refine r_aload_n 40 C 0 dX2_tellVotes_39 rfl rfl ?_
      refine r_getr 43 C (k := 13) (st_0 ho) rfl hinX2 (by decide) rfl dX2_tellVotes_40 rfl (by decide +kernel) ?_
      refine r_iload_n 44 C 2 dX2_tellVotes_43 rfl rfl ?_
      refine r_iload 46 C 3 dX2_tellVotes_44 rfl rfl ?_
      refine r_SNi (As := [.int v3, .int v4]) 49 C (c_X4_cell l G A v3 v4 g4 _ rfl) (k_cwSN C (by decide +kernel) gX2_tellVotes_X4_cell_n104 rfl ⟨rfl, rfl⟩ (by decide +kernel) (by decide +kernel) hd_X4_cell ⟨Nat.le_of_ble_eq_true rfl, Nat.le_of_ble_eq_true rfl⟩) rfl rfl (Nat.le_of_ble_eq_true rfl) dX2_tellVotes_46 rfl ?_
      refine r_aload_n 50 C 0 dX2_tellVotes_49 rfl rfl ?_
      refine r_getr 53 C (k := 7) (st_0 ho) rfl hinX2 (by decide) rfl dX2_tellVotes_50 rfl (by decide +kernel) ?_
      refine r_iload_n 54 C 1 dX2_tellVotes_53 rfl rfl ?_
      refine r_iload 56 C 3 dX2_tellVotes_54 rfl rfl ?_
      refine r_SNi (As := [.int v2, .int v4]) 59 C (c_X4_cell l G A v2 v4 g4 _ rfl) (k_cwSN C (by decide +kernel) gX2_tellVotes_X4_cell_n104 rfl ⟨rfl, rfl⟩ (by decide +kernel) (by decide +kernel) hd_X4_cell ⟨Nat.le_of_ble_eq_true rfl, Nat.le_of_ble_eq_true rfl⟩) rfl rfl (Nat.le_of_ble_eq_true rfl) dX2_tellVotes_56 rfl ?_
      obtain ⟨x5, hx5, hf⟩ := ob hf
      refine r_iaload 60 C (st_3 ho) dX2_tellVotes_59 rfl hx5 ?_
      obtain ⟨g6, hg6, hf⟩ := ob hf
      refine r_iastore 61 C (st_9 ho) dX2_tellVotes_60 rfl hg6 ?_
      obtain ⟨x7, hx7, hf⟩ := ol hf
      refine r_iinc 64 C 3 x7 [(4, .int x7), (0, .ref (G.2.1 o)), (2, .int v2), (3, .int v3)] dX2_tellVotes_61 rfl rfl hx7.symm (by decide) rfl ?_
      refine r_goto 10 C dX2_tellVotes_64 rfl ?_
      refine r_sub [(0, .ref (G.2.1 o)), (2, .int v2), (3, .int v3), (4, .int x7)] [1, 2, 3, 0] rfl ?_
      exact ih _ _ hf
set_option maxRecDepth 100000 in
set_option maxHeartbeats 4000000 in
theorem c_X2_tellVotes (l : Launch) (G : GG) (A : Nat → Prop) (o : Nat) (a1 : Int32) (a2 : Int32) (ho : IsSt o) (g : Mem) (res : Mem) (hf : f_X2_tellVotes o a1 a2 g = some res) : k_Mv l yX2_tellVotes wsX2_tellVotes rm_X2_tellVotes G shC A [.ref (G.2.1 o), .int a1, .int a2] g res := by
  have hinX2 : ∀ w ∈ wsX20, w ∈ wsX2_tellVotes := in_X2_tellVotes_X2
  refine k_ofv (cc := cX2_tellVotes) (nL := 5) (own := RX2) (by decide +kernel) rfl rfl (by simp [lg_sl, Value.category]) ⟨rfl, rfl⟩ [(0, .ref (G.2.1 o)), (1, .int a1), (2, .int a2)] rfl ?_
  intro p e s m args below meth c C hr hk0
  rw [f_X2_tellVotes] at hf
  refine r_iload_n 1 C 1 dX2_tellVotes_0 rfl rfl ?_
  refine r_bipush (v := 6) 3 C dX2_tellVotes_1 rfl (by decide) ?_
  refine r_imul 4 C dX2_tellVotes_3 rfl ?_
  refine r_iload_n 5 C 2 dX2_tellVotes_4 rfl rfl ?_
  refine r_iadd 6 C dX2_tellVotes_5 rfl ?_
  obtain ⟨x1, hx1, hf⟩ := ol hf
  refine r_istore_n 7 C [(3, .int x1), (0, .ref (G.2.1 o)), (1, .int a1), (2, .int a2)] dX2_tellVotes_6 rfl hx1 (by decide) rfl ?_
  refine r_iconst (v := 1) 8 C dX2_tellVotes_7 rfl (by decide) ?_
  refine r_istore 10 C [(4, .int 1), (3, .int x1), (0, .ref (G.2.1 o)), (1, .int a1), (2, .int a2)] dX2_tellVotes_8 rfl rfl (by decide) rfl ?_
  refine r_sub [(0, .ref (G.2.1 o)), (2, .int a2), (3, .int x1), (4, .int 1)] [2, 4, 1, 0] rfl ?_
  refine t_X2_tellVotes_L10 C hr hk0 o a1 a2 ho a2 x1 (fun g8 hf => ?_) fuel0 _ _ hf
  have hf := Option.some.inj hf
  subst hf
  exact r_vret C hr hk0 dX2_tellVotes_67
theorem in_X2_votesOf_X2 : ∀ w ∈ wsX20, w ∈ wsX2_votesOf := by decide +kernel
def rm_X2_votesOf : Room := { frames := 1, cells := 0, slots := 0, locals := 21 }
theorem hd_X2_votesOf : yX2_votesOf.cls = RX2 ∧ yX2_votesOf.cls ≠ "java/lang/invoke/MethodHandle" ∧ yX2_votesOf.cls ≠ "java/lang/invoke/VarHandle" ∧ (parseMethodDescriptor yX2_votesOf.desc).map (fun d => d.parameters.length) = some 2 := by decide +kernel
set_option maxRecDepth 100000 in
set_option maxHeartbeats 4000000 in
theorem t_X2_votesOf_L5 {p : Program} {l : Launch} {e : Env} {s : State} {m : MethodId} {args : Array Value} {below : List Frame} {meth : Method} {c : Code} {G : GG} {A : Nat → Prop} (C : KX p s m args c cX2_votesOf 5 RX2 wsX2_votesOf G shC A) (hr : meth.sig.returnType = (some .int)) (hk0 : meth.locks = false) (o : Nat) (a1 : Int32) (a2 : Int32) (ho : IsSt o) (v1 : Int32) (v2 : Int32) (g : Mem) {res : Int32} {k : Int32 → Option Int32} (hk : ∀ (v3 : Int32), k v3 = some res → JJ p l e rm_X2_votesOf s m args below meth c 5 G shC A (MQ below (k_Qi G shC A res g) args s 0 0 A) 41 [(3, .int v3)] [] g) : ∀ (n : Nat) (v3 : Int32) (v4 : Int32), f_X2_votesOf_L5 k o v1 v2 g n v3 v4 = some res → JJ p l e rm_X2_votesOf s m args below meth c 5 G shC A (MQ below (k_Qi G shC A res g) args s 0 0 A) 5 [(0, .ref (G.2.1 o)), (1, .int v1), (2, .int v2), (3, .int v3), (4, .int v4)] [] g := by
  have hinX2 : ∀ w ∈ wsX20, w ∈ wsX2_votesOf := in_X2_votesOf_X2
  intro n
  induction n with
  | zero =>
    intro v3 v4 hf
    rw [f_X2_votesOf_L5] at hf
    cases hf
  | succ n ih =>
    intro v3 v4 hf
    rw [f_X2_votesOf_L5] at hf
    refine r_iload 7 C 4 dX2_votesOf_5 rfl rfl ?_
    refine r_bipush (v := 16) 9 C dX2_votesOf_7 rfl (by decide) ?_
    refine r_icmp_gt 41 12 C dX2_votesOf_9 rfl rfl (fun c1 => ?_) (fun c1 => ?_)
    · have hf := oip c1 hf
      refine r_sub [(3, .int v3)] [3] rfl ?_
      exact hk _ hf
    · have hf := oin c1 hf
      refine r_iload 14 C 4 dX2_votesOf_12 rfl rfl ?_
      refine r_iload_n 15 C 2 dX2_votesOf_14 rfl rfl ?_
      refine r_icmp_gt 41 18 C dX2_votesOf_15 rfl rfl (fun c2 => ?_) (fun c2 => ?_)
      · have hf := oip c2 hf
        refine r_sub [(3, .int v3)] [3] rfl ?_
        exact hk _ hf
      · have hf := oin c2 hf
        refine r_aload_n 19 C 0 dX2_votesOf_18 rfl rfl ?_
        refine r_getr 22 C (k := 6) (st_0 ho) rfl hinX2 (by decide) rfl dX2_votesOf_19 rfl (by decide +kernel) ?_
        refine r_iload_n 23 C 1 dX2_votesOf_22 rfl rfl ?_
        refine r_iload 25 C 4 dX2_votesOf_23 rfl rfl ?_
        refine r_SNi (As := [.int v1, .int v4]) 28 C (c_X4_cell l G A v1 v4 g _ rfl) (k_cwSN C (by decide +kernel) gX2_votesOf_X4_cell_n104 rfl ⟨rfl, rfl⟩ (by decide +kernel) (by decide +kernel) hd_X4_cell ⟨Nat.le_of_ble_eq_true rfl, Nat.le_of_ble_eq_true rfl⟩) rfl rfl (Nat.le_of_ble_eq_true rfl) dX2_votesOf_25 rfl ?_
        obtain ⟨x3, hx3, hf⟩ := ob hf
        refine r_iaload 29 C (st_2 ho) dX2_votesOf_28 rfl hx3 ?_
        refine r_if_eq 35 32 C dX2_votesOf_29 rfl rfl (fun c4 => ?_) (fun c4 => ?_)
        · have hf := oip c4 hf
          obtain ⟨x5, hx5, hf⟩ := ol hf
          refine r_iinc 38 C 4 x5 [(4, .int x5), (0, .ref (G.2.1 o)), (1, .int v1), (2, .int v2), (3, .int v3)] dX2_votesOf_35 rfl rfl hx5.symm (by decide) rfl ?_
          refine r_goto 5 C dX2_votesOf_38 rfl ?_
          refine r_sub [(0, .ref (G.2.1 o)), (1, .int v1), (2, .int v2), (3, .int v3), (4, .int x5)] [1, 2, 3, 4, 0] rfl ?_
          exact ih _ _ hf
        · have hf := oin c4 hf
          obtain ⟨x6, hx6, hf⟩ := ol hf
          refine r_iinc 35 C 3 x6 [(3, .int x6), (0, .ref (G.2.1 o)), (1, .int v1), (2, .int v2), (4, .int v4)] dX2_votesOf_32 rfl rfl hx6.symm (by decide) rfl ?_
          obtain ⟨x7, hx7, hf⟩ := ol hf
          refine r_iinc 38 C 4 x7 [(4, .int x7), (3, .int x6), (0, .ref (G.2.1 o)), (1, .int v1), (2, .int v2)] dX2_votesOf_35 rfl rfl hx7.symm (by decide) rfl ?_
          refine r_goto 5 C dX2_votesOf_38 rfl ?_
          refine r_sub [(0, .ref (G.2.1 o)), (1, .int v1), (2, .int v2), (3, .int x6), (4, .int x7)] [2, 3, 4, 1, 0] rfl ?_
          exact ih _ _ hf
set_option maxRecDepth 100000 in
set_option maxHeartbeats 4000000 in
theorem c_X2_votesOf (l : Launch) (G : GG) (A : Nat → Prop) (o : Nat) (a1 : Int32) (a2 : Int32) (ho : IsSt o) (g : Mem) (res : Int32) (hf : f_X2_votesOf o a1 a2 g = some res) : k_Mi l yX2_votesOf wsX2_votesOf rm_X2_votesOf G shC A [.ref (G.2.1 o), .int a1, .int a2] g res g := by
  have hinX2 : ∀ w ∈ wsX20, w ∈ wsX2_votesOf := in_X2_votesOf_X2
  refine k_ofi (cc := cX2_votesOf) (nL := 5) (own := RX2) (by decide +kernel) rfl rfl (by simp [lg_sl, Value.category]) ⟨rfl, rfl⟩ [(0, .ref (G.2.1 o)), (1, .int a1), (2, .int a2)] rfl ?_
  intro p e s m args below meth c C hr hk0
  rw [f_X2_votesOf] at hf
  refine r_iconst (v := 0) 1 C dX2_votesOf_0 rfl (by decide) ?_
  refine r_istore_n 2 C [(3, .int 0), (0, .ref (G.2.1 o)), (1, .int a1), (2, .int a2)] dX2_votesOf_1 rfl rfl (by decide) rfl ?_
  refine r_iconst (v := 1) 3 C dX2_votesOf_2 rfl (by decide) ?_
  refine r_istore 5 C [(4, .int 1), (3, .int 0), (0, .ref (G.2.1 o)), (1, .int a1), (2, .int a2)] dX2_votesOf_3 rfl rfl (by decide) rfl ?_
  refine r_sub [(0, .ref (G.2.1 o)), (1, .int a1), (2, .int a2), (3, .int 0), (4, .int 1)] [2, 3, 4, 1, 0] rfl ?_
  refine t_X2_votesOf_L5 C hr hk0 o a1 a2 ho a1 a2 g (fun x8 hf => ?_) fuel0 _ _ hf
  refine r_iload_n 42 C 0 dX2_votesOf_41 rfl rfl ?_
  have hf := Option.some.inj hf
  subst hf
  exact r_iret C hr hk0 dX2_votesOf_42
def rm_X4_has : Room := { frames := 0, cells := 0, slots := 0, locals := 0 }
theorem hd_X4_has : yX4_has.cls ≠ "java/lang/invoke/MethodHandle" ∧ yX4_has.cls ≠ "java/lang/invoke/VarHandle" ∧ (parseMethodDescriptor yX4_has.desc).map (fun d => d.parameters.length) = some 2 := by decide +kernel
set_option maxRecDepth 100000 in
set_option maxHeartbeats 4000000 in
theorem c_X4_has (l : Launch) (G : GG) (A : Nat → Prop) (a1 : Int32) (a2 : Int32)  (g : Mem) (res : Bool) (hf : f_X4_has a1 a2 = res) : k_Mi l yX4_has wsX4_has rm_X4_has G shC A [.int a1, .int a2] g (bI res) g := by
  refine k_ofi (cc := cX4_has) (nL := 2) (own := RX4) (by decide +kernel) rfl rfl (by simp [lg_sl, Value.category]) ⟨rfl, rfl⟩ [(0, .int a1), (1, .int a2)] rfl ?_
  intro p e s m args below meth c C hr hk0
  rw [f_X4_has] at hf
  refine r_iload_n 1 C 0 dX4_has_0 rfl rfl ?_
  refine r_iload_n 2 C 1 dX4_has_1 rfl rfl ?_
  refine r_ishr 3 C dX4_has_2 rfl ?_
  refine r_iconst (v := 1) 4 C dX4_has_3 rfl (by decide) ?_
  refine r_iand 5 C dX4_has_4 rfl ?_
  refine r_iconst (v := 1) 6 C dX4_has_5 rfl (by decide) ?_
  refine r_icmp_ne 13 9 C dX4_has_6 rfl rfl (fun c1 => ?_) (fun c1 => ?_)
  · have hf := oin c1 hf
    refine r_iconst (v := 0) 14 C dX4_has_13 rfl (by decide) ?_
    subst hf
    exact r_zret C hr hk0 false rfl dX4_has_14
  · have hf := oip c1 hf
    refine r_iconst (v := 1) 10 C dX4_has_9 rfl (by decide) ?_
    refine r_goto 14 C dX4_has_10 rfl ?_
    subst hf
    exact r_zret C hr hk0 true rfl dX4_has_14
def rm_X4_isAcceptor : Room := { frames := 0, cells := 0, slots := 0, locals := 0 }
theorem hd_X4_isAcceptor : yX4_isAcceptor.cls ≠ "java/lang/invoke/MethodHandle" ∧ yX4_isAcceptor.cls ≠ "java/lang/invoke/VarHandle" ∧ (parseMethodDescriptor yX4_isAcceptor.desc).map (fun d => d.parameters.length) = some 1 := by decide +kernel
set_option maxRecDepth 100000 in
set_option maxHeartbeats 4000000 in
theorem c_X4_isAcceptor (l : Launch) (G : GG) (A : Nat → Prop) (a1 : Int32)  (g : Mem) (res : Bool) (hf : f_X4_isAcceptor a1 = res) : k_Mi l yX4_isAcceptor wsX4_isAcceptor rm_X4_isAcceptor G shC A [.int a1] g (bI res) g := by
  refine k_ofi (cc := cX4_isAcceptor) (nL := 1) (own := RX4) (by decide +kernel) rfl rfl (by simp [lg_sl, Value.category]) ⟨rfl, rfl⟩ [(0, .int a1)] rfl ?_
  intro p e s m args below meth c C hr hk0
  rw [f_X4_isAcceptor] at hf
  refine r_iload_n 1 C 0 dX4_isAcceptor_0 rfl rfl ?_
  refine r_if_lt 14 4 C dX4_isAcceptor_1 rfl rfl (fun c1 => ?_) (fun c1 => ?_)
  · have hf := oip c1 hf
    refine r_iconst (v := 0) 15 C dX4_isAcceptor_14 rfl (by decide) ?_
    subst hf
    exact r_zret C hr hk0 false rfl dX4_isAcceptor_15
  · have hf := oin c1 hf
    refine r_iload_n 5 C 0 dX4_isAcceptor_4 rfl rfl ?_
    refine r_bipush (v := 6) 7 C dX4_isAcceptor_5 rfl (by decide) ?_
    refine r_icmp_ge 14 10 C dX4_isAcceptor_7 rfl rfl (fun c2 => ?_) (fun c2 => ?_)
    · have hf := oip c2 hf
      refine r_iconst (v := 0) 15 C dX4_isAcceptor_14 rfl (by decide) ?_
      subst hf
      exact r_zret C hr hk0 false rfl dX4_isAcceptor_15
    · have hf := oin c2 hf
      refine r_iconst (v := 1) 11 C dX4_isAcceptor_10 rfl (by decide) ?_
      refine r_goto 15 C dX4_isAcceptor_11 rfl ?_
      subst hf
      exact r_zret C hr hk0 true rfl dX4_isAcceptor_15
def rm_X4_isProposer : Room := { frames := 0, cells := 0, slots := 0, locals := 0 }
theorem hd_X4_isProposer : yX4_isProposer.cls ≠ "java/lang/invoke/MethodHandle" ∧ yX4_isProposer.cls ≠ "java/lang/invoke/VarHandle" ∧ (parseMethodDescriptor yX4_isProposer.desc).map (fun d => d.parameters.length) = some 1 := by decide +kernel
set_option maxRecDepth 100000 in
set_option maxHeartbeats 4000000 in
theorem c_X4_isProposer (l : Launch) (G : GG) (A : Nat → Prop) (a1 : Int32)  (g : Mem) (res : Bool) (hf : f_X4_isProposer a1 = res) : k_Mi l yX4_isProposer wsX4_isProposer rm_X4_isProposer G shC A [.int a1] g (bI res) g := by
  refine k_ofi (cc := cX4_isProposer) (nL := 1) (own := RX4) (by decide +kernel) rfl rfl (by simp [lg_sl, Value.category]) ⟨rfl, rfl⟩ [(0, .int a1)] rfl ?_
  intro p e s m args below meth c C hr hk0
  rw [f_X4_isProposer] at hf
  refine r_iload_n 1 C 0 dX4_isProposer_0 rfl rfl ?_
  refine r_if_lt 13 4 C dX4_isProposer_1 rfl rfl (fun c1 => ?_) (fun c1 => ?_)
  · have hf := oip c1 hf
    refine r_iconst (v := 0) 14 C dX4_isProposer_13 rfl (by decide) ?_
    subst hf
    exact r_zret C hr hk0 false rfl dX4_isProposer_14
  · have hf := oin c1 hf
    refine r_iload_n 5 C 0 dX4_isProposer_4 rfl rfl ?_
    refine r_iconst (v := 3) 6 C dX4_isProposer_5 rfl (by decide) ?_
    refine r_icmp_ge 13 9 C dX4_isProposer_6 rfl rfl (fun c2 => ?_) (fun c2 => ?_)
    · have hf := oip c2 hf
      refine r_iconst (v := 0) 14 C dX4_isProposer_13 rfl (by decide) ?_
      subst hf
      exact r_zret C hr hk0 false rfl dX4_isProposer_14
    · have hf := oin c2 hf
      refine r_iconst (v := 1) 10 C dX4_isProposer_9 rfl (by decide) ?_
      refine r_goto 14 C dX4_isProposer_10 rfl ?_
      subst hf
      exact r_zret C hr hk0 true rfl dX4_isProposer_14
theorem in_X2_askPromise_X2 : ∀ w ∈ wsX20, w ∈ wsX2_askPromise := by decide +kernel
def rm_X2_askPromise : Room := { frames := 2, cells := 0, slots := 0, locals := 45 }
theorem hd_X2_askPromise : yX2_askPromise.cls = RX2 ∧ yX2_askPromise.cls ≠ "java/lang/invoke/MethodHandle" ∧ yX2_askPromise.cls ≠ "java/lang/invoke/VarHandle" ∧ (parseMethodDescriptor yX2_askPromise.desc).map (fun d => d.parameters.length) = some 2 := by decide +kernel
set_option maxRecDepth 100000 in
set_option maxHeartbeats 4000000 in
theorem c_X2_askPromise (l : Launch) (G : GG) (A : Nat → Prop) (o : Nat) (a1 : Int32) (a2 : Int32) (ho : IsSt o) (g : Mem) (res : Int32 × Mem) (hf : f_X2_askPromise o a1 a2 g = some res) : k_Mi l yX2_askPromise wsX2_askPromise rm_X2_askPromise G shC A [.ref (G.2.1 o), .int a1, .int a2] g res.1 res.2 := by
  have hinX2 : ∀ w ∈ wsX20, w ∈ wsX2_askPromise := in_X2_askPromise_X2
  refine k_ofi (cc := cX2_askPromise) (nL := 3) (own := RX2) (by decide +kernel) rfl rfl (by simp [lg_sl, Value.category]) ⟨rfl, rfl⟩ [(0, .ref (G.2.1 o)), (1, .int a1), (2, .int a2)] rfl ?_
  intro p e s m args below meth c C hr hk0
  rw [f_X2_askPromise] at hf
  refine r_iload_n 1 C 1 dX2_askPromise_0 rfl rfl ?_
  refine r_SNi (As := [.int a1]) 4 C (c_X4_isProposer l G A a1 g _ rfl) (k_cwSN C (by decide +kernel) gX2_askPromise_X4_isProposer_n98 rfl ⟨rfl, rfl⟩ (by decide +kernel) (by decide +kernel) hd_X4_isProposer ⟨Nat.le_of_ble_eq_true rfl, Nat.le_of_ble_eq_true rfl⟩) rfl rfl (Nat.le_of_ble_eq_true rfl) dX2_askPromise_1 rfl ?_
  refine r_if_eq 14 7 C dX2_askPromise_4 rfl rfl (fun c1 => ?_) (fun c1 => ?_)
  · have hf := obf c1 hf
    refine r_iconst (v := (-1)) 15 C dX2_askPromise_14 rfl (by decide) ?_
    have hf := Option.some.inj hf
    subst hf
    exact r_iret C hr hk0 dX2_askPromise_15
  · have hf := obt c1 hf
    refine r_iload_n 8 C 2 dX2_askPromise_7 rfl rfl ?_
    refine r_SNi (As := [.int a2]) 11 C (c_X4_isAcceptor l G A a2 g _ rfl) (k_cwSN C (by decide +kernel) gX2_askPromise_X4_isAcceptor_n77 rfl ⟨rfl, rfl⟩ (by decide +kernel) (by decide +kernel) hd_X4_isAcceptor ⟨Nat.le_of_ble_eq_true rfl, Nat.le_of_ble_eq_true rfl⟩) rfl rfl (Nat.le_of_ble_eq_true rfl) dX2_askPromise_8 rfl ?_
    refine r_if_ne 16 14 C dX2_askPromise_11 rfl rfl (fun c2 => ?_) (fun c2 => ?_)
    · have hf := obt c2 hf
      refine r_aload_n 17 C 0 dX2_askPromise_16 rfl rfl ?_
      refine r_getr 20 C (k := 8) (st_0 ho) rfl hinX2 (by decide) rfl dX2_askPromise_17 rfl (by decide +kernel) ?_
      refine r_iload_n 21 C 1 dX2_askPromise_20 rfl rfl ?_
      obtain ⟨x3, hx3, hf⟩ := ob hf
      refine r_iaload 22 C (st_4 ho) dX2_askPromise_21 rfl hx3 ?_
      refine r_if_eq 36 25 C dX2_askPromise_22 rfl rfl (fun c4 => ?_) (fun c4 => ?_)
      · have hf := oip c4 hf
        refine r_bipush (v := (-4)) 38 C dX2_askPromise_36 rfl (by decide) ?_
        have hf := Option.some.inj hf
        subst hf
        exact r_iret C hr hk0 dX2_askPromise_38
      · have hf := oin c4 hf
        refine r_aload_n 26 C 0 dX2_askPromise_25 rfl rfl ?_
        refine r_geti 29 C (k := 0) (st_0 ho) rfl hinX2 (by decide) rfl dX2_askPromise_26 rfl (by decide +kernel) ?_
        refine r_iload_n 30 C 2 dX2_askPromise_29 rfl rfl ?_
        refine r_SNi (As := [.int (g o 0), .int a2]) 33 C (c_X4_has l G A (g o 0) a2 g _ rfl) (k_cwSN C (by decide +kernel) gX2_askPromise_X4_has_n81 rfl ⟨rfl, rfl⟩ (by decide +kernel) (by decide +kernel) hd_X4_has ⟨Nat.le_of_ble_eq_true rfl, Nat.le_of_ble_eq_true rfl⟩) rfl rfl (Nat.le_of_ble_eq_true rfl) dX2_askPromise_30 rfl ?_
        refine r_if_ne 39 36 C dX2_askPromise_33 rfl rfl (fun c5 => ?_) (fun c5 => ?_)
        · have hf := obt c5 hf
          refine r_aload_n 40 C 0 dX2_askPromise_39 rfl rfl ?_
          refine r_getr 43 C (k := 10) (st_0 ho) rfl hinX2 (by decide) rfl dX2_askPromise_40 rfl (by decide +kernel) ?_
          refine r_iload_n 44 C 1 dX2_askPromise_43 rfl rfl ?_
          obtain ⟨x6, hx6, hf⟩ := ob hf
          refine r_iaload 45 C (st_6 ho) dX2_askPromise_44 rfl hx6 ?_
          refine r_iload_n 46 C 2 dX2_askPromise_45 rfl rfl ?_
          refine r_SNi (As := [.int x6, .int a2]) 49 C (c_X4_has l G A x6 a2 g _ rfl) (k_cwSN C (by decide +kernel) gX2_askPromise_X4_has_n81 rfl ⟨rfl, rfl⟩ (by decide +kernel) (by decide +kernel) hd_X4_has ⟨Nat.le_of_ble_eq_true rfl, Nat.le_of_ble_eq_true rfl⟩) rfl rfl (Nat.le_of_ble_eq_true rfl) dX2_askPromise_46 rfl ?_
          refine r_if_eq 55 52 C dX2_askPromise_49 rfl rfl (fun c7 => ?_) (fun c7 => ?_)
          · have hf := obf c7 hf
            refine r_aload_n 56 C 0 dX2_askPromise_55 rfl rfl ?_
            refine r_getr 59 C (k := 8) (st_0 ho) rfl hinX2 (by decide) rfl dX2_askPromise_56 rfl (by decide +kernel) ?_
            refine r_iload_n 60 C 1 dX2_askPromise_59 rfl rfl ?_
            obtain ⟨x8, hx8, hf⟩ := ob hf
            refine r_iaload 61 C (st_4 ho) dX2_askPromise_60 rfl hx8 ?_
            refine r_aload_n 62 C 0 dX2_askPromise_61 rfl rfl ?_
            refine r_getr 65 C (k := 5) (st_0 ho) rfl hinX2 (by decide) rfl dX2_askPromise_62 rfl (by decide +kernel) ?_
            refine r_iload_n 66 C 2 dX2_askPromise_65 rfl rfl ?_
            obtain ⟨x9, hx9, hf⟩ := ob hf
            refine r_iaload 67 C (st_1 ho) dX2_askPromise_66 rfl hx9 ?_
            refine r_icmp_gt 87 70 C dX2_askPromise_67 rfl rfl (fun c10 => ?_) (fun c10 => ?_)
            · have hf := oip c10 hf
              refine r_aload_n 88 C 0 dX2_askPromise_87 rfl rfl ?_
              refine r_getr 91 C (k := 5) (st_0 ho) rfl hinX2 (by decide) rfl dX2_askPromise_88 rfl (by decide +kernel) ?_
              refine r_iload_n 92 C 2 dX2_askPromise_91 rfl rfl ?_
              refine r_aload_n 93 C 0 dX2_askPromise_92 rfl rfl ?_
              refine r_getr 96 C (k := 8) (st_0 ho) rfl hinX2 (by decide) rfl dX2_askPromise_93 rfl (by decide +kernel) ?_
              refine r_iload_n 97 C 1 dX2_askPromise_96 rfl rfl ?_
              obtain ⟨x11, hx11, hf⟩ := ob hf
              refine r_iaload 98 C (st_4 ho) dX2_askPromise_97 rfl hx11 ?_
              obtain ⟨g12, hg12, hf⟩ := ob hf
              refine r_iastore 99 C (st_1 ho) dX2_askPromise_98 rfl hg12 ?_
              refine r_aload_n 100 C 0 dX2_askPromise_99 rfl rfl ?_
              refine r_getr 103 C (k := 10) (st_0 ho) rfl hinX2 (by decide) rfl dX2_askPromise_100 rfl (by decide +kernel) ?_
              refine r_iload_n 104 C 1 dX2_askPromise_103 rfl rfl ?_
              refine r_dup2 105 C dX2_askPromise_104 rfl rfl rfl ?_
              obtain ⟨x13, hx13, hf⟩ := ob hf
              refine r_iaload 106 C (st_6 ho) dX2_askPromise_105 rfl hx13 ?_
              refine r_iconst (v := 1) 107 C dX2_askPromise_106 rfl (by decide) ?_
              refine r_iload_n 108 C 2 dX2_askPromise_107 rfl rfl ?_
              refine r_ishl 109 C dX2_askPromise_108 rfl ?_
              refine r_ior 110 C dX2_askPromise_109 rfl ?_
              obtain ⟨g14, hg14, hf⟩ := ob hf
              refine r_iastore 111 C (st_6 ho) dX2_askPromise_110 rfl hg14 ?_
              refine r_aload_n 112 C 0 dX2_askPromise_111 rfl rfl ?_
              refine r_iload_n 113 C 1 dX2_askPromise_112 rfl rfl ?_
              refine r_iload_n 114 C 2 dX2_askPromise_113 rfl rfl ?_
              obtain ⟨g15, hg15, hf⟩ := ob hf
              refine r_Vv (As := [.int a1, .int a2]) 117 C (st_0 ho) rfl (c_X2_tellVotes l G A o a1 a2 ho g14 _ hg15) (cwV 2 C.1.2.2.2.2 gX2_askPromise_X2_tellVotes rfl rfl rfl hd_X2_tellVotes ⟨Nat.le_of_ble_eq_true rfl, Nat.le_of_ble_eq_true rfl⟩) rfl rfl (Nat.le_of_ble_eq_true rfl) dX2_askPromise_114 rfl ?_
              refine r_aload_n 118 C 0 dX2_askPromise_117 rfl rfl ?_
              refine r_iload_n 119 C 2 dX2_askPromise_118 rfl rfl ?_
              refine r_bipush (v := 16) 121 C dX2_askPromise_119 rfl (by decide) ?_
              obtain ⟨x16, hx16, hf⟩ := ob hf
              refine r_Vi (As := [.int a2, .int 16]) 124 C (st_0 ho) rfl (c_X2_votesOf l G A o a2 16 ho g15 _ hx16) (cwV 2 C.1.2.2.2.2 gX2_askPromise_X2_votesOf rfl rfl rfl hd_X2_votesOf ⟨Nat.le_of_ble_eq_true rfl, Nat.le_of_ble_eq_true rfl⟩) rfl rfl (Nat.le_of_ble_eq_true rfl) dX2_askPromise_121 rfl ?_
              have hf := Option.some.inj hf
              subst hf
              exact r_iret C hr hk0 dX2_askPromise_124
            · have hf := oin c10 hf
              refine r_aload_n 71 C 0 dX2_askPromise_70 rfl rfl ?_
              refine r_dup 72 C dX2_askPromise_71 rfl rfl ?_
              refine r_geti 75 C (k := 3) (st_0 ho) rfl hinX2 (by decide) rfl dX2_askPromise_72 rfl (by decide +kernel) ?_
              refine r_iconst (v := 1) 76 C dX2_askPromise_75 rfl (by decide) ?_
              refine r_iadd 77 C dX2_askPromise_76 rfl ?_
              obtain ⟨g17, hg17, hf⟩ := ol hf
              refine r_puti 80 C (k := 3) (ty := .int) tyX2 tyX2_ok nmX2 (st_0 ho) rfl hinX2 (by decide) rfl rfl (by decide +kernel) rfl rfl hg17 dX2_askPromise_77 rfl (by decide +kernel) ?_
              refine r_aload_n 81 C 0 dX2_askPromise_80 rfl rfl ?_
              refine r_iload_n 82 C 1 dX2_askPromise_81 rfl rfl ?_
              refine r_iload_n 83 C 2 dX2_askPromise_82 rfl rfl ?_
              obtain ⟨x18, g19, hx18, hf⟩ := ob2 hf
              refine r_Vi (As := [.int a1, .int a2]) 86 C (st_0 ho) rfl (c_X2_refuse l G A o a1 a2 ho g17 _ hx18) (cwV 2 C.1.2.2.2.2 gX2_askPromise_X2_refuse rfl rfl rfl hd_X2_refuse ⟨Nat.le_of_ble_eq_true rfl, Nat.le_of_ble_eq_true rfl⟩) rfl rfl (Nat.le_of_ble_eq_true rfl) dX2_askPromise_83 rfl ?_
              have hf := Option.some.inj hf
              subst hf
              exact r_iret C hr hk0 dX2_askPromise_86
          · have hf := obt c7 hf
            refine r_bipush (v := (-5)) 54 C dX2_askPromise_52 rfl (by decide) ?_
            have hf := Option.some.inj hf
            subst hf
            exact r_iret C hr hk0 dX2_askPromise_54
        · have hf := obf c5 hf
          refine r_bipush (v := (-4)) 38 C dX2_askPromise_36 rfl (by decide) ?_
          have hf := Option.some.inj hf
          subst hf
          exact r_iret C hr hk0 dX2_askPromise_38
    · have hf := obf c2 hf
      refine r_iconst (v := (-1)) 15 C dX2_askPromise_14 rfl (by decide) ?_
      have hf := Option.some.inj hf
      subst hf
      exact r_iret C hr hk0 dX2_askPromise_15
def rm_J6_bitCount_0f7a4 : Room := { frames := 0, cells := 0, slots := 0, locals := 0 }
theorem hd_J6_bitCount_0f7a4 : yJ6_bitCount_0f7a4.cls ≠ "java/lang/invoke/MethodHandle" ∧ yJ6_bitCount_0f7a4.cls ≠ "java/lang/invoke/VarHandle" ∧ (parseMethodDescriptor yJ6_bitCount_0f7a4.desc).map (fun d => d.parameters.length) = some 1 := by decide +kernel
set_option maxRecDepth 100000 in
set_option maxHeartbeats 4000000 in
theorem c_J6_bitCount_0f7a4 (l : Launch) (G : GG) (A : Nat → Prop) (a1 : Int32)  (g : Mem) (res : Int32) (hf : f_J6_bitCount_0f7a4 a1 = res) : k_Mi l yJ6_bitCount_0f7a4 wsJ6_bitCount_0f7a4 rm_J6_bitCount_0f7a4 G shC A [.int a1] g res g := by
  refine k_ofi (cc := cJ6_bitCount_0f7a4) (nL := 1) (own := RJ6) (by decide +kernel) rfl rfl (by simp [lg_sl, Value.category]) ⟨rfl, rfl⟩ [(0, .int a1)] rfl ?_
  intro p e s m args below meth c C hr hk0
  rw [f_J6_bitCount_0f7a4] at hf
  refine r_iload_n 1 C 0 dJ6_bitCount_0f7a4_0 rfl rfl ?_
  refine r_iload_n 2 C 0 dJ6_bitCount_0f7a4_1 rfl rfl ?_
  refine r_iconst (v := 1) 3 C dJ6_bitCount_0f7a4_2 rfl (by decide) ?_
  refine r_iushr 4 C dJ6_bitCount_0f7a4_3 rfl ?_
  refine r_ldc_w (v := 1431655765) 7 C dJ6_bitCount_0f7a4_4 rfl (by decide +kernel) ?_
  refine r_iand 8 C dJ6_bitCount_0f7a4_7 rfl ?_
  refine r_isub 9 C dJ6_bitCount_0f7a4_8 rfl ?_
  obtain ⟨x1, hx1, hf⟩ := ol hf
  refine r_istore_n 10 C [(0, .int x1)] dJ6_bitCount_0f7a4_9 rfl hx1 (by decide) rfl ?_
  refine r_iload_n 11 C 0 dJ6_bitCount_0f7a4_10 rfl rfl ?_
  refine r_ldc_w (v := 858993459) 14 C dJ6_bitCount_0f7a4_11 rfl (by decide +kernel) ?_
  refine r_iand 15 C dJ6_bitCount_0f7a4_14 rfl ?_
  refine r_iload_n 16 C 0 dJ6_bitCount_0f7a4_15 rfl rfl ?_
  refine r_iconst (v := 2) 17 C dJ6_bitCount_0f7a4_16 rfl (by decide) ?_
  refine r_iushr 18 C dJ6_bitCount_0f7a4_17 rfl ?_
  refine r_ldc_w (v := 858993459) 21 C dJ6_bitCount_0f7a4_18 rfl (by decide +kernel) ?_
  refine r_iand 22 C dJ6_bitCount_0f7a4_21 rfl ?_
  refine r_iadd 23 C dJ6_bitCount_0f7a4_22 rfl ?_
  obtain ⟨x2, hx2, hf⟩ := ol hf
  refine r_istore_n 24 C [(0, .int x2)] dJ6_bitCount_0f7a4_23 rfl hx2 (by decide) rfl ?_
  refine r_iload_n 25 C 0 dJ6_bitCount_0f7a4_24 rfl rfl ?_
  refine r_iload_n 26 C 0 dJ6_bitCount_0f7a4_25 rfl rfl ?_
  refine r_iconst (v := 4) 27 C dJ6_bitCount_0f7a4_26 rfl (by decide) ?_
  refine r_iushr 28 C dJ6_bitCount_0f7a4_27 rfl ?_
  refine r_iadd 29 C dJ6_bitCount_0f7a4_28 rfl ?_
  refine r_ldc_w (v := 252645135) 32 C dJ6_bitCount_0f7a4_29 rfl (by decide +kernel) ?_
  refine r_iand 33 C dJ6_bitCount_0f7a4_32 rfl ?_
  obtain ⟨x3, hx3, hf⟩ := ol hf
  refine r_istore_n 34 C [(0, .int x3)] dJ6_bitCount_0f7a4_33 rfl hx3 (by decide) rfl ?_
  refine r_iload_n 35 C 0 dJ6_bitCount_0f7a4_34 rfl rfl ?_
  refine r_iload_n 36 C 0 dJ6_bitCount_0f7a4_35 rfl rfl ?_
  refine r_bipush (v := 8) 38 C dJ6_bitCount_0f7a4_36 rfl (by decide) ?_
  refine r_iushr 39 C dJ6_bitCount_0f7a4_38 rfl ?_
  refine r_iadd 40 C dJ6_bitCount_0f7a4_39 rfl ?_
  obtain ⟨x4, hx4, hf⟩ := ol hf
  refine r_istore_n 41 C [(0, .int x4)] dJ6_bitCount_0f7a4_40 rfl hx4 (by decide) rfl ?_
  refine r_iload_n 42 C 0 dJ6_bitCount_0f7a4_41 rfl rfl ?_
  refine r_iload_n 43 C 0 dJ6_bitCount_0f7a4_42 rfl rfl ?_
  refine r_bipush (v := 16) 45 C dJ6_bitCount_0f7a4_43 rfl (by decide) ?_
  refine r_iushr 46 C dJ6_bitCount_0f7a4_45 rfl ?_
  refine r_iadd 47 C dJ6_bitCount_0f7a4_46 rfl ?_
  obtain ⟨x5, hx5, hf⟩ := ol hf
  refine r_istore_n 48 C [(0, .int x5)] dJ6_bitCount_0f7a4_47 rfl hx5 (by decide) rfl ?_
  refine r_iload_n 49 C 0 dJ6_bitCount_0f7a4_48 rfl rfl ?_
  refine r_bipush (v := 63) 51 C dJ6_bitCount_0f7a4_49 rfl (by decide) ?_
  refine r_iand 52 C dJ6_bitCount_0f7a4_51 rfl ?_
  subst hf
  exact r_iret C hr hk0 dJ6_bitCount_0f7a4_52
theorem in_X2_votersOf_X2 : ∀ w ∈ wsX20, w ∈ wsX2_votersOf := by decide +kernel
def rm_X2_votersOf : Room := { frames := 0, cells := 0, slots := 0, locals := 0 }
theorem hd_X2_votersOf : yX2_votersOf.cls = RX2 ∧ yX2_votersOf.cls ≠ "java/lang/invoke/MethodHandle" ∧ yX2_votersOf.cls ≠ "java/lang/invoke/VarHandle" ∧ (parseMethodDescriptor yX2_votersOf.desc).map (fun d => d.parameters.length) = some 1 := by decide +kernel
set_option maxRecDepth 100000 in
set_option maxHeartbeats 4000000 in
theorem t_X2_votersOf_L5 {p : Program} {l : Launch} {e : Env} {s : State} {m : MethodId} {args : Array Value} {below : List Frame} {meth : Method} {c : Code} {G : GG} {A : Nat → Prop} (C : KX p s m args c cX2_votersOf 4 RX2 wsX2_votersOf G shC A) (hr : meth.sig.returnType = (some .int)) (hk0 : meth.locks = false) (o : Nat) (a1 : Int32) (ho : IsSt o) (v1 : Int32) (g : Mem) {res : Int32} {k : Int32 → Option Int32} (hk : ∀ (v2 : Int32), k v2 = some res → JJ p l e rm_X2_votersOf s m args below meth c 4 G shC A (MQ below (k_Qi G shC A res g) args s 0 0 A) 45 [(2, .int v2)] [] g) : ∀ (n : Nat) (v2 : Int32) (v3 : Int32), f_X2_votersOf_L5 k o v1 g n v2 v3 = some res → JJ p l e rm_X2_votersOf s m args below meth c 4 G shC A (MQ below (k_Qi G shC A res g) args s 0 0 A) 5 [(0, .ref (G.2.1 o)), (1, .int v1), (2, .int v2), (3, .int v3)] [] g := by
  have hinX2 : ∀ w ∈ wsX20, w ∈ wsX2_votersOf := in_X2_votersOf_X2
  intro n
  induction n with
  | zero =>
    intro v2 v3 hf
    rw [f_X2_votersOf_L5] at hf
    cases hf
  | succ n ih =>
    intro v2 v3 hf
    rw [f_X2_votersOf_L5] at hf
    refine r_iload_n 6 C 3 dX2_votersOf_5 rfl rfl ?_
    refine r_bipush (v := 16) 8 C dX2_votersOf_6 rfl (by decide) ?_
    refine r_icmp_gt 45 11 C dX2_votersOf_8 rfl rfl (fun c1 => ?_) (fun c1 => ?_)
    · have hf := oip c1 hf
      refine r_sub [(2, .int v2)] [2] rfl ?_
      exact hk _ hf
    · have hf := oin c1 hf
      refine r_iload_n 12 C 3 dX2_votersOf_11 rfl rfl ?_
      refine r_iload_n 13 C 1 dX2_votersOf_12 rfl rfl ?_
      refine r_iconst (v := 3) 14 C dX2_votersOf_13 rfl (by decide) ?_
      refine r_isub 15 C dX2_votersOf_14 rfl ?_
      refine r_icmp_gt 45 18 C dX2_votersOf_15 rfl rfl (fun c2 => ?_) (fun c2 => ?_)
      · have hf := oip c2 hf
        refine r_sub [(2, .int v2)] [2] rfl ?_
        exact hk _ hf
      · have hf := oin c2 hf
        refine r_aload_n 19 C 0 dX2_votersOf_18 rfl rfl ?_
        refine r_getr 22 C (k := 14) (st_0 ho) rfl hinX2 (by decide) rfl dX2_votersOf_19 rfl (by decide +kernel) ?_
        refine r_iload_n 23 C 3 dX2_votersOf_22 rfl rfl ?_
        obtain ⟨x3, hx3, hf⟩ := ob hf
        refine r_iaload 24 C (st_10 ho) dX2_votersOf_23 rfl hx3 ?_
        refine r_bipush (v := 100) 26 C dX2_votersOf_24 rfl (by decide) ?_
        refine r_icmp_le 39 29 C dX2_votersOf_26 rfl rfl (fun c4 => ?_) (fun c4 => ?_)
        · have hf := oip c4 hf
          obtain ⟨x5, hx5, hf⟩ := ol hf
          refine r_iinc 42 C 3 x5 [(3, .int x5), (0, .ref (G.2.1 o)), (1, .int v1), (2, .int v2)] dX2_votersOf_39 rfl rfl hx5.symm (by decide) rfl ?_
          refine r_goto 5 C dX2_votersOf_42 rfl ?_
          refine r_sub [(0, .ref (G.2.1 o)), (1, .int v1), (2, .int v2), (3, .int x5)] [1, 2, 3, 0] rfl ?_
          exact ih _ _ hf
        · have hf := oin c4 hf
          refine r_aload_n 30 C 0 dX2_votersOf_29 rfl rfl ?_
          refine r_getr 33 C (k := 14) (st_0 ho) rfl hinX2 (by decide) rfl dX2_votersOf_30 rfl (by decide +kernel) ?_
          refine r_iload_n 34 C 3 dX2_votersOf_33 rfl rfl ?_
          obtain ⟨x6, hx6, hf⟩ := ob hf
          refine r_iaload 35 C (st_10 ho) dX2_votersOf_34 rfl hx6 ?_
          refine r_bipush (v := 100) 37 C dX2_votersOf_35 rfl (by decide) ?_
          refine r_isub 38 C dX2_votersOf_37 rfl ?_
          obtain ⟨x7, hx7, hf⟩ := ol hf
          refine r_istore_n 39 C [(2, .int x7), (0, .ref (G.2.1 o)), (1, .int v1), (3, .int v3)] dX2_votersOf_38 rfl hx7 (by decide) rfl ?_
          obtain ⟨x8, hx8, hf⟩ := ol hf
          refine r_iinc 42 C 3 x8 [(3, .int x8), (2, .int x7), (0, .ref (G.2.1 o)), (1, .int v1)] dX2_votersOf_39 rfl rfl hx8.symm (by decide) rfl ?_
          refine r_goto 5 C dX2_votersOf_42 rfl ?_
          refine r_sub [(0, .ref (G.2.1 o)), (1, .int v1), (2, .int x7), (3, .int x8)] [2, 3, 1, 0] rfl ?_
          exact ih _ _ hf
set_option maxRecDepth 100000 in
set_option maxHeartbeats 4000000 in
theorem c_X2_votersOf (l : Launch) (G : GG) (A : Nat → Prop) (o : Nat) (a1 : Int32) (ho : IsSt o) (g : Mem) (res : Int32) (hf : f_X2_votersOf o a1 g = some res) : k_Mi l yX2_votersOf wsX2_votersOf rm_X2_votersOf G shC A [.ref (G.2.1 o), .int a1] g res g := by
  have hinX2 : ∀ w ∈ wsX20, w ∈ wsX2_votersOf := in_X2_votersOf_X2
  refine k_ofi (cc := cX2_votersOf) (nL := 4) (own := RX2) (by decide +kernel) rfl rfl (by simp [lg_sl, Value.category]) ⟨rfl, rfl⟩ [(0, .ref (G.2.1 o)), (1, .int a1)] rfl ?_
  intro p e s m args below meth c C hr hk0
  rw [f_X2_votersOf] at hf
  refine r_bipush (v := 7) 2 C dX2_votersOf_0 rfl (by decide) ?_
  refine r_istore_n 3 C [(2, .int 7), (0, .ref (G.2.1 o)), (1, .int a1)] dX2_votersOf_2 rfl rfl (by decide) rfl ?_
  refine r_iconst (v := 1) 4 C dX2_votersOf_3 rfl (by decide) ?_
  refine r_istore_n 5 C [(3, .int 1), (2, .int 7), (0, .ref (G.2.1 o)), (1, .int a1)] dX2_votersOf_4 rfl rfl (by decide) rfl ?_
  refine r_sub [(0, .ref (G.2.1 o)), (1, .int a1), (2, .int 7), (3, .int 1)] [2, 3, 1, 0] rfl ?_
  refine t_X2_votersOf_L5 C hr hk0 o a1 ho a1 g (fun x9 hf => ?_) fuel0 _ _ hf
  refine r_iload_n 46 C 0 dX2_votersOf_45 rfl rfl ?_
  have hf := Option.some.inj hf
  subst hf
  exact r_iret C hr hk0 dX2_votersOf_46
theorem in_X2_mayAskVote_X2 : ∀ w ∈ wsX20, w ∈ wsX2_mayAskVote := by decide +kernel
def rm_X2_mayAskVote : Room := { frames := 1, cells := 0, slots := 0, locals := 23 }
theorem hd_X2_mayAskVote : yX2_mayAskVote.cls = RX2 ∧ yX2_mayAskVote.cls ≠ "java/lang/invoke/MethodHandle" ∧ yX2_mayAskVote.cls ≠ "java/lang/invoke/VarHandle" ∧ (parseMethodDescriptor yX2_mayAskVote.desc).map (fun d => d.parameters.length) = some 3 := by decide +kernel
set_option maxRecDepth 100000 in
set_option maxHeartbeats 4000000 in
theorem c_X2_mayAskVote (l : Launch) (G : GG) (A : Nat → Prop) (o : Nat) (a1 : Int32) (a2 : Int32) (a3 : Int32) (ho : IsSt o) (g : Mem) (res : Bool) (hf : f_X2_mayAskVote o a1 a2 a3 g = some res) : k_Mi l yX2_mayAskVote wsX2_mayAskVote rm_X2_mayAskVote G shC A [.ref (G.2.1 o), .int a1, .int a2, .int a3] g (bI res) g := by
  have hinX2 : ∀ w ∈ wsX20, w ∈ wsX2_mayAskVote := in_X2_mayAskVote_X2
  refine k_ofi (cc := cX2_mayAskVote) (nL := 4) (own := RX2) (by decide +kernel) rfl rfl (by simp [lg_sl, Value.category]) ⟨rfl, rfl⟩ [(0, .ref (G.2.1 o)), (1, .int a1), (2, .int a2), (3, .int a3)] rfl ?_
  intro p e s m args below meth c C hr hk0
  rw [f_X2_mayAskVote] at hf
  refine r_aload_n 1 C 0 dX2_mayAskVote_0 rfl rfl ?_
  refine r_getr 4 C (k := 11) (st_0 ho) rfl hinX2 (by decide) rfl dX2_mayAskVote_1 rfl (by decide +kernel) ?_
  refine r_iload_n 5 C 1 dX2_mayAskVote_4 rfl rfl ?_
  refine r_iload_n 6 C 2 dX2_mayAskVote_5 rfl rfl ?_
  refine r_SNi (As := [.int a1, .int a2]) 9 C (c_X4_cell l G A a1 a2 g _ rfl) (k_cwSN C (by decide +kernel) gX2_mayAskVote_X4_cell_n104 rfl ⟨rfl, rfl⟩ (by decide +kernel) (by decide +kernel) hd_X4_cell ⟨Nat.le_of_ble_eq_true rfl, Nat.le_of_ble_eq_true rfl⟩) rfl rfl (Nat.le_of_ble_eq_true rfl) dX2_mayAskVote_6 rfl ?_
  obtain ⟨x1, hx1, hf⟩ := ob hf
  refine r_iaload 10 C (st_7 ho) dX2_mayAskVote_9 rfl hx1 ?_
  refine r_if_eq 48 13 C dX2_mayAskVote_10 rfl rfl (fun c2 => ?_) (fun c2 => ?_)
  · have hf := oip c2 hf
    refine r_iconst (v := 0) 49 C dX2_mayAskVote_48 rfl (by decide) ?_
    have hf := Option.some.inj hf
    subst hf
    exact r_zret C hr hk0 false rfl dX2_mayAskVote_49
  · have hf := oin c2 hf
    refine r_iload_n 14 C 2 dX2_mayAskVote_13 rfl rfl ?_
    refine r_aload_n 15 C 0 dX2_mayAskVote_14 rfl rfl ?_
    refine r_geti 18 C (k := 2) (st_0 ho) rfl hinX2 (by decide) rfl dX2_mayAskVote_15 rfl (by decide +kernel) ?_
    refine r_icmp_le 48 21 C dX2_mayAskVote_18 rfl rfl (fun c3 => ?_) (fun c3 => ?_)
    · have hf := oip c3 hf
      refine r_iconst (v := 0) 49 C dX2_mayAskVote_48 rfl (by decide) ?_
      have hf := Option.some.inj hf
      subst hf
      exact r_zret C hr hk0 false rfl dX2_mayAskVote_49
    · have hf := oin c3 hf
      refine r_aload_n 22 C 0 dX2_mayAskVote_21 rfl rfl ?_
      refine r_geti 25 C (k := 0) (st_0 ho) rfl hinX2 (by decide) rfl dX2_mayAskVote_22 rfl (by decide +kernel) ?_
      refine r_iload_n 26 C 3 dX2_mayAskVote_25 rfl rfl ?_
      refine r_SNi (As := [.int (g o 0), .int a3]) 29 C (c_X4_has l G A (g o 0) a3 g _ rfl) (k_cwSN C (by decide +kernel) gX2_mayAskVote_X4_has_n81 rfl ⟨rfl, rfl⟩ (by decide +kernel) (by decide +kernel) hd_X4_has ⟨Nat.le_of_ble_eq_true rfl, Nat.le_of_ble_eq_true rfl⟩) rfl rfl (Nat.le_of_ble_eq_true rfl) dX2_mayAskVote_26 rfl ?_
      refine r_if_eq 48 32 C dX2_mayAskVote_29 rfl rfl (fun c4 => ?_) (fun c4 => ?_)
      · have hf := obf c4 hf
        refine r_iconst (v := 0) 49 C dX2_mayAskVote_48 rfl (by decide) ?_
        have hf := Option.some.inj hf
        subst hf
        exact r_zret C hr hk0 false rfl dX2_mayAskVote_49
      · have hf := obt c4 hf
        refine r_aload_n 33 C 0 dX2_mayAskVote_32 rfl rfl ?_
        refine r_iload_n 34 C 2 dX2_mayAskVote_33 rfl rfl ?_
        obtain ⟨x5, hx5, hf⟩ := ob hf
        refine r_Vi (As := [.int a2]) 37 C (st_0 ho) rfl (c_X2_votersOf l G A o a2 ho g _ hx5) (cwV 1 C.1.2.2.2.2 gX2_mayAskVote_X2_votersOf rfl rfl rfl hd_X2_votersOf ⟨Nat.le_of_ble_eq_true rfl, Nat.le_of_ble_eq_true rfl⟩) rfl rfl (Nat.le_of_ble_eq_true rfl) dX2_mayAskVote_34 rfl ?_
        refine r_iload_n 38 C 3 dX2_mayAskVote_37 rfl rfl ?_
        refine r_SNi (As := [.int x5, .int a3]) 41 C (c_X4_has l G A x5 a3 g _ rfl) (k_cwSN C (by decide +kernel) gX2_mayAskVote_X4_has_n81 rfl ⟨rfl, rfl⟩ (by decide +kernel) (by decide +kernel) hd_X4_has ⟨Nat.le_of_ble_eq_true rfl, Nat.le_of_ble_eq_true rfl⟩) rfl rfl (Nat.le_of_ble_eq_true rfl) dX2_mayAskVote_38 rfl ?_
        refine r_if_eq 48 44 C dX2_mayAskVote_41 rfl rfl (fun c6 => ?_) (fun c6 => ?_)
        · have hf := obf c6 hf
          refine r_iconst (v := 0) 49 C dX2_mayAskVote_48 rfl (by decide) ?_
          have hf := Option.some.inj hf
          subst hf
          exact r_zret C hr hk0 false rfl dX2_mayAskVote_49
        · have hf := obt c6 hf
          refine r_iconst (v := 1) 45 C dX2_mayAskVote_44 rfl (by decide) ?_
          refine r_goto 49 C dX2_mayAskVote_45 rfl ?_
          have hf := Option.some.inj hf
          subst hf
          exact r_zret C hr hk0 true rfl dX2_mayAskVote_49
theorem in_X2_secondSize_X2 : ∀ w ∈ wsX20, w ∈ wsX2_secondSize := by decide +kernel
def rm_X2_secondSize : Room := { frames := 1, cells := 0, slots := 0, locals := 21 }
theorem hd_X2_secondSize : yX2_secondSize.cls = RX2 ∧ yX2_secondSize.cls ≠ "java/lang/invoke/MethodHandle" ∧ yX2_secondSize.cls ≠ "java/lang/invoke/VarHandle" ∧ (parseMethodDescriptor yX2_secondSize.desc).map (fun d => d.parameters.length) = some 1 := by decide +kernel
set_option maxRecDepth 100000 in
set_option maxHeartbeats 4000000 in
theorem c_X2_secondSize (l : Launch) (G : GG) (A : Nat → Prop) (o : Nat) (a1 : Int32) (ho : IsSt o) (g : Mem) (res : Int32) (hf : f_X2_secondSize o a1 g = res) : k_Mi l yX2_secondSize wsX2_secondSize rm_X2_secondSize G shC A [.ref (G.2.1 o), .int a1] g res g := by
  have hinX2 : ∀ w ∈ wsX20, w ∈ wsX2_secondSize := in_X2_secondSize_X2
  refine k_ofi (cc := cX2_secondSize) (nL := 2) (own := RX2) (by decide +kernel) rfl rfl (by simp [lg_sl, Value.category]) ⟨rfl, rfl⟩ [(0, .ref (G.2.1 o)), (1, .int a1)] rfl ?_
  intro p e s m args below meth c C hr hk0
  rw [f_X2_secondSize] at hf
  refine r_aload_n 1 C 0 dX2_secondSize_0 rfl rfl ?_
  refine r_geti 4 C (k := 1) (st_0 ho) rfl hinX2 (by decide) rfl dX2_secondSize_1 rfl (by decide +kernel) ?_
  refine r_iload_n 5 C 1 dX2_secondSize_4 rfl rfl ?_
  refine r_Si (As := [.int a1]) 8 C (c_J6_bitCount_0f7a4 l G A a1 g _ rfl) (va_cwS 1 C.1.2.2.2.2 gX2_secondSize_J6_bitCount_0f7a4 rfl rfl rfl hd_J6_bitCount_0f7a4 ⟨Nat.le_of_ble_eq_true rfl, Nat.le_of_ble_eq_true rfl⟩) rfl rfl (Nat.le_of_ble_eq_true rfl) dX2_secondSize_5 rfl ?_
  refine r_min 11 C (by decide +kernel) (by decide +kernel) (by decide +kernel) (by decide +kernel) (Nat.le_of_ble_eq_true rfl) (Nat.le_of_ble_eq_true rfl) dX2_secondSize_8 rfl ?_
  subst hf
  exact r_iret C hr hk0 dX2_secondSize_11
theorem in_X2_votersFor_X2 : ∀ w ∈ wsX20, w ∈ wsX2_votersFor := by decide +kernel
def rm_X2_votersFor : Room := { frames := 1, cells := 0, slots := 0, locals := 23 }
theorem hd_X2_votersFor : yX2_votersFor.cls = RX2 ∧ yX2_votersFor.cls ≠ "java/lang/invoke/MethodHandle" ∧ yX2_votersFor.cls ≠ "java/lang/invoke/VarHandle" ∧ (parseMethodDescriptor yX2_votersFor.desc).map (fun d => d.parameters.length) = some 2 := by decide +kernel
set_option maxRecDepth 100000 in
set_option maxHeartbeats 4000000 in
theorem t_X2_votersFor_L12 {p : Program} {l : Launch} {e : Env} {s : State} {m : MethodId} {args : Array Value} {below : List Frame} {meth : Method} {c : Code} {G : GG} {A : Nat → Prop} (C : KX p s m args c cX2_votersFor 6 RX2 wsX2_votersFor G shC A) (hr : meth.sig.returnType = (some .int)) (hk0 : meth.locks = false) (o : Nat) (a1 : Int32) (a2 : Int32) (ho : IsSt o) (v1 : Int32) (v2 : Int32) (v3 : Int32) (g : Mem) {res : Int32} {k : Int32 → Option Int32} (hk : ∀ (v4 : Int32), k v4 = some res → JJ p l e rm_X2_votersFor s m args below meth c 6 G shC A (MQ below (k_Qi G shC A res g) args s 0 0 A) 58 [(4, .int v4)] [] g) : ∀ (n : Nat) (v4 : Int32) (v5 : Int32), f_X2_votersFor_L12 k o v1 v2 v3 g n v4 v5 = some res → JJ p l e rm_X2_votersFor s m args below meth c 6 G shC A (MQ below (k_Qi G shC A res g) args s 0 0 A) 12 [(0, .ref (G.2.1 o)), (1, .int v1), (2, .int v2), (3, .int v3), (4, .int v4), (5, .int v5)] [] g := by
  have hinX2 : ∀ w ∈ wsX20, w ∈ wsX2_votersFor := in_X2_votersFor_X2
  intro n
  induction n with
  | zero =>
    intro v4 v5 hf
    rw [f_X2_votersFor_L12] at hf
    cases hf
  | succ n ih =>
    intro v4 v5 hf
    rw [f_X2_votersFor_L12] at hf
    refine r_iload 14 C 5 dX2_votersFor_12 rfl rfl ?_
    refine r_bipush (v := 6) 16 C dX2_votersFor_14 rfl (by decide) ?_
    refine r_icmp_ge 58 19 C dX2_votersFor_16 rfl rfl (fun c2 => ?_) (fun c2 => ?_)
    · have hf := oip c2 hf
      refine r_sub [(4, .int v4)] [4] rfl ?_
      exact hk _ hf
    · have hf := oin c2 hf
      refine r_iload_n 20 C 3 dX2_votersFor_19 rfl rfl ?_
      refine r_iload 22 C 5 dX2_votersFor_20 rfl rfl ?_
      refine r_SNi (As := [.int v3, .int v5]) 25 C (c_X4_has l G A v3 v5 g _ rfl) (k_cwSN C (by decide +kernel) gX2_votersFor_X4_has_n81 rfl ⟨rfl, rfl⟩ (by decide +kernel) (by decide +kernel) hd_X4_has ⟨Nat.le_of_ble_eq_true rfl, Nat.le_of_ble_eq_true rfl⟩) rfl rfl (Nat.le_of_ble_eq_true rfl) dX2_votersFor_22 rfl ?_
      refine r_if_eq 52 28 C dX2_votersFor_25 rfl rfl (fun c3 => ?_) (fun c3 => ?_)
      · have hf := obf c3 hf
        obtain ⟨x4, hx4, hf⟩ := ol hf
        refine r_iinc 55 C 5 x4 [(5, .int x4), (0, .ref (G.2.1 o)), (1, .int v1), (2, .int v2), (3, .int v3), (4, .int v4)] dX2_votersFor_52 rfl rfl hx4.symm (by decide) rfl ?_
        refine r_goto 12 C dX2_votersFor_55 rfl ?_
        refine r_sub [(0, .ref (G.2.1 o)), (1, .int v1), (2, .int v2), (3, .int v3), (4, .int v4), (5, .int x4)] [1, 2, 3, 4, 5, 0] rfl ?_
        exact ih _ _ hf
      · have hf := obt c3 hf
        refine r_aload_n 29 C 0 dX2_votersFor_28 rfl rfl ?_
        refine r_getr 32 C (k := 6) (st_0 ho) rfl hinX2 (by decide) rfl dX2_votersFor_29 rfl (by decide +kernel) ?_
        refine r_iload 34 C 5 dX2_votersFor_32 rfl rfl ?_
        refine r_iload_n 35 C 1 dX2_votersFor_34 rfl rfl ?_
        refine r_SNi (As := [.int v5, .int v1]) 38 C (c_X4_cell l G A v5 v1 g _ rfl) (k_cwSN C (by decide +kernel) gX2_votersFor_X4_cell_n104 rfl ⟨rfl, rfl⟩ (by decide +kernel) (by decide +kernel) hd_X4_cell ⟨Nat.le_of_ble_eq_true rfl, Nat.le_of_ble_eq_true rfl⟩) rfl rfl (Nat.le_of_ble_eq_true rfl) dX2_votersFor_35 rfl ?_
        obtain ⟨x5, hx5, hf⟩ := ob hf
        refine r_iaload 39 C (st_2 ho) dX2_votersFor_38 rfl hx5 ?_
        refine r_iload_n 40 C 2 dX2_votersFor_39 rfl rfl ?_
        refine r_icmp_ne 52 43 C dX2_votersFor_40 rfl rfl (fun c6 => ?_) (fun c6 => ?_)
        · have hf := oin c6 hf
          obtain ⟨x7, hx7, hf⟩ := ol hf
          refine r_iinc 55 C 5 x7 [(5, .int x7), (0, .ref (G.2.1 o)), (1, .int v1), (2, .int v2), (3, .int v3), (4, .int v4)] dX2_votersFor_52 rfl rfl hx7.symm (by decide) rfl ?_
          refine r_goto 12 C dX2_votersFor_55 rfl ?_
          refine r_sub [(0, .ref (G.2.1 o)), (1, .int v1), (2, .int v2), (3, .int v3), (4, .int v4), (5, .int x7)] [1, 2, 3, 4, 5, 0] rfl ?_
          exact ih _ _ hf
        · have hf := oip c6 hf
          refine r_iload 45 C 4 dX2_votersFor_43 rfl rfl ?_
          refine r_iconst (v := 1) 46 C dX2_votersFor_45 rfl (by decide) ?_
          refine r_iload 48 C 5 dX2_votersFor_46 rfl rfl ?_
          refine r_ishl 49 C dX2_votersFor_48 rfl ?_
          refine r_ior 50 C dX2_votersFor_49 rfl ?_
          obtain ⟨x8, hx8, hf⟩ := ol hf
          refine r_istore 52 C [(4, .int x8), (0, .ref (G.2.1 o)), (1, .int v1), (2, .int v2), (3, .int v3), (5, .int v5)] dX2_votersFor_50 rfl hx8 (by decide) rfl ?_
          obtain ⟨x9, hx9, hf⟩ := ol hf
          refine r_iinc 55 C 5 x9 [(5, .int x9), (4, .int x8), (0, .ref (G.2.1 o)), (1, .int v1), (2, .int v2), (3, .int v3)] dX2_votersFor_52 rfl rfl hx9.symm (by decide) rfl ?_
          refine r_goto 12 C dX2_votersFor_55 rfl ?_
          refine r_sub [(0, .ref (G.2.1 o)), (1, .int v1), (2, .int v2), (3, .int v3), (4, .int x8), (5, .int x9)] [2, 3, 4, 5, 1, 0] rfl ?_
          exact ih _ _ hf
set_option maxRecDepth 100000 in
set_option maxHeartbeats 4000000 in
theorem c_X2_votersFor (l : Launch) (G : GG) (A : Nat → Prop) (o : Nat) (a1 : Int32) (a2 : Int32) (ho : IsSt o) (g : Mem) (res : Int32) (hf : f_X2_votersFor o a1 a2 g = some res) : k_Mi l yX2_votersFor wsX2_votersFor rm_X2_votersFor G shC A [.ref (G.2.1 o), .int a1, .int a2] g res g := by
  have hinX2 : ∀ w ∈ wsX20, w ∈ wsX2_votersFor := in_X2_votersFor_X2
  refine k_ofi (cc := cX2_votersFor) (nL := 6) (own := RX2) (by decide +kernel) rfl rfl (by simp [lg_sl, Value.category]) ⟨rfl, rfl⟩ [(0, .ref (G.2.1 o)), (1, .int a1), (2, .int a2)] rfl ?_
  intro p e s m args below meth c C hr hk0
  rw [f_X2_votersFor] at hf
  refine r_aload_n 1 C 0 dX2_votersFor_0 rfl rfl ?_
  refine r_iload_n 2 C 1 dX2_votersFor_1 rfl rfl ?_
  obtain ⟨x1, hx1, hf⟩ := ob hf
  refine r_Vi (As := [.int a1]) 5 C (st_0 ho) rfl (c_X2_votersOf l G A o a1 ho g _ hx1) (cwV 1 C.1.2.2.2.2 gX2_votersFor_X2_votersOf rfl rfl rfl hd_X2_votersOf ⟨Nat.le_of_ble_eq_true rfl, Nat.le_of_ble_eq_true rfl⟩) rfl rfl (Nat.le_of_ble_eq_true rfl) dX2_votersFor_2 rfl ?_
  refine r_istore_n 6 C [(3, .int x1), (0, .ref (G.2.1 o)), (1, .int a1), (2, .int a2)] dX2_votersFor_5 rfl rfl (by decide) rfl ?_
  refine r_iconst (v := 0) 7 C dX2_votersFor_6 rfl (by decide) ?_
  refine r_istore 9 C [(4, .int 0), (3, .int x1), (0, .ref (G.2.1 o)), (1, .int a1), (2, .int a2)] dX2_votersFor_7 rfl rfl (by decide) rfl ?_
  refine r_iconst (v := 0) 10 C dX2_votersFor_9 rfl (by decide) ?_
  refine r_istore 12 C [(5, .int 0), (4, .int 0), (3, .int x1), (0, .ref (G.2.1 o)), (1, .int a1), (2, .int a2)] dX2_votersFor_10 rfl rfl (by decide) rfl ?_
  refine r_sub [(0, .ref (G.2.1 o)), (1, .int a1), (2, .int a2), (3, .int x1), (4, .int 0), (5, .int 0)] [3, 4, 5, 2, 1, 0] rfl ?_
  refine t_X2_votersFor_L12 C hr hk0 o a1 a2 ho a1 a2 x1 g (fun x10 hf => ?_) fuel0 _ _ hf
  refine r_iload 60 C 0 dX2_votersFor_58 rfl rfl ?_
  have hf := Option.some.inj hf
  subst hf
  exact r_iret C hr hk0 dX2_votersFor_60
def rm_X4_isSlot : Room := { frames := 0, cells := 0, slots := 0, locals := 0 }
theorem hd_X4_isSlot : yX4_isSlot.cls ≠ "java/lang/invoke/MethodHandle" ∧ yX4_isSlot.cls ≠ "java/lang/invoke/VarHandle" ∧ (parseMethodDescriptor yX4_isSlot.desc).map (fun d => d.parameters.length) = some 1 := by decide +kernel
set_option maxRecDepth 100000 in
set_option maxHeartbeats 4000000 in
theorem c_X4_isSlot (l : Launch) (G : GG) (A : Nat → Prop) (a1 : Int32)  (g : Mem) (res : Bool) (hf : f_X4_isSlot a1 = res) : k_Mi l yX4_isSlot wsX4_isSlot rm_X4_isSlot G shC A [.int a1] g (bI res) g := by
  refine k_ofi (cc := cX4_isSlot) (nL := 1) (own := RX4) (by decide +kernel) rfl rfl (by simp [lg_sl, Value.category]) ⟨rfl, rfl⟩ [(0, .int a1)] rfl ?_
  intro p e s m args below meth c C hr hk0
  rw [f_X4_isSlot] at hf
  refine r_iload_n 1 C 0 dX4_isSlot_0 rfl rfl ?_
  refine r_iconst (v := 1) 2 C dX4_isSlot_1 rfl (by decide) ?_
  refine r_icmp_lt 15 5 C dX4_isSlot_2 rfl rfl (fun c1 => ?_) (fun c1 => ?_)
  · have hf := oip c1 hf
    refine r_iconst (v := 0) 16 C dX4_isSlot_15 rfl (by decide) ?_
    subst hf
    exact r_zret C hr hk0 false rfl dX4_isSlot_16
  · have hf := oin c1 hf
    refine r_iload_n 6 C 0 dX4_isSlot_5 rfl rfl ?_
    refine r_bipush (v := 16) 8 C dX4_isSlot_6 rfl (by decide) ?_
    refine r_icmp_gt 15 11 C dX4_isSlot_8 rfl rfl (fun c2 => ?_) (fun c2 => ?_)
    · have hf := oip c2 hf
      refine r_iconst (v := 0) 16 C dX4_isSlot_15 rfl (by decide) ?_
      subst hf
      exact r_zret C hr hk0 false rfl dX4_isSlot_16
    · have hf := oin c2 hf
      refine r_iconst (v := 1) 12 C dX4_isSlot_11 rfl (by decide) ?_
      refine r_goto 16 C dX4_isSlot_12 rfl ?_
      subst hf
      exact r_zret C hr hk0 true rfl dX4_isSlot_16
theorem in_X2_askVote_X2 : ∀ w ∈ wsX20, w ∈ wsX2_askVote := by decide +kernel
def rm_X2_askVote : Room := { frames := 2, cells := 0, slots := 0, locals := 48 }
theorem hd_X2_askVote : yX2_askVote.cls = RX2 ∧ yX2_askVote.cls ≠ "java/lang/invoke/MethodHandle" ∧ yX2_askVote.cls ≠ "java/lang/invoke/VarHandle" ∧ (parseMethodDescriptor yX2_askVote.desc).map (fun d => d.parameters.length) = some 3 := by decide +kernel
set_option maxRecDepth 100000 in
set_option maxHeartbeats 4000000 in
theorem c_X2_askVote (l : Launch) (G : GG) (A : Nat → Prop) (o : Nat) (a1 : Int32) (a2 : Int32) (a3 : Int32) (ho : IsSt o) (g : Mem) (res : Int32 × Mem) (hf : f_X2_askVote o a1 a2 a3 g = some res) : k_Mi l yX2_askVote wsX2_askVote rm_X2_askVote G shC A [.ref (G.2.1 o), .int a1, .int a2, .int a3] g res.1 res.2 := by
  have hinX2 : ∀ w ∈ wsX20, w ∈ wsX2_askVote := in_X2_askVote_X2
  refine k_ofi (cc := cX2_askVote) (nL := 6) (own := RX2) (by decide +kernel) rfl rfl (by simp [lg_sl, Value.category]) ⟨rfl, rfl⟩ [(0, .ref (G.2.1 o)), (1, .int a1), (2, .int a2), (3, .int a3)] rfl ?_
  intro p e s m args below meth c C hr hk0
  rw [f_X2_askVote] at hf
  refine r_iload_n 1 C 1 dX2_askVote_0 rfl rfl ?_
  refine r_SNi (As := [.int a1]) 4 C (c_X4_isProposer l G A a1 g _ rfl) (k_cwSN C (by decide +kernel) gX2_askVote_X4_isProposer_n98 rfl ⟨rfl, rfl⟩ (by decide +kernel) (by decide +kernel) hd_X4_isProposer ⟨Nat.le_of_ble_eq_true rfl, Nat.le_of_ble_eq_true rfl⟩) rfl rfl (Nat.le_of_ble_eq_true rfl) dX2_askVote_1 rfl ?_
  refine r_if_eq 21 7 C dX2_askVote_4 rfl rfl (fun c1 => ?_) (fun c1 => ?_)
  · have hf := obf c1 hf
    refine r_iconst (v := (-1)) 22 C dX2_askVote_21 rfl (by decide) ?_
    have hf := Option.some.inj hf
    subst hf
    exact r_iret C hr hk0 dX2_askVote_22
  · have hf := obt c1 hf
    refine r_iload_n 8 C 2 dX2_askVote_7 rfl rfl ?_
    refine r_SNi (As := [.int a2]) 11 C (c_X4_isSlot l G A a2 g _ rfl) (k_cwSN C (by decide +kernel) gX2_askVote_X4_isSlot_n117 rfl ⟨rfl, rfl⟩ (by decide +kernel) (by decide +kernel) hd_X4_isSlot ⟨Nat.le_of_ble_eq_true rfl, Nat.le_of_ble_eq_true rfl⟩) rfl rfl (Nat.le_of_ble_eq_true rfl) dX2_askVote_8 rfl ?_
    refine r_if_eq 21 14 C dX2_askVote_11 rfl rfl (fun c2 => ?_) (fun c2 => ?_)
    · have hf := obf c2 hf
      refine r_iconst (v := (-1)) 22 C dX2_askVote_21 rfl (by decide) ?_
      have hf := Option.some.inj hf
      subst hf
      exact r_iret C hr hk0 dX2_askVote_22
    · have hf := obt c2 hf
      refine r_iload_n 15 C 3 dX2_askVote_14 rfl rfl ?_
      refine r_SNi (As := [.int a3]) 18 C (c_X4_isAcceptor l G A a3 g _ rfl) (k_cwSN C (by decide +kernel) gX2_askVote_X4_isAcceptor_n77 rfl ⟨rfl, rfl⟩ (by decide +kernel) (by decide +kernel) hd_X4_isAcceptor ⟨Nat.le_of_ble_eq_true rfl, Nat.le_of_ble_eq_true rfl⟩) rfl rfl (Nat.le_of_ble_eq_true rfl) dX2_askVote_15 rfl ?_
      refine r_if_ne 23 21 C dX2_askVote_18 rfl rfl (fun c3 => ?_) (fun c3 => ?_)
      · have hf := obt c3 hf
        refine r_aload_n 24 C 0 dX2_askVote_23 rfl rfl ?_
        refine r_iload_n 25 C 1 dX2_askVote_24 rfl rfl ?_
        refine r_iload_n 26 C 2 dX2_askVote_25 rfl rfl ?_
        refine r_iload_n 27 C 3 dX2_askVote_26 rfl rfl ?_
        obtain ⟨x4, hx4, hf⟩ := ob hf
        refine r_Vi (As := [.int a1, .int a2, .int a3]) 30 C (st_0 ho) rfl (c_X2_mayAskVote l G A o a1 a2 a3 ho g _ hx4) (cwV 3 C.1.2.2.2.2 gX2_askVote_X2_mayAskVote rfl rfl rfl hd_X2_mayAskVote ⟨Nat.le_of_ble_eq_true rfl, Nat.le_of_ble_eq_true rfl⟩) rfl rfl (Nat.le_of_ble_eq_true rfl) dX2_askVote_27 rfl ?_
        refine r_if_ne 36 33 C dX2_askVote_30 rfl rfl (fun c5 => ?_) (fun c5 => ?_)
        · have hf := obt c5 hf
          refine r_iload_n 37 C 3 dX2_askVote_36 rfl rfl ?_
          refine r_iload_n 38 C 2 dX2_askVote_37 rfl rfl ?_
          refine r_SNi (As := [.int a3, .int a2]) 41 C (c_X4_cell l G A a3 a2 g _ rfl) (k_cwSN C (by decide +kernel) gX2_askVote_X4_cell_n104 rfl ⟨rfl, rfl⟩ (by decide +kernel) (by decide +kernel) hd_X4_cell ⟨Nat.le_of_ble_eq_true rfl, Nat.le_of_ble_eq_true rfl⟩) rfl rfl (Nat.le_of_ble_eq_true rfl) dX2_askVote_38 rfl ?_
          obtain ⟨x6, hx6, hf⟩ := ol hf
          refine r_istore 43 C [(4, .int x6), (0, .ref (G.2.1 o)), (1, .int a1), (2, .int a2), (3, .int a3)] dX2_askVote_41 rfl hx6 (by decide) rfl ?_
          refine r_aload_n 44 C 1 dX2_askVote_43 rfl rfl ?_
          refine r_getr 47 C (k := 6) (st_0 ho) rfl hinX2 (by decide) rfl dX2_askVote_44 rfl (by decide +kernel) ?_
          refine r_iload 49 C 0 dX2_askVote_47 rfl rfl ?_
          obtain ⟨x7, hx7, hf⟩ := ob hf
          refine r_iaload 50 C (st_2 ho) dX2_askVote_49 rfl hx7 ?_
          refine r_aload_n 51 C 1 dX2_askVote_50 rfl rfl ?_
          refine r_getr 54 C (k := 8) (st_0 ho) rfl hinX2 (by decide) rfl dX2_askVote_51 rfl (by decide +kernel) ?_
          refine r_iload_n 55 C 2 dX2_askVote_54 rfl rfl ?_
          obtain ⟨x8, hx8, hf⟩ := ob hf
          refine r_iaload 56 C (st_4 ho) dX2_askVote_55 rfl hx8 ?_
          refine r_icmp_ne 62 59 C dX2_askVote_56 rfl rfl (fun c9 => ?_) (fun c9 => ?_)
          · have hf := oin c9 hf
            refine r_aload_n 63 C 1 dX2_askVote_62 rfl rfl ?_
            refine r_getr 66 C (k := 8) (st_0 ho) rfl hinX2 (by decide) rfl dX2_askVote_63 rfl (by decide +kernel) ?_
            refine r_iload_n 67 C 2 dX2_askVote_66 rfl rfl ?_
            obtain ⟨x10, hx10, hf⟩ := ob hf
            refine r_iaload 68 C (st_4 ho) dX2_askVote_67 rfl hx10 ?_
            refine r_aload_n 69 C 1 dX2_askVote_68 rfl rfl ?_
            refine r_getr 72 C (k := 5) (st_0 ho) rfl hinX2 (by decide) rfl dX2_askVote_69 rfl (by decide +kernel) ?_
            refine r_iload_n 73 C 4 dX2_askVote_72 rfl rfl ?_
            obtain ⟨x11, hx11, hf⟩ := ob hf
            refine r_iaload 74 C (st_1 ho) dX2_askVote_73 rfl hx11 ?_
            refine r_icmp_ge 94 77 C dX2_askVote_74 rfl rfl (fun c12 => ?_) (fun c12 => ?_)
            · have hf := oip c12 hf
              refine r_aload_n 95 C 1 dX2_askVote_94 rfl rfl ?_
              refine r_getr 98 C (k := 5) (st_0 ho) rfl hinX2 (by decide) rfl dX2_askVote_95 rfl (by decide +kernel) ?_
              refine r_iload_n 99 C 4 dX2_askVote_98 rfl rfl ?_
              refine r_aload_n 100 C 1 dX2_askVote_99 rfl rfl ?_
              refine r_getr 103 C (k := 8) (st_0 ho) rfl hinX2 (by decide) rfl dX2_askVote_100 rfl (by decide +kernel) ?_
              refine r_iload_n 104 C 2 dX2_askVote_103 rfl rfl ?_
              obtain ⟨x13, hx13, hf⟩ := ob hf
              refine r_iaload 105 C (st_4 ho) dX2_askVote_104 rfl hx13 ?_
              obtain ⟨g14, hg14, hf⟩ := ob hf
              refine r_iastore 106 C (st_1 ho) dX2_askVote_105 rfl hg14 ?_
              refine r_aload_n 107 C 1 dX2_askVote_106 rfl rfl ?_
              refine r_getr 110 C (k := 6) (st_0 ho) rfl hinX2 (by decide) rfl dX2_askVote_107 rfl (by decide +kernel) ?_
              refine r_iload 112 C 0 dX2_askVote_110 rfl rfl ?_
              refine r_aload_n 113 C 1 dX2_askVote_112 rfl rfl ?_
              refine r_getr 116 C (k := 8) (st_0 ho) rfl hinX2 (by decide) rfl dX2_askVote_113 rfl (by decide +kernel) ?_
              refine r_iload_n 117 C 2 dX2_askVote_116 rfl rfl ?_
              obtain ⟨x15, hx15, hf⟩ := ob hf
              refine r_iaload 118 C (st_4 ho) dX2_askVote_117 rfl hx15 ?_
              obtain ⟨g16, hg16, hf⟩ := ob hf
              refine r_iastore 119 C (st_2 ho) dX2_askVote_118 rfl hg16 ?_
              refine r_aload_n 120 C 1 dX2_askVote_119 rfl rfl ?_
              refine r_getr 123 C (k := 7) (st_0 ho) rfl hinX2 (by decide) rfl dX2_askVote_120 rfl (by decide +kernel) ?_
              refine r_iload 125 C 0 dX2_askVote_123 rfl rfl ?_
              refine r_aload_n 126 C 1 dX2_askVote_125 rfl rfl ?_
              refine r_getr 129 C (k := 11) (st_0 ho) rfl hinX2 (by decide) rfl dX2_askVote_126 rfl (by decide +kernel) ?_
              refine r_iload_n 130 C 2 dX2_askVote_129 rfl rfl ?_
              refine r_iload_n 131 C 3 dX2_askVote_130 rfl rfl ?_
              refine r_SNi (As := [.int a1, .int a2]) 134 C (c_X4_cell l G A a1 a2 g16 _ rfl) (k_cwSN C (by decide +kernel) gX2_askVote_X4_cell_n104 rfl ⟨rfl, rfl⟩ (by decide +kernel) (by decide +kernel) hd_X4_cell ⟨Nat.le_of_ble_eq_true rfl, Nat.le_of_ble_eq_true rfl⟩) rfl rfl (Nat.le_of_ble_eq_true rfl) dX2_askVote_131 rfl ?_
              obtain ⟨x17, hx17, hf⟩ := ob hf
              refine r_iaload 135 C (st_7 ho) dX2_askVote_134 rfl hx17 ?_
              obtain ⟨g18, hg18, hf⟩ := ob hf
              refine r_iastore 136 C (st_3 ho) dX2_askVote_135 rfl hg18 ?_
              refine r_aload_n 137 C 1 dX2_askVote_136 rfl rfl ?_
              refine r_iload_n 138 C 3 dX2_askVote_137 rfl rfl ?_
              refine r_aload_n 139 C 1 dX2_askVote_138 rfl rfl ?_
              refine r_getr 142 C (k := 8) (st_0 ho) rfl hinX2 (by decide) rfl dX2_askVote_139 rfl (by decide +kernel) ?_
              refine r_iload_n 143 C 2 dX2_askVote_142 rfl rfl ?_
              obtain ⟨x19, hx19, hf⟩ := ob hf
              refine r_iaload 144 C (st_4 ho) dX2_askVote_143 rfl hx19 ?_
              obtain ⟨x20, hx20, hf⟩ := ob hf
              refine r_Vi (As := [.int a2, .int x19]) 147 C (st_0 ho) rfl (c_X2_votersFor l G A o a2 x19 ho g18 _ hx20) (cwV 2 C.1.2.2.2.2 gX2_askVote_X2_votersFor rfl rfl rfl hd_X2_votersFor ⟨Nat.le_of_ble_eq_true rfl, Nat.le_of_ble_eq_true rfl⟩) rfl rfl (Nat.le_of_ble_eq_true rfl) dX2_askVote_144 rfl ?_
              refine r_Si (As := [.int x20]) 150 C (c_J6_bitCount_0f7a4 l G A x20 g18 _ rfl) (va_cwS 1 C.1.2.2.2.2 gX2_askVote_J6_bitCount_0f7a4 rfl rfl rfl hd_J6_bitCount_0f7a4 ⟨Nat.le_of_ble_eq_true rfl, Nat.le_of_ble_eq_true rfl⟩) rfl rfl (Nat.le_of_ble_eq_true rfl) dX2_askVote_147 rfl ?_
              obtain ⟨x21, hx21, hf⟩ := ol hf
              refine r_istore 152 C [(5, .int x21), (4, .int x6), (0, .ref (G.2.1 o)), (1, .int a1), (2, .int a2), (3, .int a3)] dX2_askVote_150 rfl hx21 (by decide) rfl ?_
              refine r_aload_n 153 C 2 dX2_askVote_152 rfl rfl ?_
              refine r_getr 156 C (k := 14) (st_0 ho) rfl hinX2 (by decide) rfl dX2_askVote_153 rfl (by decide +kernel) ?_
              refine r_iload_n 157 C 4 dX2_askVote_156 rfl rfl ?_
              obtain ⟨x22, hx22, hf⟩ := ob hf
              refine r_iaload 158 C (st_10 ho) dX2_askVote_157 rfl hx22 ?_
              refine r_if_ne 200 161 C dX2_askVote_158 rfl rfl (fun c23 => ?_) (fun c23 => ?_)
              · have hf := oin c23 hf
                refine r_iload 202 C 0 dX2_askVote_200 rfl rfl ?_
                have hf := Option.some.inj hf
                subst hf
                exact r_iret C hr hk0 dX2_askVote_202
              · have hf := oip c23 hf
                refine r_iload 163 C 0 dX2_askVote_161 rfl rfl ?_
                refine r_aload_n 164 C 2 dX2_askVote_163 rfl rfl ?_
                refine r_aload_n 165 C 2 dX2_askVote_164 rfl rfl ?_
                refine r_iload_n 166 C 4 dX2_askVote_165 rfl rfl ?_
                obtain ⟨x24, hx24, hf⟩ := ob hf
                refine r_Vi (As := [.int a2]) 169 C (st_0 ho) rfl (c_X2_votersOf l G A o a2 ho g18 _ hx24) (cwV 1 C.1.2.2.2.2 gX2_askVote_X2_votersOf rfl rfl rfl hd_X2_votersOf ⟨Nat.le_of_ble_eq_true rfl, Nat.le_of_ble_eq_true rfl⟩) rfl rfl (Nat.le_of_ble_eq_true rfl) dX2_askVote_166 rfl ?_
                refine r_Vi (As := [.int x24]) 172 C (st_0 ho) rfl (c_X2_secondSize l G A o x24 ho g18 _ rfl) (cwV 1 C.1.2.2.2.2 gX2_askVote_X2_secondSize rfl rfl rfl hd_X2_secondSize ⟨Nat.le_of_ble_eq_true rfl, Nat.le_of_ble_eq_true rfl⟩) rfl rfl (Nat.le_of_ble_eq_true rfl) dX2_askVote_169 rfl ?_
                refine r_icmp_lt 200 175 C dX2_askVote_172 rfl rfl (fun c25 => ?_) (fun c25 => ?_)
                · have hf := oip c25 hf
                  refine r_iload 202 C 0 dX2_askVote_200 rfl rfl ?_
                  have hf := Option.some.inj hf
                  subst hf
                  exact r_iret C hr hk0 dX2_askVote_202
                · have hf := oin c25 hf
                  refine r_aload_n 176 C 2 dX2_askVote_175 rfl rfl ?_
                  refine r_getr 179 C (k := 14) (st_0 ho) rfl hinX2 (by decide) rfl dX2_askVote_176 rfl (by decide +kernel) ?_
                  refine r_iload_n 180 C 4 dX2_askVote_179 rfl rfl ?_
                  refine r_aload_n 181 C 2 dX2_askVote_180 rfl rfl ?_
                  refine r_getr 184 C (k := 7) (st_0 ho) rfl hinX2 (by decide) rfl dX2_askVote_181 rfl (by decide +kernel) ?_
                  refine r_iload 186 C 1 dX2_askVote_184 rfl rfl ?_
                  obtain ⟨x26, hx26, hf⟩ := ob hf
                  refine r_iaload 187 C (st_3 ho) dX2_askVote_186 rfl hx26 ?_
                  obtain ⟨g27, hg27, hf⟩ := ob hf
                  refine r_iastore 188 C (st_10 ho) dX2_askVote_187 rfl hg27 ?_
                  refine r_aload_n 189 C 2 dX2_askVote_188 rfl rfl ?_
                  refine r_getr 192 C (k := 15) (st_0 ho) rfl hinX2 (by decide) rfl dX2_askVote_189 rfl (by decide +kernel) ?_
                  refine r_iload_n 193 C 4 dX2_askVote_192 rfl rfl ?_
                  refine r_aload_n 194 C 2 dX2_askVote_193 rfl rfl ?_
                  refine r_getr 197 C (k := 8) (st_0 ho) rfl hinX2 (by decide) rfl dX2_askVote_194 rfl (by decide +kernel) ?_
                  refine r_iload_n 198 C 3 dX2_askVote_197 rfl rfl ?_
                  obtain ⟨x28, hx28, hf⟩ := ob hf
                  refine r_iaload 199 C (st_4 ho) dX2_askVote_198 rfl hx28 ?_
                  obtain ⟨g29, hg29, hf⟩ := ob hf
                  refine r_iastore 200 C (st_11 ho) dX2_askVote_199 rfl hg29 ?_
                  refine r_iload 202 C 0 dX2_askVote_200 rfl rfl ?_
                  have hf := Option.some.inj hf
                  subst hf
                  exact r_iret C hr hk0 dX2_askVote_202
            · have hf := oin c12 hf
              refine r_aload_n 78 C 1 dX2_askVote_77 rfl rfl ?_
              refine r_dup 79 C dX2_askVote_78 rfl rfl ?_
              refine r_geti 82 C (k := 4) (st_0 ho) rfl hinX2 (by decide) rfl dX2_askVote_79 rfl (by decide +kernel) ?_
              refine r_iconst (v := 1) 83 C dX2_askVote_82 rfl (by decide) ?_
              refine r_iadd 84 C dX2_askVote_83 rfl ?_
              obtain ⟨g30, hg30, hf⟩ := ol hf
              refine r_puti 87 C (k := 4) (ty := .int) tyX2 tyX2_ok nmX2 (st_0 ho) rfl hinX2 (by decide) rfl rfl (by decide +kernel) rfl rfl hg30 dX2_askVote_84 rfl (by decide +kernel) ?_
              refine r_aload_n 88 C 1 dX2_askVote_87 rfl rfl ?_
              refine r_iload_n 89 C 2 dX2_askVote_88 rfl rfl ?_
              refine r_iload_n 90 C 4 dX2_askVote_89 rfl rfl ?_
              obtain ⟨x31, g32, hx31, hf⟩ := ob2 hf
              refine r_Vi (As := [.int a1, .int a3]) 93 C (st_0 ho) rfl (c_X2_refuse l G A o a1 a3 ho g30 _ hx31) (cwV 2 C.1.2.2.2.2 gX2_askVote_X2_refuse rfl rfl rfl hd_X2_refuse ⟨Nat.le_of_ble_eq_true rfl, Nat.le_of_ble_eq_true rfl⟩) rfl rfl (Nat.le_of_ble_eq_true rfl) dX2_askVote_90 rfl ?_
              have hf := Option.some.inj hf
              subst hf
              exact r_iret C hr hk0 dX2_askVote_93
          · have hf := oip c9 hf
            refine r_bipush (v := (-5)) 61 C dX2_askVote_59 rfl (by decide) ?_
            have hf := Option.some.inj hf
            subst hf
            exact r_iret C hr hk0 dX2_askVote_61
        · have hf := obf c5 hf
          refine r_bipush (v := (-4)) 35 C dX2_askVote_33 rfl (by decide) ?_
          have hf := Option.some.inj hf
          subst hf
          exact r_iret C hr hk0 dX2_askVote_35
      · have hf := obf c3 hf
        refine r_iconst (v := (-1)) 22 C dX2_askVote_21 rfl (by decide) ?_
        have hf := Option.some.inj hf
        subst hf
        exact r_iret C hr hk0 dX2_askVote_22
theorem in_X2_boundValue_X2 : ∀ w ∈ wsX20, w ∈ wsX2_boundValue := by decide +kernel
def rm_X2_boundValue : Room := { frames := 1, cells := 0, slots := 0, locals := 23 }
theorem hd_X2_boundValue : yX2_boundValue.cls = RX2 ∧ yX2_boundValue.cls ≠ "java/lang/invoke/MethodHandle" ∧ yX2_boundValue.cls ≠ "java/lang/invoke/VarHandle" ∧ (parseMethodDescriptor yX2_boundValue.desc).map (fun d => d.parameters.length) = some 2 := by decide +kernel
set_option maxRecDepth 100000 in
set_option maxHeartbeats 4000000 in
theorem t_X2_boundValue_L22 {p : Program} {l : Launch} {e : Env} {s : State} {m : MethodId} {args : Array Value} {below : List Frame} {meth : Method} {c : Code} {G : GG} {A : Nat → Prop} (C : KX p s m args c cX2_boundValue 8 RX2 wsX2_boundValue G shC A) (hr : meth.sig.returnType = (some .int)) (hk0 : meth.locks = false) (o : Nat) (a1 : Int32) (a2 : Int32) (ho : IsSt o) (v1 : Int32) (v2 : Int32) (v3 : Int32) (g : Mem) {res : Int32} {k : Int32 → Option Int32} (hk : ∀ (v5 : Int32), k v5 = some res → JJ p l e rm_X2_boundValue s m args below meth c 8 G shC A (MQ below (k_Qi G shC A res g) args s 0 0 A) 87 [(5, .int v5)] [] g) : ∀ (n : Nat) (v4 : Int32) (v5 : Int32) (v6 : Int32), f_X2_boundValue_L22 k o v1 v2 v3 g n v4 v5 v6 = some res → JJ p l e rm_X2_boundValue s m args below meth c 8 G shC A (MQ below (k_Qi G shC A res g) args s 0 0 A) 22 [(0, .ref (G.2.1 o)), (1, .int v1), (2, .int v2), (3, .int v3), (4, .int v4), (5, .int v5), (6, .int v6)] [] g := by
  have hinX2 : ∀ w ∈ wsX20, w ∈ wsX2_boundValue := in_X2_boundValue_X2
  intro n
  induction n with
  | zero =>
    intro v4 v5 v6 hf
    rw [f_X2_boundValue_L22] at hf
    cases hf
  | succ n ih =>
    intro v4 v5 v6 hf
    rw [f_X2_boundValue_L22] at hf
    refine r_iload 24 C 6 dX2_boundValue_22 rfl rfl ?_
    refine r_bipush (v := 6) 26 C dX2_boundValue_24 rfl (by decide) ?_
    refine r_icmp_ge 87 29 C dX2_boundValue_26 rfl rfl (fun c4 => ?_) (fun c4 => ?_)
    · have hf := oip c4 hf
      refine r_sub [(5, .int v5)] [5] rfl ?_
      exact hk _ hf
    · have hf := oin c4 hf
      refine r_iload_n 30 C 1 dX2_boundValue_29 rfl rfl ?_
      refine r_bipush (v := 6) 32 C dX2_boundValue_30 rfl (by decide) ?_
      refine r_imul 33 C dX2_boundValue_32 rfl ?_
      refine r_iload 35 C 6 dX2_boundValue_33 rfl rfl ?_
      refine r_iadd 36 C dX2_boundValue_35 rfl ?_
      refine r_iload_n 37 C 2 dX2_boundValue_36 rfl rfl ?_
      refine r_SNi (As := [.int ((v1 * 6) + v6), .int v2]) 40 C (c_X4_cell l G A ((v1 * 6) + v6) v2 g _ rfl) (k_cwSN C (by decide +kernel) gX2_boundValue_X4_cell_n104 rfl ⟨rfl, rfl⟩ (by decide +kernel) (by decide +kernel) hd_X4_cell ⟨Nat.le_of_ble_eq_true rfl, Nat.le_of_ble_eq_true rfl⟩) rfl rfl (Nat.le_of_ble_eq_true rfl) dX2_boundValue_37 rfl ?_
      obtain ⟨x5, hx5, hf⟩ := ol hf
      refine r_istore 42 C [(7, .int x5), (0, .ref (G.2.1 o)), (1, .int v1), (2, .int v2), (3, .int v3), (4, .int v4), (5, .int v5), (6, .int v6)] dX2_boundValue_40 rfl hx5 (by decide) rfl ?_
      refine r_iload_n 43 C 4 dX2_boundValue_42 rfl rfl ?_
      refine r_iload 45 C 7 dX2_boundValue_43 rfl rfl ?_
      refine r_SNi (As := [.int v3, .int v6]) 48 C (c_X4_has l G A v3 v6 g _ rfl) (k_cwSN C (by decide +kernel) gX2_boundValue_X4_has_n81 rfl ⟨rfl, rfl⟩ (by decide +kernel) (by decide +kernel) hd_X4_has ⟨Nat.le_of_ble_eq_true rfl, Nat.le_of_ble_eq_true rfl⟩) rfl rfl (Nat.le_of_ble_eq_true rfl) dX2_boundValue_45 rfl ?_
      refine r_if_eq 81 51 C dX2_boundValue_48 rfl rfl (fun c6 => ?_) (fun c6 => ?_)
      · have hf := obf c6 hf
        obtain ⟨x7, hx7, hf⟩ := ol hf
        refine r_iinc 84 C 7 x7 [(6, .int x7), (7, .int x5), (0, .ref (G.2.1 o)), (1, .int v1), (2, .int v2), (3, .int v3), (4, .int v4), (5, .int v5)] dX2_boundValue_81 rfl rfl hx7.symm (by decide) rfl ?_
        refine r_goto 22 C dX2_boundValue_84 rfl ?_
        refine r_sub [(0, .ref (G.2.1 o)), (1, .int v1), (2, .int v2), (3, .int v3), (4, .int v4), (5, .int v5), (6, .int x7)] [2, 3, 4, 5, 6, 7, 0] rfl ?_
        exact ih _ _ _ hf
      · have hf := obt c6 hf
        refine r_aload_n 52 C 1 dX2_boundValue_51 rfl rfl ?_
        refine r_getr 55 C (k := 12) (st_0 ho) rfl hinX2 (by decide) rfl dX2_boundValue_52 rfl (by decide +kernel) ?_
        refine r_iload 57 C 0 dX2_boundValue_55 rfl rfl ?_
        obtain ⟨x8, hx8, hf⟩ := ob hf
        refine r_iaload 58 C (st_8 ho) dX2_boundValue_57 rfl hx8 ?_
        refine r_iload 60 C 5 dX2_boundValue_58 rfl rfl ?_
        refine r_icmp_le 81 63 C dX2_boundValue_60 rfl rfl (fun c9 => ?_) (fun c9 => ?_)
        · have hf := oip c9 hf
          obtain ⟨x10, hx10, hf⟩ := ol hf
          refine r_iinc 84 C 7 x10 [(6, .int x10), (7, .int x5), (0, .ref (G.2.1 o)), (1, .int v1), (2, .int v2), (3, .int v3), (4, .int v4), (5, .int v5)] dX2_boundValue_81 rfl rfl hx10.symm (by decide) rfl ?_
          refine r_goto 22 C dX2_boundValue_84 rfl ?_
          refine r_sub [(0, .ref (G.2.1 o)), (1, .int v1), (2, .int v2), (3, .int v3), (4, .int v4), (5, .int v5), (6, .int x10)] [2, 3, 4, 5, 6, 7, 0] rfl ?_
          exact ih _ _ _ hf
        · have hf := oin c9 hf
          refine r_aload_n 64 C 1 dX2_boundValue_63 rfl rfl ?_
          refine r_getr 67 C (k := 12) (st_0 ho) rfl hinX2 (by decide) rfl dX2_boundValue_64 rfl (by decide +kernel) ?_
          refine r_iload 69 C 0 dX2_boundValue_67 rfl rfl ?_
          obtain ⟨x11, hx11, hf⟩ := ob hf
          refine r_iaload 70 C (st_8 ho) dX2_boundValue_69 rfl hx11 ?_
          refine r_istore 72 C [(4, .int x11), (7, .int x5), (0, .ref (G.2.1 o)), (1, .int v1), (2, .int v2), (3, .int v3), (5, .int v5), (6, .int v6)] dX2_boundValue_70 rfl rfl (by decide) rfl ?_
          refine r_aload_n 73 C 2 dX2_boundValue_72 rfl rfl ?_
          refine r_getr 76 C (k := 13) (st_0 ho) rfl hinX2 (by decide) rfl dX2_boundValue_73 rfl (by decide +kernel) ?_
          refine r_iload 78 C 1 dX2_boundValue_76 rfl rfl ?_
          obtain ⟨x12, hx12, hf⟩ := ob hf
          refine r_iaload 79 C (st_9 ho) dX2_boundValue_78 rfl hx12 ?_
          refine r_istore 81 C [(5, .int x12), (4, .int x11), (7, .int x5), (0, .ref (G.2.1 o)), (1, .int v1), (2, .int v2), (3, .int v3), (6, .int v6)] dX2_boundValue_79 rfl rfl (by decide) rfl ?_
          obtain ⟨x13, hx13, hf⟩ := ol hf
          refine r_iinc 84 C 7 x13 [(6, .int x13), (5, .int x12), (4, .int x11), (7, .int x5), (0, .ref (G.2.1 o)), (1, .int v1), (2, .int v2), (3, .int v3)] dX2_boundValue_81 rfl rfl hx13.symm (by decide) rfl ?_
          refine r_goto 22 C dX2_boundValue_84 rfl ?_
          refine r_sub [(0, .ref (G.2.1 o)), (1, .int v1), (2, .int v2), (3, .int v3), (4, .int x11), (5, .int x12), (6, .int x13)] [4, 5, 6, 7, 2, 1, 0] rfl ?_
          exact ih _ _ _ hf
set_option maxRecDepth 100000 in
set_option maxHeartbeats 4000000 in
theorem c_X2_boundValue (l : Launch) (G : GG) (A : Nat → Prop) (o : Nat) (a1 : Int32) (a2 : Int32) (ho : IsSt o) (g : Mem) (res : Int32) (hf : f_X2_boundValue o a1 a2 g = some res) : k_Mi l yX2_boundValue wsX2_boundValue rm_X2_boundValue G shC A [.ref (G.2.1 o), .int a1, .int a2] g res g := by
  have hinX2 : ∀ w ∈ wsX20, w ∈ wsX2_boundValue := in_X2_boundValue_X2
  refine k_ofi (cc := cX2_boundValue) (nL := 8) (own := RX2) (by decide +kernel) rfl rfl (by simp [lg_sl, Value.category]) ⟨rfl, rfl⟩ [(0, .ref (G.2.1 o)), (1, .int a1), (2, .int a2)] rfl ?_
  intro p e s m args below meth c C hr hk0
  rw [f_X2_boundValue] at hf
  refine r_aload_n 1 C 0 dX2_boundValue_0 rfl rfl ?_
  refine r_getr 4 C (k := 10) (st_0 ho) rfl hinX2 (by decide) rfl dX2_boundValue_1 rfl (by decide +kernel) ?_
  refine r_iload_n 5 C 1 dX2_boundValue_4 rfl rfl ?_
  obtain ⟨x1, hx1, hf⟩ := ob hf
  refine r_iaload 6 C (st_6 ho) dX2_boundValue_5 rfl hx1 ?_
  refine r_aload_n 7 C 0 dX2_boundValue_6 rfl rfl ?_
  refine r_iload_n 8 C 2 dX2_boundValue_7 rfl rfl ?_
  obtain ⟨x2, hx2, hf⟩ := ob hf
  refine r_Vi (As := [.int a2]) 11 C (st_0 ho) rfl (c_X2_votersOf l G A o a2 ho g _ hx2) (cwV 1 C.1.2.2.2.2 gX2_boundValue_X2_votersOf rfl rfl rfl hd_X2_votersOf ⟨Nat.le_of_ble_eq_true rfl, Nat.le_of_ble_eq_true rfl⟩) rfl rfl (Nat.le_of_ble_eq_true rfl) dX2_boundValue_8 rfl ?_
  refine r_iand 12 C dX2_boundValue_11 rfl ?_
  obtain ⟨x3, hx3, hf⟩ := ol hf
  refine r_istore_n 13 C [(3, .int x3), (0, .ref (G.2.1 o)), (1, .int a1), (2, .int a2)] dX2_boundValue_12 rfl hx3 (by decide) rfl ?_
  refine r_iconst (v := 0) 14 C dX2_boundValue_13 rfl (by decide) ?_
  refine r_istore 16 C [(4, .int 0), (3, .int x3), (0, .ref (G.2.1 o)), (1, .int a1), (2, .int a2)] dX2_boundValue_14 rfl rfl (by decide) rfl ?_
  refine r_iconst (v := 0) 17 C dX2_boundValue_16 rfl (by decide) ?_
  refine r_istore 19 C [(5, .int 0), (4, .int 0), (3, .int x3), (0, .ref (G.2.1 o)), (1, .int a1), (2, .int a2)] dX2_boundValue_17 rfl rfl (by decide) rfl ?_
  refine r_iconst (v := 0) 20 C dX2_boundValue_19 rfl (by decide) ?_
  refine r_istore 22 C [(6, .int 0), (5, .int 0), (4, .int 0), (3, .int x3), (0, .ref (G.2.1 o)), (1, .int a1), (2, .int a2)] dX2_boundValue_20 rfl rfl (by decide) rfl ?_
  refine r_sub [(0, .ref (G.2.1 o)), (1, .int a1), (2, .int a2), (3, .int x3), (4, .int 0), (5, .int 0), (6, .int 0)] [4, 5, 6, 3, 2, 1, 0] rfl ?_
  refine t_X2_boundValue_L22 C hr hk0 o a1 a2 ho a1 a2 x3 g (fun x14 hf => ?_) fuel0 _ _ _ hf
  refine r_iload 89 C 0 dX2_boundValue_87 rfl rfl ?_
  have hf := Option.some.inj hf
  subst hf
  exact r_iret C hr hk0 dX2_boundValue_89
theorem in_X2_prefix_X2 : ∀ w ∈ wsX20, w ∈ wsX2_prefix := by decide +kernel
def rm_X2_prefix : Room := { frames := 0, cells := 0, slots := 0, locals := 0 }
theorem hd_X2_prefix : yX2_prefix.cls = RX2 ∧ yX2_prefix.cls ≠ "java/lang/invoke/MethodHandle" ∧ yX2_prefix.cls ≠ "java/lang/invoke/VarHandle" ∧ (parseMethodDescriptor yX2_prefix.desc).map (fun d => d.parameters.length) = some 0 := by decide +kernel
set_option maxRecDepth 100000 in
set_option maxHeartbeats 4000000 in
theorem t_X2_prefix_L2 {p : Program} {l : Launch} {e : Env} {s : State} {m : MethodId} {args : Array Value} {below : List Frame} {meth : Method} {c : Code} {G : GG} {A : Nat → Prop} (C : KX p s m args c cX2_prefix 2 RX2 wsX2_prefix G shC A) (hr : meth.sig.returnType = (some .int)) (hk0 : meth.locks = false) (o : Nat) (ho : IsSt o) (g : Mem) {res : Int32} {k : Int32 → Option Int32} (hk : ∀ (v1 : Int32), k v1 = some res → JJ p l e rm_X2_prefix s m args below meth c 2 G shC A (MQ below (k_Qi G shC A res g) args s 0 0 A) 25 [(1, .int v1)] [] g) : ∀ (n : Nat) (v1 : Int32), f_X2_prefix_L2 k o g n v1 = some res → JJ p l e rm_X2_prefix s m args below meth c 2 G shC A (MQ below (k_Qi G shC A res g) args s 0 0 A) 2 [(0, .ref (G.2.1 o)), (1, .int v1)] [] g := by
  have hinX2 : ∀ w ∈ wsX20, w ∈ wsX2_prefix := in_X2_prefix_X2
  intro n
  induction n with
  | zero =>
    intro v1 hf
    rw [f_X2_prefix_L2] at hf
    cases hf
  | succ n ih =>
    intro v1 hf
    rw [f_X2_prefix_L2] at hf
    refine r_iload_n 3 C 1 dX2_prefix_2 rfl rfl ?_
    refine r_bipush (v := 16) 5 C dX2_prefix_3 rfl (by decide) ?_
    refine r_icmp_ge 25 8 C dX2_prefix_5 rfl rfl (fun c1 => ?_) (fun c1 => ?_)
    · have hf := oip c1 hf
      refine r_sub [(1, .int v1)] [1] rfl ?_
      exact hk _ hf
    · have hf := oin c1 hf
      refine r_aload_n 9 C 0 dX2_prefix_8 rfl rfl ?_
      refine r_getr 12 C (k := 14) (st_0 ho) rfl hinX2 (by decide) rfl dX2_prefix_9 rfl (by decide +kernel) ?_
      refine r_iload_n 13 C 1 dX2_prefix_12 rfl rfl ?_
      refine r_iconst (v := 1) 14 C dX2_prefix_13 rfl (by decide) ?_
      refine r_iadd 15 C dX2_prefix_14 rfl ?_
      obtain ⟨x2, hx2, hf⟩ := ob hf
      refine r_iaload 16 C (st_10 ho) dX2_prefix_15 rfl hx2 ?_
      refine r_if_eq 25 19 C dX2_prefix_16 rfl rfl (fun c3 => ?_) (fun c3 => ?_)
      · have hf := oip c3 hf
        refine r_sub [(1, .int v1)] [1] rfl ?_
        exact hk _ hf
      · have hf := oin c3 hf
        obtain ⟨x4, hx4, hf⟩ := ol hf
        refine r_iinc 22 C 1 x4 [(1, .int x4), (0, .ref (G.2.1 o))] dX2_prefix_19 rfl rfl hx4.symm (by decide) rfl ?_
        refine r_goto 2 C dX2_prefix_22 rfl ?_
        refine r_sub [(0, .ref (G.2.1 o)), (1, .int x4)] [1, 0] rfl ?_
        exact ih _ hf
set_option maxRecDepth 100000 in
set_option maxHeartbeats 4000000 in
theorem c_X2_prefix (l : Launch) (G : GG) (A : Nat → Prop) (o : Nat) (ho : IsSt o) (g : Mem) (res : Int32) (hf : f_X2_prefix o g = some res) : k_Mi l yX2_prefix wsX2_prefix rm_X2_prefix G shC A [.ref (G.2.1 o)] g res g := by
  have hinX2 : ∀ w ∈ wsX20, w ∈ wsX2_prefix := in_X2_prefix_X2
  refine k_ofi (cc := cX2_prefix) (nL := 2) (own := RX2) (by decide +kernel) rfl rfl (by simp [lg_sl, Value.category]) ⟨rfl, rfl⟩ [(0, .ref (G.2.1 o))] rfl ?_
  intro p e s m args below meth c C hr hk0
  rw [f_X2_prefix] at hf
  refine r_iconst (v := 0) 1 C dX2_prefix_0 rfl (by decide) ?_
  refine r_istore_n 2 C [(1, .int 0), (0, .ref (G.2.1 o))] dX2_prefix_1 rfl rfl (by decide) rfl ?_
  refine r_sub [(0, .ref (G.2.1 o)), (1, .int 0)] [1, 0] rfl ?_
  refine t_X2_prefix_L2 C hr hk0 o ho g (fun x5 hf => ?_) fuel0 _ hf
  refine r_iload_n 26 C 0 dX2_prefix_25 rfl rfl ?_
  have hf := Option.some.inj hf
  subst hf
  exact r_iret C hr hk0 dX2_prefix_26
def rm_X2_isOpen : Room := { frames := 1, cells := 0, slots := 0, locals := 21 }
theorem hd_X2_isOpen : yX2_isOpen.cls = RX2 ∧ yX2_isOpen.cls ≠ "java/lang/invoke/MethodHandle" ∧ yX2_isOpen.cls ≠ "java/lang/invoke/VarHandle" ∧ (parseMethodDescriptor yX2_isOpen.desc).map (fun d => d.parameters.length) = some 1 := by decide +kernel
set_option maxRecDepth 100000 in
set_option maxHeartbeats 4000000 in
theorem c_X2_isOpen (l : Launch) (G : GG) (A : Nat → Prop) (o : Nat) (a1 : Int32) (ho : IsSt o) (g : Mem) (res : Bool) (hf : f_X2_isOpen o a1 g = some res) : k_Mi l yX2_isOpen wsX2_isOpen rm_X2_isOpen G shC A [.ref (G.2.1 o), .int a1] g (bI res) g := by
  refine k_ofi (cc := cX2_isOpen) (nL := 2) (own := RX2) (by decide +kernel) rfl rfl (by simp [lg_sl, Value.category]) ⟨rfl, rfl⟩ [(0, .ref (G.2.1 o)), (1, .int a1)] rfl ?_
  intro p e s m args below meth c C hr hk0
  rw [f_X2_isOpen] at hf
  refine r_iload_n 1 C 1 dX2_isOpen_0 rfl rfl ?_
  refine r_iconst (v := 3) 2 C dX2_isOpen_1 rfl (by decide) ?_
  refine r_isub 3 C dX2_isOpen_2 rfl ?_
  refine r_aload_n 4 C 0 dX2_isOpen_3 rfl rfl ?_
  obtain ⟨x1, hx1, hf⟩ := ob hf
  refine r_Vi (As := []) 7 C (st_0 ho) rfl (c_X2_prefix l G A o ho g _ hx1) (cwV 0 C.1.2.2.2.2 gX2_isOpen_X2_prefix rfl rfl rfl hd_X2_prefix ⟨Nat.le_of_ble_eq_true rfl, Nat.le_of_ble_eq_true rfl⟩) rfl rfl (Nat.le_of_ble_eq_true rfl) dX2_isOpen_4 rfl ?_
  refine r_icmp_gt 14 10 C dX2_isOpen_7 rfl rfl (fun c2 => ?_) (fun c2 => ?_)
  · have hf := oip c2 hf
    refine r_iconst (v := 0) 15 C dX2_isOpen_14 rfl (by decide) ?_
    have hf := Option.some.inj hf
    subst hf
    exact r_zret C hr hk0 false rfl dX2_isOpen_15
  · have hf := oin c2 hf
    refine r_iconst (v := 1) 11 C dX2_isOpen_10 rfl (by decide) ?_
    refine r_goto 15 C dX2_isOpen_11 rfl ?_
    have hf := Option.some.inj hf
    subst hf
    exact r_zret C hr hk0 true rfl dX2_isOpen_15
def rm_X2_firstSize : Room := { frames := 2, cells := 0, slots := 0, locals := 42 }
theorem hd_X2_firstSize : yX2_firstSize.cls = RX2 ∧ yX2_firstSize.cls ≠ "java/lang/invoke/MethodHandle" ∧ yX2_firstSize.cls ≠ "java/lang/invoke/VarHandle" ∧ (parseMethodDescriptor yX2_firstSize.desc).map (fun d => d.parameters.length) = some 1 := by decide +kernel
set_option maxRecDepth 100000 in
set_option maxHeartbeats 4000000 in
theorem c_X2_firstSize (l : Launch) (G : GG) (A : Nat → Prop) (o : Nat) (a1 : Int32) (ho : IsSt o) (g : Mem) (res : Int32) (hf : f_X2_firstSize o a1 g = res) : k_Mi l yX2_firstSize wsX2_firstSize rm_X2_firstSize G shC A [.ref (G.2.1 o), .int a1] g res g := by
  refine k_ofi (cc := cX2_firstSize) (nL := 2) (own := RX2) (by decide +kernel) rfl rfl (by simp [lg_sl, Value.category]) ⟨rfl, rfl⟩ [(0, .ref (G.2.1 o)), (1, .int a1)] rfl ?_
  intro p e s m args below meth c C hr hk0
  rw [f_X2_firstSize] at hf
  refine r_iload_n 1 C 1 dX2_firstSize_0 rfl rfl ?_
  refine r_Si (As := [.int a1]) 4 C (c_J6_bitCount_0f7a4 l G A a1 g _ rfl) (va_cwS 1 C.1.2.2.2.2 gX2_firstSize_J6_bitCount_0f7a4 rfl rfl rfl hd_J6_bitCount_0f7a4 ⟨Nat.le_of_ble_eq_true rfl, Nat.le_of_ble_eq_true rfl⟩) rfl rfl (Nat.le_of_ble_eq_true rfl) dX2_firstSize_1 rfl ?_
  refine r_iconst (v := 1) 5 C dX2_firstSize_4 rfl (by decide) ?_
  refine r_iadd 6 C dX2_firstSize_5 rfl ?_
  refine r_aload_n 7 C 0 dX2_firstSize_6 rfl rfl ?_
  refine r_iload_n 8 C 1 dX2_firstSize_7 rfl rfl ?_
  refine r_Vi (As := [.int a1]) 11 C (st_0 ho) rfl (c_X2_secondSize l G A o a1 ho g _ rfl) (cwV 1 C.1.2.2.2.2 gX2_firstSize_X2_secondSize rfl rfl rfl hd_X2_secondSize ⟨Nat.le_of_ble_eq_true rfl, Nat.le_of_ble_eq_true rfl⟩) rfl rfl (Nat.le_of_ble_eq_true rfl) dX2_firstSize_8 rfl ?_
  refine r_isub 12 C dX2_firstSize_11 rfl ?_
  subst hf
  exact r_iret C hr hk0 dX2_firstSize_12
theorem in_X2_promisesMissing_X2 : ∀ w ∈ wsX20, w ∈ wsX2_promisesMissing := by decide +kernel
def rm_X2_promisesMissing : Room := { frames := 3, cells := 0, slots := 0, locals := 63 }
theorem hd_X2_promisesMissing : yX2_promisesMissing.cls = RX2 ∧ yX2_promisesMissing.cls ≠ "java/lang/invoke/MethodHandle" ∧ yX2_promisesMissing.cls ≠ "java/lang/invoke/VarHandle" ∧ (parseMethodDescriptor yX2_promisesMissing.desc).map (fun d => d.parameters.length) = some 2 := by decide +kernel
set_option maxRecDepth 100000 in
set_option maxHeartbeats 4000000 in
theorem c_X2_promisesMissing (l : Launch) (G : GG) (A : Nat → Prop) (o : Nat) (a1 : Int32) (a2 : Int32) (ho : IsSt o) (g : Mem) (res : Int32) (hf : f_X2_promisesMissing o a1 a2 g = some res) : k_Mi l yX2_promisesMissing wsX2_promisesMissing rm_X2_promisesMissing G shC A [.ref (G.2.1 o), .int a1, .int a2] g res g := by
  have hinX2 : ∀ w ∈ wsX20, w ∈ wsX2_promisesMissing := in_X2_promisesMissing_X2
  refine k_ofi (cc := cX2_promisesMissing) (nL := 4) (own := RX2) (by decide +kernel) rfl rfl (by simp [lg_sl, Value.category]) ⟨rfl, rfl⟩ [(0, .ref (G.2.1 o)), (1, .int a1), (2, .int a2)] rfl ?_
  intro p e s m args below meth c C hr hk0
  rw [f_X2_promisesMissing] at hf
  refine r_aload_n 1 C 0 dX2_promisesMissing_0 rfl rfl ?_
  refine r_iload_n 2 C 2 dX2_promisesMissing_1 rfl rfl ?_
  obtain ⟨x1, hx1, hf⟩ := ob hf
  refine r_Vi (As := [.int a2]) 5 C (st_0 ho) rfl (c_X2_votersOf l G A o a2 ho g _ hx1) (cwV 1 C.1.2.2.2.2 gX2_promisesMissing_X2_votersOf rfl rfl rfl hd_X2_votersOf ⟨Nat.le_of_ble_eq_true rfl, Nat.le_of_ble_eq_true rfl⟩) rfl rfl (Nat.le_of_ble_eq_true rfl) dX2_promisesMissing_2 rfl ?_
  refine r_istore_n 6 C [(3, .int x1), (0, .ref (G.2.1 o)), (1, .int a1), (2, .int a2)] dX2_promisesMissing_5 rfl rfl (by decide) rfl ?_
  refine r_iconst (v := 0) 7 C dX2_promisesMissing_6 rfl (by decide) ?_
  refine r_aload_n 8 C 1 dX2_promisesMissing_7 rfl rfl ?_
  refine r_iload_n 9 C 0 dX2_promisesMissing_8 rfl rfl ?_
  refine r_Vi (As := [.int x1]) 12 C (st_0 ho) rfl (c_X2_firstSize l G A o x1 ho g _ rfl) (cwV 1 C.1.2.2.2.2 gX2_promisesMissing_X2_firstSize rfl rfl rfl hd_X2_firstSize ⟨Nat.le_of_ble_eq_true rfl, Nat.le_of_ble_eq_true rfl⟩) rfl rfl (Nat.le_of_ble_eq_true rfl) dX2_promisesMissing_9 rfl ?_
  refine r_aload_n 13 C 1 dX2_promisesMissing_12 rfl rfl ?_
  refine r_getr 16 C (k := 10) (st_0 ho) rfl hinX2 (by decide) rfl dX2_promisesMissing_13 rfl (by decide +kernel) ?_
  refine r_iload_n 17 C 2 dX2_promisesMissing_16 rfl rfl ?_
  obtain ⟨x2, hx2, hf⟩ := ob hf
  refine r_iaload 18 C (st_6 ho) dX2_promisesMissing_17 rfl hx2 ?_
  refine r_iload_n 19 C 0 dX2_promisesMissing_18 rfl rfl ?_
  refine r_iand 20 C dX2_promisesMissing_19 rfl ?_
  refine r_Si (As := [.int (x2 &&& x1)]) 23 C (c_J6_bitCount_0f7a4 l G A (x2 &&& x1) g _ rfl) (va_cwS 1 C.1.2.2.2.2 gX2_promisesMissing_J6_bitCount_0f7a4 rfl rfl rfl hd_J6_bitCount_0f7a4 ⟨Nat.le_of_ble_eq_true rfl, Nat.le_of_ble_eq_true rfl⟩) rfl rfl (Nat.le_of_ble_eq_true rfl) dX2_promisesMissing_20 rfl ?_
  refine r_isub 24 C dX2_promisesMissing_23 rfl ?_
  refine r_max 27 C (by decide +kernel) (by decide +kernel) (by decide +kernel) (by decide +kernel) (Nat.le_of_ble_eq_true rfl) (Nat.le_of_ble_eq_true rfl) dX2_promisesMissing_24 rfl ?_
  have hf := Option.some.inj hf
  subst hf
  exact r_iret C hr hk0 dX2_promisesMissing_27
theorem in_X2_mayOffer_X2 : ∀ w ∈ wsX20, w ∈ wsX2_mayOffer := by decide +kernel
def rm_X2_mayOffer : Room := { frames := 4, cells := 0, slots := 0, locals := 86 }
theorem hd_X2_mayOffer : yX2_mayOffer.cls = RX2 ∧ yX2_mayOffer.cls ≠ "java/lang/invoke/MethodHandle" ∧ yX2_mayOffer.cls ≠ "java/lang/invoke/VarHandle" ∧ (parseMethodDescriptor yX2_mayOffer.desc).map (fun d => d.parameters.length) = some 2 := by decide +kernel
set_option maxRecDepth 100000 in
set_option maxHeartbeats 4000000 in
theorem c_X2_mayOffer (l : Launch) (G : GG) (A : Nat → Prop) (o : Nat) (a1 : Int32) (a2 : Int32) (ho : IsSt o) (g : Mem) (res : Bool) (hf : f_X2_mayOffer o a1 a2 g = some res) : k_Mi l yX2_mayOffer wsX2_mayOffer rm_X2_mayOffer G shC A [.ref (G.2.1 o), .int a1, .int a2] g (bI res) g := by
  have hinX2 : ∀ w ∈ wsX20, w ∈ wsX2_mayOffer := in_X2_mayOffer_X2
  refine k_ofi (cc := cX2_mayOffer) (nL := 3) (own := RX2) (by decide +kernel) rfl rfl (by simp [lg_sl, Value.category]) ⟨rfl, rfl⟩ [(0, .ref (G.2.1 o)), (1, .int a1), (2, .int a2)] rfl ?_
  intro p e s m args below meth c C hr hk0
  rw [f_X2_mayOffer] at hf
  refine r_aload_n 1 C 0 dX2_mayOffer_0 rfl rfl ?_
  refine r_getr 4 C (k := 8) (st_0 ho) rfl hinX2 (by decide) rfl dX2_mayOffer_1 rfl (by decide +kernel) ?_
  refine r_iload_n 5 C 1 dX2_mayOffer_4 rfl rfl ?_
  obtain ⟨x1, hx1, hf⟩ := ob hf
  refine r_iaload 6 C (st_4 ho) dX2_mayOffer_5 rfl hx1 ?_
  refine r_if_eq 51 9 C dX2_mayOffer_6 rfl rfl (fun c2 => ?_) (fun c2 => ?_)
  · have hf := oip c2 hf
    refine r_iconst (v := 0) 52 C dX2_mayOffer_51 rfl (by decide) ?_
    have hf := Option.some.inj hf
    subst hf
    exact r_zret C hr hk0 false rfl dX2_mayOffer_52
  · have hf := oin c2 hf
    refine r_iload_n 10 C 2 dX2_mayOffer_9 rfl rfl ?_
    refine r_aload_n 11 C 0 dX2_mayOffer_10 rfl rfl ?_
    refine r_geti 14 C (k := 2) (st_0 ho) rfl hinX2 (by decide) rfl dX2_mayOffer_11 rfl (by decide +kernel) ?_
    refine r_icmp_le 51 17 C dX2_mayOffer_14 rfl rfl (fun c3 => ?_) (fun c3 => ?_)
    · have hf := oip c3 hf
      refine r_iconst (v := 0) 52 C dX2_mayOffer_51 rfl (by decide) ?_
      have hf := Option.some.inj hf
      subst hf
      exact r_zret C hr hk0 false rfl dX2_mayOffer_52
    · have hf := oin c3 hf
      refine r_aload_n 18 C 0 dX2_mayOffer_17 rfl rfl ?_
      refine r_iload_n 19 C 2 dX2_mayOffer_18 rfl rfl ?_
      obtain ⟨x4, hx4, hf⟩ := ob hf
      refine r_Vi (As := [.int a2]) 22 C (st_0 ho) rfl (c_X2_isOpen l G A o a2 ho g _ hx4) (cwV 1 C.1.2.2.2.2 gX2_mayOffer_X2_isOpen rfl rfl rfl hd_X2_isOpen ⟨Nat.le_of_ble_eq_true rfl, Nat.le_of_ble_eq_true rfl⟩) rfl rfl (Nat.le_of_ble_eq_true rfl) dX2_mayOffer_19 rfl ?_
      refine r_if_eq 51 25 C dX2_mayOffer_22 rfl rfl (fun c5 => ?_) (fun c5 => ?_)
      · have hf := obf c5 hf
        refine r_iconst (v := 0) 52 C dX2_mayOffer_51 rfl (by decide) ?_
        have hf := Option.some.inj hf
        subst hf
        exact r_zret C hr hk0 false rfl dX2_mayOffer_52
      · have hf := obt c5 hf
        refine r_aload_n 26 C 0 dX2_mayOffer_25 rfl rfl ?_
        refine r_iload_n 27 C 1 dX2_mayOffer_26 rfl rfl ?_
        refine r_iload_n 28 C 2 dX2_mayOffer_27 rfl rfl ?_
        obtain ⟨x6, hx6, hf⟩ := ob hf
        refine r_Vi (As := [.int a1, .int a2]) 31 C (st_0 ho) rfl (c_X2_promisesMissing l G A o a1 a2 ho g _ hx6) (cwV 2 C.1.2.2.2.2 gX2_mayOffer_X2_promisesMissing rfl rfl rfl hd_X2_promisesMissing ⟨Nat.le_of_ble_eq_true rfl, Nat.le_of_ble_eq_true rfl⟩) rfl rfl (Nat.le_of_ble_eq_true rfl) dX2_mayOffer_28 rfl ?_
        refine r_if_ne 51 34 C dX2_mayOffer_31 rfl rfl (fun c7 => ?_) (fun c7 => ?_)
        · have hf := oin c7 hf
          refine r_iconst (v := 0) 52 C dX2_mayOffer_51 rfl (by decide) ?_
          have hf := Option.some.inj hf
          subst hf
          exact r_zret C hr hk0 false rfl dX2_mayOffer_52
        · have hf := oip c7 hf
          refine r_aload_n 35 C 0 dX2_mayOffer_34 rfl rfl ?_
          refine r_getr 38 C (k := 11) (st_0 ho) rfl hinX2 (by decide) rfl dX2_mayOffer_35 rfl (by decide +kernel) ?_
          refine r_iload_n 39 C 1 dX2_mayOffer_38 rfl rfl ?_
          refine r_iload_n 40 C 2 dX2_mayOffer_39 rfl rfl ?_
          refine r_SNi (As := [.int a1, .int a2]) 43 C (c_X4_cell l G A a1 a2 g _ rfl) (k_cwSN C (by decide +kernel) gX2_mayOffer_X4_cell_n104 rfl ⟨rfl, rfl⟩ (by decide +kernel) (by decide +kernel) hd_X4_cell ⟨Nat.le_of_ble_eq_true rfl, Nat.le_of_ble_eq_true rfl⟩) rfl rfl (Nat.le_of_ble_eq_true rfl) dX2_mayOffer_40 rfl ?_
          obtain ⟨x8, hx8, hf⟩ := ob hf
          refine r_iaload 44 C (st_7 ho) dX2_mayOffer_43 rfl hx8 ?_
          refine r_if_ne 51 47 C dX2_mayOffer_44 rfl rfl (fun c9 => ?_) (fun c9 => ?_)
          · have hf := oin c9 hf
            refine r_iconst (v := 0) 52 C dX2_mayOffer_51 rfl (by decide) ?_
            have hf := Option.some.inj hf
            subst hf
            exact r_zret C hr hk0 false rfl dX2_mayOffer_52
          · have hf := oip c9 hf
            refine r_iconst (v := 1) 48 C dX2_mayOffer_47 rfl (by decide) ?_
            refine r_goto 52 C dX2_mayOffer_48 rfl ?_
            have hf := Option.some.inj hf
            subst hf
            exact r_zret C hr hk0 true rfl dX2_mayOffer_52
def rm_X4_isValue : Room := { frames := 0, cells := 0, slots := 0, locals := 0 }
theorem hd_X4_isValue : yX4_isValue.cls ≠ "java/lang/invoke/MethodHandle" ∧ yX4_isValue.cls ≠ "java/lang/invoke/VarHandle" ∧ (parseMethodDescriptor yX4_isValue.desc).map (fun d => d.parameters.length) = some 1 := by decide +kernel
set_option maxRecDepth 100000 in
set_option maxHeartbeats 4000000 in
theorem t_X4_isValue_J16 {p : Program} {l : Launch} {e : Env} {s : State} {m : MethodId} {args : Array Value} {below : List Frame} {meth : Method} {c : Code} {G : GG} {A : Nat → Prop} (C : KX p s m args c cX4_isValue 3 RX4 wsX4_isValue G shC A) (hr : meth.sig.returnType = (some .boolean)) (hk0 : meth.locks = false) (a1 : Int32)  (v0 : Int32) (s0 : Int32) (g : Mem) {res : Bool} (hf : f_X4_isValue_J16 v0 s0 = res) : JJ p l e rm_X4_isValue s m args below meth c 3 G shC A (MQ below (k_Qi G shC A (bI res) g) args s 0 0 A) 16 [(0, .int v0)] [.int s0] g := by
  rw [f_X4_isValue_J16] at hf
  refine r_istore_n 17 C [(1, .int s0), (0, .int v0)] dX4_isValue_16 rfl rfl (by decide) rfl ?_
  refine r_iload_n 18 C 1 dX4_isValue_17 rfl rfl ?_
  refine r_bipush (v := 100) 20 C dX4_isValue_18 rfl (by decide) ?_
  refine r_icmp_le 34 23 C dX4_isValue_20 rfl rfl (fun c2 => ?_) (fun c2 => ?_)
  · have hf := oip c2 hf
    refine r_iconst (v := 0) 35 C dX4_isValue_34 rfl (by decide) ?_
    refine r_istore_n 36 C [(2, .int 0), (1, .int s0), (0, .int v0)] dX4_isValue_35 rfl rfl (by decide) rfl ?_
    refine r_iload_n 37 C 1 dX4_isValue_36 rfl rfl ?_
    refine r_if_ne 44 40 C dX4_isValue_37 rfl rfl (fun c3 => ?_) (fun c3 => ?_)
    · have hf := oin c3 hf
      refine r_iconst (v := 1) 45 C dX4_isValue_44 rfl (by decide) ?_
      refine r_goto 49 C dX4_isValue_45 rfl ?_
      subst hf
      exact r_zret C hr hk0 true rfl dX4_isValue_49
    · have hf := oip c3 hf
      refine r_iload_n 41 C 0 dX4_isValue_40 rfl rfl ?_
      refine r_if_eq 48 44 C dX4_isValue_41 rfl rfl (fun _ => ?_) (fun c => by first | exact absurd c (by decide) | exact absurd (by decide) c)
      refine r_iconst (v := 0) 49 C dX4_isValue_48 rfl (by decide) ?_
      subst hf
      exact r_zret C hr hk0 false rfl dX4_isValue_49
  · have hf := oin c2 hf
    refine r_iload_n 24 C 1 dX4_isValue_23 rfl rfl ?_
    refine r_sipush (v := 163) 27 C dX4_isValue_24 rfl (by decide) ?_
    refine r_icmp_gt 34 30 C dX4_isValue_27 rfl rfl (fun c5 => ?_) (fun c5 => ?_)
    · have hf := oip c5 hf
      refine r_iconst (v := 0) 35 C dX4_isValue_34 rfl (by decide) ?_
      refine r_istore_n 36 C [(2, .int 0), (1, .int s0), (0, .int v0)] dX4_isValue_35 rfl rfl (by decide) rfl ?_
      refine r_iload_n 37 C 1 dX4_isValue_36 rfl rfl ?_
      refine r_if_ne 44 40 C dX4_isValue_37 rfl rfl (fun c6 => ?_) (fun c6 => ?_)
      · have hf := oin c6 hf
        refine r_iconst (v := 1) 45 C dX4_isValue_44 rfl (by decide) ?_
        refine r_goto 49 C dX4_isValue_45 rfl ?_
        subst hf
        exact r_zret C hr hk0 true rfl dX4_isValue_49
      · have hf := oip c6 hf
        refine r_iload_n 41 C 0 dX4_isValue_40 rfl rfl ?_
        refine r_if_eq 48 44 C dX4_isValue_41 rfl rfl (fun _ => ?_) (fun c => by first | exact absurd c (by decide) | exact absurd (by decide) c)
        refine r_iconst (v := 0) 49 C dX4_isValue_48 rfl (by decide) ?_
        subst hf
        exact r_zret C hr hk0 false rfl dX4_isValue_49
    · have hf := oin c5 hf
      refine r_iconst (v := 1) 31 C dX4_isValue_30 rfl (by decide) ?_
      refine r_goto 35 C dX4_isValue_31 rfl ?_
      refine r_istore_n 36 C [(2, .int 1), (1, .int s0), (0, .int v0)] dX4_isValue_35 rfl rfl (by decide) rfl ?_
      refine r_iload_n 37 C 1 dX4_isValue_36 rfl rfl ?_
      refine r_if_ne 44 40 C dX4_isValue_37 rfl rfl (fun c8 => ?_) (fun c8 => ?_)
      · have hf := oin c8 hf
        refine r_iconst (v := 1) 45 C dX4_isValue_44 rfl (by decide) ?_
        refine r_goto 49 C dX4_isValue_45 rfl ?_
        subst hf
        exact r_zret C hr hk0 true rfl dX4_isValue_49
      · have hf := oip c8 hf
        refine r_iload_n 41 C 0 dX4_isValue_40 rfl rfl ?_
        refine r_if_eq 48 44 C dX4_isValue_41 rfl rfl (fun c => by first | exact absurd c (by decide) | exact absurd (by decide) c) (fun _ => ?_)
        refine r_iconst (v := 1) 45 C dX4_isValue_44 rfl (by decide) ?_
        refine r_goto 49 C dX4_isValue_45 rfl ?_
        subst hf
        exact r_zret C hr hk0 true rfl dX4_isValue_49
set_option maxRecDepth 100000 in
set_option maxHeartbeats 4000000 in
theorem c_X4_isValue (l : Launch) (G : GG) (A : Nat → Prop) (a1 : Int32)  (g : Mem) (res : Bool) (hf : f_X4_isValue a1 = res) : k_Mi l yX4_isValue wsX4_isValue rm_X4_isValue G shC A [.int a1] g (bI res) g := by
  refine k_ofi (cc := cX4_isValue) (nL := 3) (own := RX4) (by decide +kernel) rfl rfl (by simp [lg_sl, Value.category]) ⟨rfl, rfl⟩ [(0, .int a1)] rfl ?_
  intro p e s m args below meth c C hr hk0
  rw [f_X4_isValue] at hf
  refine r_iload_n 1 C 0 dX4_isValue_0 rfl rfl ?_
  refine r_iconst (v := 1) 2 C dX4_isValue_1 rfl (by decide) ?_
  refine r_icmp_lt 15 5 C dX4_isValue_2 rfl rfl (fun c1 => ?_) (fun c1 => ?_)
  · have hf := oip c1 hf
    refine r_iconst (v := 0) 16 C dX4_isValue_15 rfl (by decide) ?_
    refine r_sub [(0, .int a1)] [0] rfl ?_
    exact t_X4_isValue_J16 C hr hk0 a1 a1 0 g hf
  · have hf := oin c1 hf
    refine r_iload_n 6 C 0 dX4_isValue_5 rfl rfl ?_
    refine r_bipush (v := 99) 8 C dX4_isValue_6 rfl (by decide) ?_
    refine r_icmp_gt 15 11 C dX4_isValue_8 rfl rfl (fun c10 => ?_) (fun c10 => ?_)
    · have hf := oip c10 hf
      refine r_iconst (v := 0) 16 C dX4_isValue_15 rfl (by decide) ?_
      refine r_sub [(0, .int a1)] [0] rfl ?_
      exact t_X4_isValue_J16 C hr hk0 a1 a1 0 g hf
    · have hf := oin c10 hf
      refine r_iconst (v := 1) 12 C dX4_isValue_11 rfl (by decide) ?_
      refine r_goto 16 C dX4_isValue_12 rfl ?_
      refine r_sub [(0, .int a1)] [0] rfl ?_
      exact t_X4_isValue_J16 C hr hk0 a1 a1 1 g hf
theorem in_X2_offerValue_X2 : ∀ w ∈ wsX20, w ∈ wsX2_offerValue := by decide +kernel
def rm_X2_offerValue : Room := { frames := 5, cells := 0, slots := 0, locals := 108 }
theorem hd_X2_offerValue : yX2_offerValue.cls = RX2 ∧ yX2_offerValue.cls ≠ "java/lang/invoke/MethodHandle" ∧ yX2_offerValue.cls ≠ "java/lang/invoke/VarHandle" ∧ (parseMethodDescriptor yX2_offerValue.desc).map (fun d => d.parameters.length) = some 3 := by decide +kernel
set_option maxRecDepth 100000 in
set_option maxHeartbeats 4000000 in
theorem c_X2_offerValue (l : Launch) (G : GG) (A : Nat → Prop) (o : Nat) (a1 : Int32) (a2 : Int32) (a3 : Int32) (ho : IsSt o) (g : Mem) (res : Int32 × Mem) (hf : f_X2_offerValue o a1 a2 a3 g = some res) : k_Mi l yX2_offerValue wsX2_offerValue rm_X2_offerValue G shC A [.ref (G.2.1 o), .int a1, .int a2, .int a3] g res.1 res.2 := by
  have hinX2 : ∀ w ∈ wsX20, w ∈ wsX2_offerValue := in_X2_offerValue_X2
  refine k_ofi (cc := cX2_offerValue) (nL := 6) (own := RX2) (by decide +kernel) rfl rfl (by simp [lg_sl, Value.category]) ⟨rfl, rfl⟩ [(0, .ref (G.2.1 o)), (1, .int a1), (2, .int a2), (3, .int a3)] rfl ?_
  intro p e s m args below meth c C hr hk0
  rw [f_X2_offerValue] at hf
  refine r_iload_n 1 C 1 dX2_offerValue_0 rfl rfl ?_
  refine r_SNi (As := [.int a1]) 4 C (c_X4_isProposer l G A a1 g _ rfl) (k_cwSN C (by decide +kernel) gX2_offerValue_X4_isProposer_n98 rfl ⟨rfl, rfl⟩ (by decide +kernel) (by decide +kernel) hd_X4_isProposer ⟨Nat.le_of_ble_eq_true rfl, Nat.le_of_ble_eq_true rfl⟩) rfl rfl (Nat.le_of_ble_eq_true rfl) dX2_offerValue_1 rfl ?_
  refine r_if_eq 14 7 C dX2_offerValue_4 rfl rfl (fun c1 => ?_) (fun c1 => ?_)
  · have hf := obf c1 hf
    refine r_iconst (v := (-1)) 15 C dX2_offerValue_14 rfl (by decide) ?_
    have hf := Option.some.inj hf
    subst hf
    exact r_iret C hr hk0 dX2_offerValue_15
  · have hf := obt c1 hf
    refine r_iload_n 8 C 2 dX2_offerValue_7 rfl rfl ?_
    refine r_SNi (As := [.int a2]) 11 C (c_X4_isSlot l G A a2 g _ rfl) (k_cwSN C (by decide +kernel) gX2_offerValue_X4_isSlot_n117 rfl ⟨rfl, rfl⟩ (by decide +kernel) (by decide +kernel) hd_X4_isSlot ⟨Nat.le_of_ble_eq_true rfl, Nat.le_of_ble_eq_true rfl⟩) rfl rfl (Nat.le_of_ble_eq_true rfl) dX2_offerValue_8 rfl ?_
    refine r_if_ne 16 14 C dX2_offerValue_11 rfl rfl (fun c2 => ?_) (fun c2 => ?_)
    · have hf := obt c2 hf
      refine r_iload_n 17 C 3 dX2_offerValue_16 rfl rfl ?_
      refine r_SNi (As := [.int a3]) 20 C (c_X4_isValue l G A a3 g _ rfl) (k_cwSN C (by decide +kernel) gX2_offerValue_X4_isValue_n120 rfl ⟨rfl, rfl⟩ (by decide +kernel) (by decide +kernel) hd_X4_isValue ⟨Nat.le_of_ble_eq_true rfl, Nat.le_of_ble_eq_true rfl⟩) rfl rfl (Nat.le_of_ble_eq_true rfl) dX2_offerValue_17 rfl ?_
      refine r_if_ne 26 23 C dX2_offerValue_20 rfl rfl (fun c3 => ?_) (fun c3 => ?_)
      · have hf := obt c3 hf
        refine r_aload_n 27 C 0 dX2_offerValue_26 rfl rfl ?_
        refine r_iload_n 28 C 1 dX2_offerValue_27 rfl rfl ?_
        refine r_iload_n 29 C 2 dX2_offerValue_28 rfl rfl ?_
        obtain ⟨x4, hx4, hf⟩ := ob hf
        refine r_Vi (As := [.int a1, .int a2]) 32 C (st_0 ho) rfl (c_X2_mayOffer l G A o a1 a2 ho g _ hx4) (cwV 2 C.1.2.2.2.2 gX2_offerValue_X2_mayOffer rfl rfl rfl hd_X2_mayOffer ⟨Nat.le_of_ble_eq_true rfl, Nat.le_of_ble_eq_true rfl⟩) rfl rfl (Nat.le_of_ble_eq_true rfl) dX2_offerValue_29 rfl ?_
        refine r_if_ne 38 35 C dX2_offerValue_32 rfl rfl (fun c5 => ?_) (fun c5 => ?_)
        · have hf := obt c5 hf
          refine r_aload_n 39 C 0 dX2_offerValue_38 rfl rfl ?_
          refine r_iload_n 40 C 1 dX2_offerValue_39 rfl rfl ?_
          refine r_iload_n 41 C 2 dX2_offerValue_40 rfl rfl ?_
          obtain ⟨x6, hx6, hf⟩ := ob hf
          refine r_Vi (As := [.int a1, .int a2]) 44 C (st_0 ho) rfl (c_X2_boundValue l G A o a1 a2 ho g _ hx6) (cwV 2 C.1.2.2.2.2 gX2_offerValue_X2_boundValue rfl rfl rfl hd_X2_boundValue ⟨Nat.le_of_ble_eq_true rfl, Nat.le_of_ble_eq_true rfl⟩) rfl rfl (Nat.le_of_ble_eq_true rfl) dX2_offerValue_41 rfl ?_
          refine r_istore 46 C [(4, .int x6), (0, .ref (G.2.1 o)), (1, .int a1), (2, .int a2), (3, .int a3)] dX2_offerValue_44 rfl rfl (by decide) rfl ?_
          refine r_iload 48 C 0 dX2_offerValue_46 rfl rfl ?_
          refine r_if_ne 55 51 C dX2_offerValue_48 rfl rfl (fun c7 => ?_) (fun c7 => ?_)
          · have hf := oin c7 hf
            refine r_iload 57 C 0 dX2_offerValue_55 rfl rfl ?_
            refine r_istore 59 C [(5, .int x6), (4, .int x6), (0, .ref (G.2.1 o)), (1, .int a1), (2, .int a2), (3, .int a3)] dX2_offerValue_57 rfl rfl (by decide) rfl ?_
            refine r_aload_n 60 C 2 dX2_offerValue_59 rfl rfl ?_
            refine r_getr 63 C (k := 11) (st_0 ho) rfl hinX2 (by decide) rfl dX2_offerValue_60 rfl (by decide +kernel) ?_
            refine r_iload_n 64 C 3 dX2_offerValue_63 rfl rfl ?_
            refine r_iload_n 65 C 4 dX2_offerValue_64 rfl rfl ?_
            refine r_SNi (As := [.int a1, .int a2]) 68 C (c_X4_cell l G A a1 a2 g _ rfl) (k_cwSN C (by decide +kernel) gX2_offerValue_X4_cell_n104 rfl ⟨rfl, rfl⟩ (by decide +kernel) (by decide +kernel) hd_X4_cell ⟨Nat.le_of_ble_eq_true rfl, Nat.le_of_ble_eq_true rfl⟩) rfl rfl (Nat.le_of_ble_eq_true rfl) dX2_offerValue_65 rfl ?_
            refine r_iload 70 C 0 dX2_offerValue_68 rfl rfl ?_
            obtain ⟨g8, hg8, hf⟩ := ob hf
            refine r_iastore 71 C (st_7 ho) dX2_offerValue_70 rfl hg8 ?_
            refine r_iload 73 C 0 dX2_offerValue_71 rfl rfl ?_
            have hf := Option.some.inj hf
            subst hf
            exact r_iret C hr hk0 dX2_offerValue_73
          · have hf := oip c7 hf
            refine r_iload_n 52 C 4 dX2_offerValue_51 rfl rfl ?_
            refine r_goto 57 C dX2_offerValue_52 rfl ?_
            refine r_istore 59 C [(5, .int a3), (4, .int x6), (0, .ref (G.2.1 o)), (1, .int a1), (2, .int a2), (3, .int a3)] dX2_offerValue_57 rfl rfl (by decide) rfl ?_
            refine r_aload_n 60 C 2 dX2_offerValue_59 rfl rfl ?_
            refine r_getr 63 C (k := 11) (st_0 ho) rfl hinX2 (by decide) rfl dX2_offerValue_60 rfl (by decide +kernel) ?_
            refine r_iload_n 64 C 3 dX2_offerValue_63 rfl rfl ?_
            refine r_iload_n 65 C 4 dX2_offerValue_64 rfl rfl ?_
            refine r_SNi (As := [.int a1, .int a2]) 68 C (c_X4_cell l G A a1 a2 g _ rfl) (k_cwSN C (by decide +kernel) gX2_offerValue_X4_cell_n104 rfl ⟨rfl, rfl⟩ (by decide +kernel) (by decide +kernel) hd_X4_cell ⟨Nat.le_of_ble_eq_true rfl, Nat.le_of_ble_eq_true rfl⟩) rfl rfl (Nat.le_of_ble_eq_true rfl) dX2_offerValue_65 rfl ?_
            refine r_iload 70 C 0 dX2_offerValue_68 rfl rfl ?_
            obtain ⟨g9, hg9, hf⟩ := ob hf
            refine r_iastore 71 C (st_7 ho) dX2_offerValue_70 rfl hg9 ?_
            refine r_iload 73 C 0 dX2_offerValue_71 rfl rfl ?_
            have hf := Option.some.inj hf
            subst hf
            exact r_iret C hr hk0 dX2_offerValue_73
        · have hf := obf c5 hf
          refine r_bipush (v := (-4)) 37 C dX2_offerValue_35 rfl (by decide) ?_
          have hf := Option.some.inj hf
          subst hf
          exact r_iret C hr hk0 dX2_offerValue_37
      · have hf := obf c3 hf
        refine r_bipush (v := (-2)) 25 C dX2_offerValue_23 rfl (by decide) ?_
        have hf := Option.some.inj hf
        subst hf
        exact r_iret C hr hk0 dX2_offerValue_25
    · have hf := obf c2 hf
      refine r_iconst (v := (-1)) 15 C dX2_offerValue_14 rfl (by decide) ?_
      have hf := Option.some.inj hf
      subst hf
      exact r_iret C hr hk0 dX2_offerValue_15
theorem in_X2_nextBallot_X2 : ∀ w ∈ wsX20, w ∈ wsX2_nextBallot := by decide +kernel
def rm_X2_nextBallot : Room := { frames := 1, cells := 0, slots := 0, locals := 21 }
theorem hd_X2_nextBallot : yX2_nextBallot.cls = RX2 ∧ yX2_nextBallot.cls ≠ "java/lang/invoke/MethodHandle" ∧ yX2_nextBallot.cls ≠ "java/lang/invoke/VarHandle" ∧ (parseMethodDescriptor yX2_nextBallot.desc).map (fun d => d.parameters.length) = some 1 := by decide +kernel
set_option maxRecDepth 100000 in
set_option maxHeartbeats 4000000 in
theorem c_X2_nextBallot (l : Launch) (G : GG) (A : Nat → Prop) (o : Nat) (a1 : Int32) (ho : IsSt o) (g : Mem) (res : Int32) (hf : f_X2_nextBallot o a1 g = some res) : k_Mi l yX2_nextBallot wsX2_nextBallot rm_X2_nextBallot G shC A [.ref (G.2.1 o), .int a1] g res g := by
  have hinX2 : ∀ w ∈ wsX20, w ∈ wsX2_nextBallot := in_X2_nextBallot_X2
  refine k_ofi (cc := cX2_nextBallot) (nL := 4) (own := RX2) (by decide +kernel) rfl rfl (by simp [lg_sl, Value.category]) ⟨rfl, rfl⟩ [(0, .ref (G.2.1 o)), (1, .int a1)] rfl ?_
  intro p e s m args below meth c C hr hk0
  rw [f_X2_nextBallot] at hf
  refine r_aload_n 1 C 0 dX2_nextBallot_0 rfl rfl ?_
  refine r_getr 4 C (k := 8) (st_0 ho) rfl hinX2 (by decide) rfl dX2_nextBallot_1 rfl (by decide +kernel) ?_
  refine r_iload_n 5 C 1 dX2_nextBallot_4 rfl rfl ?_
  obtain ⟨x1, hx1, hf⟩ := ob hf
  refine r_iaload 6 C (st_4 ho) dX2_nextBallot_5 rfl hx1 ?_
  refine r_aload_n 7 C 0 dX2_nextBallot_6 rfl rfl ?_
  refine r_getr 10 C (k := 9) (st_0 ho) rfl hinX2 (by decide) rfl dX2_nextBallot_7 rfl (by decide +kernel) ?_
  refine r_iload_n 11 C 1 dX2_nextBallot_10 rfl rfl ?_
  obtain ⟨x2, hx2, hf⟩ := ob hf
  refine r_iaload 12 C (st_5 ho) dX2_nextBallot_11 rfl hx2 ?_
  refine r_max 15 C (by decide +kernel) (by decide +kernel) (by decide +kernel) (by decide +kernel) (Nat.le_of_ble_eq_true rfl) (Nat.le_of_ble_eq_true rfl) dX2_nextBallot_12 rfl ?_
  obtain ⟨x3, hx3, hf⟩ := ol hf
  refine r_istore_n 16 C [(2, .int x3), (0, .ref (G.2.1 o)), (1, .int a1)] dX2_nextBallot_15 rfl hx3 (by decide) rfl ?_
  refine r_iload_n 17 C 0 dX2_nextBallot_16 rfl rfl ?_
  refine r_iconst (v := 3) 18 C dX2_nextBallot_17 rfl (by decide) ?_
  refine r_iadd 19 C dX2_nextBallot_18 rfl ?_
  refine r_iconst (v := 1) 20 C dX2_nextBallot_19 rfl (by decide) ?_
  refine r_isub 21 C dX2_nextBallot_20 rfl ?_
  refine r_iload_n 22 C 2 dX2_nextBallot_21 rfl rfl ?_
  refine r_isub 23 C dX2_nextBallot_22 rfl ?_
  refine r_iconst (v := 3) 24 C dX2_nextBallot_23 rfl (by decide) ?_
  refine r_idiv 25 C dX2_nextBallot_24 rfl (by decide) ?_
  obtain ⟨x4, hx4, hf⟩ := ol hf
  refine r_istore_n 26 C [(3, .int x4), (2, .int x3), (0, .ref (G.2.1 o)), (1, .int a1)] dX2_nextBallot_25 rfl hx4 (by decide) rfl ?_
  refine r_iconst (v := 3) 27 C dX2_nextBallot_26 rfl (by decide) ?_
  refine r_iload_n 28 C 0 dX2_nextBallot_27 rfl rfl ?_
  refine r_imul 29 C dX2_nextBallot_28 rfl ?_
  refine r_iload_n 30 C 3 dX2_nextBallot_29 rfl rfl ?_
  refine r_iadd 31 C dX2_nextBallot_30 rfl ?_
  refine r_iconst (v := 1) 32 C dX2_nextBallot_31 rfl (by decide) ?_
  refine r_iadd 33 C dX2_nextBallot_32 rfl ?_
  have hf := Option.some.inj hf
  subst hf
  exact r_iret C hr hk0 dX2_nextBallot_33
theorem in_X2_startBallot_X2 : ∀ w ∈ wsX20, w ∈ wsX2_startBallot := by decide +kernel
def rm_X2_startBallot : Room := { frames := 2, cells := 0, slots := 0, locals := 44 }
theorem hd_X2_startBallot : yX2_startBallot.cls = RX2 ∧ yX2_startBallot.cls ≠ "java/lang/invoke/MethodHandle" ∧ yX2_startBallot.cls ≠ "java/lang/invoke/VarHandle" ∧ (parseMethodDescriptor yX2_startBallot.desc).map (fun d => d.parameters.length) = some 1 := by decide +kernel
set_option maxRecDepth 100000 in
set_option maxHeartbeats 4000000 in
theorem t_X2_startBallot_L41 {p : Program} {l : Launch} {e : Env} {s : State} {m : MethodId} {args : Array Value} {below : List Frame} {meth : Method} {c : Code} {G : GG} {A : Nat → Prop} (C : KX p s m args c cX2_startBallot 4 RX2 wsX2_startBallot G shC A) (hr : meth.sig.returnType = (some .int)) (hk0 : meth.locks = false) (o : Nat) (a1 : Int32) (ho : IsSt o) (v1 : Int32) (v2 : Int32) {res : Int32 × Mem} {k : Mem → Option (Int32 × Mem)} (hk : ∀ (g : Mem), k g = some res → JJ p l e rm_X2_startBallot s m args below meth c 4 G shC A (MQ below (k_Qi G shC A res.1 res.2) args s 0 0 A) 64 [(2, .int v2)] [] g) : ∀ (n : Nat) (v3 : Int32) (g : Mem), f_X2_startBallot_L41 k o v1 v2 n v3 g = some res → JJ p l e rm_X2_startBallot s m args below meth c 4 G shC A (MQ below (k_Qi G shC A res.1 res.2) args s 0 0 A) 41 [(0, .ref (G.2.1 o)), (1, .int v1), (2, .int v2), (3, .int v3)] [] g := by
  have hinX2 : ∀ w ∈ wsX20, w ∈ wsX2_startBallot := in_X2_startBallot_X2
  intro n
  induction n with
  | zero =>
    intro v3 g hf
    rw [f_X2_startBallot_L41] at hf
    cases hf
  | succ n ih =>
    intro v3 g hf
    rw [f_X2_startBallot_L41] at hf
    refine r_iload_n 42 C 3 dX2_startBallot_41 rfl rfl ?_
    refine r_bipush (v := 16) 44 C dX2_startBallot_42 rfl (by decide) ?_
    refine r_icmp_gt 64 47 C dX2_startBallot_44 rfl rfl (fun c6 => ?_) (fun c6 => ?_)
    · have hf := oip c6 hf
      refine r_sub [(2, .int v2)] [2] rfl ?_
      exact hk  _ hf
    · have hf := oin c6 hf
      refine r_aload_n 48 C 0 dX2_startBallot_47 rfl rfl ?_
      refine r_getr 51 C (k := 11) (st_0 ho) rfl hinX2 (by decide) rfl dX2_startBallot_48 rfl (by decide +kernel) ?_
      refine r_iload_n 52 C 1 dX2_startBallot_51 rfl rfl ?_
      refine r_iload_n 53 C 3 dX2_startBallot_52 rfl rfl ?_
      refine r_SNi (As := [.int v1, .int v3]) 56 C (c_X4_cell l G A v1 v3 g _ rfl) (k_cwSN C (by decide +kernel) gX2_startBallot_X4_cell_n104 rfl ⟨rfl, rfl⟩ (by decide +kernel) (by decide +kernel) hd_X4_cell ⟨Nat.le_of_ble_eq_true rfl, Nat.le_of_ble_eq_true rfl⟩) rfl rfl (Nat.le_of_ble_eq_true rfl) dX2_startBallot_53 rfl ?_
      refine r_iconst (v := 0) 57 C dX2_startBallot_56 rfl (by decide) ?_
      obtain ⟨g7, hg7, hf⟩ := ob hf
      refine r_iastore 58 C (st_7 ho) dX2_startBallot_57 rfl hg7 ?_
      obtain ⟨x8, hx8, hf⟩ := ol hf
      refine r_iinc 61 C 3 x8 [(3, .int x8), (0, .ref (G.2.1 o)), (1, .int v1), (2, .int v2)] dX2_startBallot_58 rfl rfl hx8.symm (by decide) rfl ?_
      refine r_goto 41 C dX2_startBallot_61 rfl ?_
      refine r_sub [(0, .ref (G.2.1 o)), (1, .int v1), (2, .int v2), (3, .int x8)] [1, 2, 3, 0] rfl ?_
      exact ih _ _ hf
set_option maxRecDepth 100000 in
set_option maxHeartbeats 4000000 in
theorem c_X2_startBallot (l : Launch) (G : GG) (A : Nat → Prop) (o : Nat) (a1 : Int32) (ho : IsSt o) (g : Mem) (res : Int32 × Mem) (hf : f_X2_startBallot o a1 g = some res) : k_Mi l yX2_startBallot wsX2_startBallot rm_X2_startBallot G shC A [.ref (G.2.1 o), .int a1] g res.1 res.2 := by
  have hinX2 : ∀ w ∈ wsX20, w ∈ wsX2_startBallot := in_X2_startBallot_X2
  refine k_ofi (cc := cX2_startBallot) (nL := 4) (own := RX2) (by decide +kernel) rfl rfl (by simp [lg_sl, Value.category]) ⟨rfl, rfl⟩ [(0, .ref (G.2.1 o)), (1, .int a1)] rfl ?_
  intro p e s m args below meth c C hr hk0
  rw [f_X2_startBallot] at hf
  refine r_iload_n 1 C 1 dX2_startBallot_0 rfl rfl ?_
  refine r_SNi (As := [.int a1]) 4 C (c_X4_isProposer l G A a1 g _ rfl) (k_cwSN C (by decide +kernel) gX2_startBallot_X4_isProposer_n98 rfl ⟨rfl, rfl⟩ (by decide +kernel) (by decide +kernel) hd_X4_isProposer ⟨Nat.le_of_ble_eq_true rfl, Nat.le_of_ble_eq_true rfl⟩) rfl rfl (Nat.le_of_ble_eq_true rfl) dX2_startBallot_1 rfl ?_
  refine r_if_ne 9 7 C dX2_startBallot_4 rfl rfl (fun c1 => ?_) (fun c1 => ?_)
  · have hf := obt c1 hf
    refine r_aload_n 10 C 0 dX2_startBallot_9 rfl rfl ?_
    refine r_iload_n 11 C 1 dX2_startBallot_10 rfl rfl ?_
    obtain ⟨x2, hx2, hf⟩ := ob hf
    refine r_Vi (As := [.int a1]) 14 C (st_0 ho) rfl (c_X2_nextBallot l G A o a1 ho g _ hx2) (cwV 1 C.1.2.2.2.2 gX2_startBallot_X2_nextBallot rfl rfl rfl hd_X2_nextBallot ⟨Nat.le_of_ble_eq_true rfl, Nat.le_of_ble_eq_true rfl⟩) rfl rfl (Nat.le_of_ble_eq_true rfl) dX2_startBallot_11 rfl ?_
    refine r_istore_n 15 C [(2, .int x2), (0, .ref (G.2.1 o)), (1, .int a1)] dX2_startBallot_14 rfl rfl (by decide) rfl ?_
    refine r_iload_n 16 C 0 dX2_startBallot_15 rfl rfl ?_
    refine r_sipush (v := 999) 19 C dX2_startBallot_16 rfl (by decide) ?_
    refine r_icmp_le 25 22 C dX2_startBallot_19 rfl rfl (fun c3 => ?_) (fun c3 => ?_)
    · have hf := oip c3 hf
      refine r_aload_n 26 C 1 dX2_startBallot_25 rfl rfl ?_
      refine r_getr 29 C (k := 8) (st_0 ho) rfl hinX2 (by decide) rfl dX2_startBallot_26 rfl (by decide +kernel) ?_
      refine r_iload_n 30 C 2 dX2_startBallot_29 rfl rfl ?_
      refine r_iload_n 31 C 0 dX2_startBallot_30 rfl rfl ?_
      obtain ⟨g4, hg4, hf⟩ := ob hf
      refine r_iastore 32 C (st_4 ho) dX2_startBallot_31 rfl hg4 ?_
      refine r_aload_n 33 C 1 dX2_startBallot_32 rfl rfl ?_
      refine r_getr 36 C (k := 10) (st_0 ho) rfl hinX2 (by decide) rfl dX2_startBallot_33 rfl (by decide +kernel) ?_
      refine r_iload_n 37 C 2 dX2_startBallot_36 rfl rfl ?_
      refine r_iconst (v := 0) 38 C dX2_startBallot_37 rfl (by decide) ?_
      obtain ⟨g5, hg5, hf⟩ := ob hf
      refine r_iastore 39 C (st_6 ho) dX2_startBallot_38 rfl hg5 ?_
      refine r_iconst (v := 1) 40 C dX2_startBallot_39 rfl (by decide) ?_
      refine r_istore_n 41 C [(3, .int 1), (2, .int x2), (0, .ref (G.2.1 o)), (1, .int a1)] dX2_startBallot_40 rfl rfl (by decide) rfl ?_
      refine r_sub [(0, .ref (G.2.1 o)), (1, .int a1), (2, .int x2), (3, .int 1)] [2, 3, 1, 0] rfl ?_
      refine t_X2_startBallot_L41 C hr hk0 o a1 ho a1 x2 (fun g9 hf => ?_) fuel0 _ _ hf
      refine r_iload_n 65 C 0 dX2_startBallot_64 rfl rfl ?_
      have hf := Option.some.inj hf
      subst hf
      exact r_iret C hr hk0 dX2_startBallot_65
    · have hf := oin c3 hf
      refine r_bipush (v := (-3)) 24 C dX2_startBallot_22 rfl (by decide) ?_
      have hf := Option.some.inj hf
      subst hf
      exact r_iret C hr hk0 dX2_startBallot_24
  · have hf := obf c1 hf
    refine r_iconst (v := (-1)) 8 C dX2_startBallot_7 rfl (by decide) ?_
    have hf := Option.some.inj hf
    subst hf
    exact r_iret C hr hk0 dX2_startBallot_8
theorem in_X2_turn_X2 : ∀ w ∈ wsX20, w ∈ wsX2_turn := by decide +kernel
def rm_X2_turn : Room := { frames := 1, cells := 0, slots := 0, locals := 21 }
theorem hd_X2_turn : yX2_turn.cls = RX2 ∧ yX2_turn.cls ≠ "java/lang/invoke/MethodHandle" ∧ yX2_turn.cls ≠ "java/lang/invoke/VarHandle" ∧ (parseMethodDescriptor yX2_turn.desc).map (fun d => d.parameters.length) = some 2 := by decide +kernel
set_option maxRecDepth 100000 in
set_option maxHeartbeats 4000000 in
theorem c_X2_turn (l : Launch) (G : GG) (A : Nat → Prop) (o : Nat) (a1 : Int32) (b2 : Bool) (ho : IsSt o) (g : Mem) (res : Int32 × Mem) (hf : f_X2_turn o a1 b2 g = some res) : k_Mi l yX2_turn wsX2_turn rm_X2_turn G shC A [.ref (G.2.1 o), .int a1, .int (bI b2)] g res.1 res.2 := by
  have hinX2 : ∀ w ∈ wsX20, w ∈ wsX2_turn := in_X2_turn_X2
  refine k_ofi (cc := cX2_turn) (nL := 3) (own := RX2) (by decide +kernel) rfl rfl (by simp [lg_sl, Value.category]) ⟨rfl, rfl⟩ [(0, .ref (G.2.1 o)), (1, .int a1), (2, .int (bI b2))] rfl ?_
  intro p e s m args below meth c C hr hk0
  rw [f_X2_turn] at hf
  refine r_iload_n 1 C 1 dX2_turn_0 rfl rfl ?_
  refine r_SNi (As := [.int a1]) 4 C (c_X4_isAcceptor l G A a1 g _ rfl) (k_cwSN C (by decide +kernel) gX2_turn_X4_isAcceptor_n77 rfl ⟨rfl, rfl⟩ (by decide +kernel) (by decide +kernel) hd_X4_isAcceptor ⟨Nat.le_of_ble_eq_true rfl, Nat.le_of_ble_eq_true rfl⟩) rfl rfl (Nat.le_of_ble_eq_true rfl) dX2_turn_1 rfl ?_
  refine r_if_ne 9 7 C dX2_turn_4 rfl rfl (fun c1 => ?_) (fun c1 => ?_)
  · have hf := obt c1 hf
    refine r_aload_n 10 C 0 dX2_turn_9 rfl rfl ?_
    refine r_geti 13 C (k := 0) (st_0 ho) rfl hinX2 (by decide) rfl dX2_turn_10 rfl (by decide +kernel) ?_
    refine r_iload_n 14 C 1 dX2_turn_13 rfl rfl ?_
    refine r_SNi (As := [.int (g o 0), .int a1]) 17 C (c_X4_has l G A (g o 0) a1 g _ rfl) (k_cwSN C (by decide +kernel) gX2_turn_X4_has_n81 rfl ⟨rfl, rfl⟩ (by decide +kernel) (by decide +kernel) hd_X4_has ⟨Nat.le_of_ble_eq_true rfl, Nat.le_of_ble_eq_true rfl⟩) rfl rfl (Nat.le_of_ble_eq_true rfl) dX2_turn_14 rfl ?_
    refine r_iload_n 18 C 2 dX2_turn_17 rfl rfl ?_
    refine r_icmp_ne 24 21 C dX2_turn_18 rfl rfl (fun c2 => ?_) (fun c2 => ?_)
    · have hf := oin c2 hf
      refine r_aload_n 25 C 0 dX2_turn_24 rfl rfl ?_
      refine r_dup 26 C dX2_turn_25 rfl rfl ?_
      refine r_geti 29 C (k := 0) (st_0 ho) rfl hinX2 (by decide) rfl dX2_turn_26 rfl (by decide +kernel) ?_
      refine r_iconst (v := 1) 30 C dX2_turn_29 rfl (by decide) ?_
      refine r_iload_n 31 C 1 dX2_turn_30 rfl rfl ?_
      refine r_ishl 32 C dX2_turn_31 rfl ?_
      refine r_ixor 33 C dX2_turn_32 rfl ?_
      obtain ⟨g3, hg3, hf⟩ := ol hf
      refine r_puti 36 C (k := 0) (ty := .int) tyX2 tyX2_ok nmX2 (st_0 ho) rfl hinX2 (by decide) rfl rfl (by decide +kernel) rfl rfl hg3 dX2_turn_33 rfl (by decide +kernel) ?_
      refine r_aload_n 37 C 0 dX2_turn_36 rfl rfl ?_
      refine r_geti 40 C (k := 0) (st_0 ho) rfl hinX2 (by decide) rfl dX2_turn_37 rfl (by decide +kernel) ?_
      refine r_Si (As := [.int (g3 o 0)]) 43 C (c_J6_bitCount_0f7a4 l G A (g3 o 0) g3 _ rfl) (va_cwS 1 C.1.2.2.2.2 gX2_turn_J6_bitCount_0f7a4 rfl rfl rfl hd_J6_bitCount_0f7a4 ⟨Nat.le_of_ble_eq_true rfl, Nat.le_of_ble_eq_true rfl⟩) rfl rfl (Nat.le_of_ble_eq_true rfl) dX2_turn_40 rfl ?_
      have hf := Option.some.inj hf
      subst hf
      exact r_iret C hr hk0 dX2_turn_43
    · have hf := oip c2 hf
      refine r_bipush (v := (-5)) 23 C dX2_turn_21 rfl (by decide) ?_
      have hf := Option.some.inj hf
      subst hf
      exact r_iret C hr hk0 dX2_turn_23
  · have hf := obf c1 hf
    refine r_iconst (v := (-1)) 8 C dX2_turn_7 rfl (by decide) ?_
    have hf := Option.some.inj hf
    subst hf
    exact r_iret C hr hk0 dX2_turn_8
theorem in_X2_forgetVotes_X2 : ∀ w ∈ wsX20, w ∈ wsX2_forgetVotes := by decide +kernel
def rm_X2_forgetVotes : Room := { frames := 1, cells := 0, slots := 0, locals := 21 }
theorem hd_X2_forgetVotes : yX2_forgetVotes.cls = RX2 ∧ yX2_forgetVotes.cls ≠ "java/lang/invoke/MethodHandle" ∧ yX2_forgetVotes.cls ≠ "java/lang/invoke/VarHandle" ∧ (parseMethodDescriptor yX2_forgetVotes.desc).map (fun d => d.parameters.length) = some 2 := by decide +kernel
set_option maxRecDepth 100000 in
set_option maxHeartbeats 4000000 in
theorem t_X2_forgetVotes_L2 {p : Program} {l : Launch} {e : Env} {s : State} {m : MethodId} {args : Array Value} {below : List Frame} {meth : Method} {c : Code} {G : GG} {A : Nat → Prop} (C : KX p s m args c cX2_forgetVotes 4 RX2 wsX2_forgetVotes G shC A) (hr : meth.sig.returnType = none) (hk0 : meth.locks = false) (o : Nat) (a1 : Int32) (a2 : Int32) (ho : IsSt o) (v1 : Int32) (v2 : Int32) {res : Mem} {k : Mem → Option Mem} (hk : ∀ (g : Mem), k g = some res → JJ p l e rm_X2_forgetVotes s m args below meth c 4 G shC A (MQ below (k_Qv G shC A res) args s 0 0 A) 41 [] [] g) : ∀ (n : Nat) (v3 : Int32) (g : Mem), f_X2_forgetVotes_L2 k o v1 v2 n v3 g = some res → JJ p l e rm_X2_forgetVotes s m args below meth c 4 G shC A (MQ below (k_Qv G shC A res) args s 0 0 A) 2 [(0, .ref (G.2.1 o)), (1, .int v1), (2, .int v2), (3, .int v3)] [] g := by
  have hinX2 : ∀ w ∈ wsX20, w ∈ wsX2_forgetVotes := in_X2_forgetVotes_X2
  intro n
  induction n with
  | zero =>
    intro v3 g hf
    rw [f_X2_forgetVotes_L2] at hf
    cases hf
  | succ n ih =>
    intro v3 g hf
    rw [f_X2_forgetVotes_L2] at hf
    refine r_iload_n 3 C 3 dX2_forgetVotes_2 rfl rfl ?_
    refine r_bipush (v := 16) 5 C dX2_forgetVotes_3 rfl (by decide) ?_
    refine r_icmp_gt 41 8 C dX2_forgetVotes_5 rfl rfl (fun c1 => ?_) (fun c1 => ?_)
    · have hf := oip c1 hf
      refine r_sub [] [] rfl ?_
      exact hk  _ hf
    · have hf := oin c1 hf
      refine r_iload_n 9 C 3 dX2_forgetVotes_8 rfl rfl ?_
      refine r_iload_n 10 C 2 dX2_forgetVotes_9 rfl rfl ?_
      refine r_icmp_gt 41 13 C dX2_forgetVotes_10 rfl rfl (fun c2 => ?_) (fun c2 => ?_)
      · have hf := oip c2 hf
        refine r_sub [] [] rfl ?_
        exact hk  _ hf
      · have hf := oin c2 hf
        refine r_aload_n 14 C 0 dX2_forgetVotes_13 rfl rfl ?_
        refine r_getr 17 C (k := 6) (st_0 ho) rfl hinX2 (by decide) rfl dX2_forgetVotes_14 rfl (by decide +kernel) ?_
        refine r_iload_n 18 C 1 dX2_forgetVotes_17 rfl rfl ?_
        refine r_iload_n 19 C 3 dX2_forgetVotes_18 rfl rfl ?_
        refine r_SNi (As := [.int v1, .int v3]) 22 C (c_X4_cell l G A v1 v3 g _ rfl) (k_cwSN C (by decide +kernel) gX2_forgetVotes_X4_cell_n104 rfl ⟨rfl, rfl⟩ (by decide +kernel) (by decide +kernel) hd_X4_cell ⟨Nat.le_of_ble_eq_true rfl, Nat.le_of_ble_eq_true rfl⟩) rfl rfl (Nat.le_of_ble_eq_true rfl) dX2_forgetVotes_19 rfl ?_
        refine r_iconst (v := 0) 23 C dX2_forgetVotes_22 rfl (by decide) ?_
        obtain ⟨g3, hg3, hf⟩ := ob hf
        refine r_iastore 24 C (st_2 ho) dX2_forgetVotes_23 rfl hg3 ?_
        refine r_aload_n 25 C 0 dX2_forgetVotes_24 rfl rfl ?_
        refine r_getr 28 C (k := 7) (st_0 ho) rfl hinX2 (by decide) rfl dX2_forgetVotes_25 rfl (by decide +kernel) ?_
        refine r_iload_n 29 C 1 dX2_forgetVotes_28 rfl rfl ?_
        refine r_iload_n 30 C 3 dX2_forgetVotes_29 rfl rfl ?_
        refine r_SNi (As := [.int v1, .int v3]) 33 C (c_X4_cell l G A v1 v3 g3 _ rfl) (k_cwSN C (by decide +kernel) gX2_forgetVotes_X4_cell_n104 rfl ⟨rfl, rfl⟩ (by decide +kernel) (by decide +kernel) hd_X4_cell ⟨Nat.le_of_ble_eq_true rfl, Nat.le_of_ble_eq_true rfl⟩) rfl rfl (Nat.le_of_ble_eq_true rfl) dX2_forgetVotes_30 rfl ?_
        refine r_iconst (v := 0) 34 C dX2_forgetVotes_33 rfl (by decide) ?_
        obtain ⟨g4, hg4, hf⟩ := ob hf
        refine r_iastore 35 C (st_3 ho) dX2_forgetVotes_34 rfl hg4 ?_
        obtain ⟨x5, hx5, hf⟩ := ol hf
        refine r_iinc 38 C 3 x5 [(3, .int x5), (0, .ref (G.2.1 o)), (1, .int v1), (2, .int v2)] dX2_forgetVotes_35 rfl rfl hx5.symm (by decide) rfl ?_
        refine r_goto 2 C dX2_forgetVotes_38 rfl ?_
        refine r_sub [(0, .ref (G.2.1 o)), (1, .int v1), (2, .int v2), (3, .int x5)] [1, 2, 3, 0] rfl ?_
        exact ih _ _ hf
set_option maxRecDepth 100000 in
set_option maxHeartbeats 4000000 in
theorem c_X2_forgetVotes (l : Launch) (G : GG) (A : Nat → Prop) (o : Nat) (a1 : Int32) (a2 : Int32) (ho : IsSt o) (g : Mem) (res : Mem) (hf : f_X2_forgetVotes o a1 a2 g = some res) : k_Mv l yX2_forgetVotes wsX2_forgetVotes rm_X2_forgetVotes G shC A [.ref (G.2.1 o), .int a1, .int a2] g res := by
  have hinX2 : ∀ w ∈ wsX20, w ∈ wsX2_forgetVotes := in_X2_forgetVotes_X2
  refine k_ofv (cc := cX2_forgetVotes) (nL := 4) (own := RX2) (by decide +kernel) rfl rfl (by simp [lg_sl, Value.category]) ⟨rfl, rfl⟩ [(0, .ref (G.2.1 o)), (1, .int a1), (2, .int a2)] rfl ?_
  intro p e s m args below meth c C hr hk0
  rw [f_X2_forgetVotes] at hf
  refine r_iconst (v := 1) 1 C dX2_forgetVotes_0 rfl (by decide) ?_
  refine r_istore_n 2 C [(3, .int 1), (0, .ref (G.2.1 o)), (1, .int a1), (2, .int a2)] dX2_forgetVotes_1 rfl rfl (by decide) rfl ?_
  refine r_sub [(0, .ref (G.2.1 o)), (1, .int a1), (2, .int a2), (3, .int 1)] [1, 2, 3, 0] rfl ?_
  refine t_X2_forgetVotes_L2 C hr hk0 o a1 a2 ho a1 a2 (fun g6 hf => ?_) fuel0 _ _ hf
  have hf := Option.some.inj hf
  subst hf
  exact r_vret C hr hk0 dX2_forgetVotes_41
theorem in_X2_forgetUpTo_X2 : ∀ w ∈ wsX20, w ∈ wsX2_forgetUpTo := by decide +kernel
def rm_X2_forgetUpTo : Room := { frames := 2, cells := 0, slots := 0, locals := 45 }
theorem hd_X2_forgetUpTo : yX2_forgetUpTo.cls = RX2 ∧ yX2_forgetUpTo.cls ≠ "java/lang/invoke/MethodHandle" ∧ yX2_forgetUpTo.cls ≠ "java/lang/invoke/VarHandle" ∧ (parseMethodDescriptor yX2_forgetUpTo.desc).map (fun d => d.parameters.length) = some 1 := by decide +kernel
set_option maxRecDepth 100000 in
set_option maxHeartbeats 4000000 in
theorem t_X2_forgetUpTo_L35 {p : Program} {l : Launch} {e : Env} {s : State} {m : MethodId} {args : Array Value} {below : List Frame} {meth : Method} {c : Code} {G : GG} {A : Nat → Prop} (C : KX p s m args c cX2_forgetUpTo 4 RX2 wsX2_forgetUpTo G shC A) (hr : meth.sig.returnType = (some .int)) (hk0 : meth.locks = false) (o : Nat) (a1 : Int32) (ho : IsSt o) (v1 : Int32) {res : Int32 × Mem} {k : Int32 → Mem → Option (Int32 × Mem)} (hk : ∀ (v2 : Int32) (g : Mem), k v2 g = some res → JJ p l e rm_X2_forgetUpTo s m args below meth c 4 G shC A (MQ below (k_Qi G shC A res.1 res.2) args s 0 0 A) 62 [(0, .ref (G.2.1 o)), (1, .int v1), (2, .int v2)] [] g) : ∀ (n : Nat) (v2 : Int32) (v3 : Int32) (g : Mem), f_X2_forgetUpTo_L35 k o v1 n v2 v3 g = some res → JJ p l e rm_X2_forgetUpTo s m args below meth c 4 G shC A (MQ below (k_Qi G shC A res.1 res.2) args s 0 0 A) 35 [(0, .ref (G.2.1 o)), (1, .int v1), (2, .int v2), (3, .int v3)] [] g := by
  have hinX2 : ∀ w ∈ wsX20, w ∈ wsX2_forgetUpTo := in_X2_forgetUpTo_X2
  intro n
  induction n with
  | zero =>
    intro v2 v3 g hf
    rw [f_X2_forgetUpTo_L35] at hf
    cases hf
  | succ n ih =>
    intro v2 v3 g hf
    rw [f_X2_forgetUpTo_L35] at hf
    refine r_iload_n 36 C 3 dX2_forgetUpTo_35 rfl rfl ?_
    refine r_bipush (v := 6) 38 C dX2_forgetUpTo_36 rfl (by decide) ?_
    refine r_icmp_ge 62 41 C dX2_forgetUpTo_38 rfl rfl (fun c5 => ?_) (fun c5 => ?_)
    · have hf := oip c5 hf
      refine r_sub [(0, .ref (G.2.1 o)), (1, .int v1), (2, .int v2)] [0, 1, 2] rfl ?_
      exact hk _ _ hf
    · have hf := oin c5 hf
      refine r_iload_n 42 C 2 dX2_forgetUpTo_41 rfl rfl ?_
      refine r_aload_n 43 C 0 dX2_forgetUpTo_42 rfl rfl ?_
      refine r_iload_n 44 C 3 dX2_forgetUpTo_43 rfl rfl ?_
      refine r_iload_n 45 C 1 dX2_forgetUpTo_44 rfl rfl ?_
      obtain ⟨x6, hx6, hf⟩ := ob hf
      refine r_Vi (As := [.int v3, .int v1]) 48 C (st_0 ho) rfl (c_X2_votesOf l G A o v3 v1 ho g _ hx6) (cwV 2 C.1.2.2.2.2 gX2_forgetUpTo_X2_votesOf rfl rfl rfl hd_X2_votesOf ⟨Nat.le_of_ble_eq_true rfl, Nat.le_of_ble_eq_true rfl⟩) rfl rfl (Nat.le_of_ble_eq_true rfl) dX2_forgetUpTo_45 rfl ?_
      refine r_iadd 49 C dX2_forgetUpTo_48 rfl ?_
      obtain ⟨x7, hx7, hf⟩ := ol hf
      refine r_istore_n 50 C [(2, .int x7), (0, .ref (G.2.1 o)), (1, .int v1), (3, .int v3)] dX2_forgetUpTo_49 rfl hx7 (by decide) rfl ?_
      refine r_aload_n 51 C 1 dX2_forgetUpTo_50 rfl rfl ?_
      refine r_iload_n 52 C 3 dX2_forgetUpTo_51 rfl rfl ?_
      refine r_iload_n 53 C 2 dX2_forgetUpTo_52 rfl rfl ?_
      obtain ⟨g8, hg8, hf⟩ := ob hf
      refine r_Vv (As := [.int v3, .int v1]) 56 C (st_0 ho) rfl (c_X2_forgetVotes l G A o v3 v1 ho g _ hg8) (cwV 2 C.1.2.2.2.2 gX2_forgetUpTo_X2_forgetVotes rfl rfl rfl hd_X2_forgetVotes ⟨Nat.le_of_ble_eq_true rfl, Nat.le_of_ble_eq_true rfl⟩) rfl rfl (Nat.le_of_ble_eq_true rfl) dX2_forgetUpTo_53 rfl ?_
      obtain ⟨x9, hx9, hf⟩ := ol hf
      refine r_iinc 59 C 3 x9 [(3, .int x9), (2, .int x7), (0, .ref (G.2.1 o)), (1, .int v1)] dX2_forgetUpTo_56 rfl rfl hx9.symm (by decide) rfl ?_
      refine r_goto 35 C dX2_forgetUpTo_59 rfl ?_
      refine r_sub [(0, .ref (G.2.1 o)), (1, .int v1), (2, .int x7), (3, .int x9)] [2, 3, 1, 0] rfl ?_
      exact ih _ _ _ hf
set_option maxRecDepth 100000 in
set_option maxHeartbeats 4000000 in
theorem c_X2_forgetUpTo (l : Launch) (G : GG) (A : Nat → Prop) (o : Nat) (a1 : Int32) (ho : IsSt o) (g : Mem) (res : Int32 × Mem) (hf : f_X2_forgetUpTo o a1 g = some res) : k_Mi l yX2_forgetUpTo wsX2_forgetUpTo rm_X2_forgetUpTo G shC A [.ref (G.2.1 o), .int a1] g res.1 res.2 := by
  have hinX2 : ∀ w ∈ wsX20, w ∈ wsX2_forgetUpTo := in_X2_forgetUpTo_X2
  refine k_ofi (cc := cX2_forgetUpTo) (nL := 4) (own := RX2) (by decide +kernel) rfl rfl (by simp [lg_sl, Value.category]) ⟨rfl, rfl⟩ [(0, .ref (G.2.1 o)), (1, .int a1)] rfl ?_
  intro p e s m args below meth c C hr hk0
  rw [f_X2_forgetUpTo] at hf
  refine r_iload_n 1 C 1 dX2_forgetUpTo_0 rfl rfl ?_
  refine r_SNi (As := [.int a1]) 4 C (c_X4_isSlot l G A a1 g _ rfl) (k_cwSN C (by decide +kernel) gX2_forgetUpTo_X4_isSlot_n117 rfl ⟨rfl, rfl⟩ (by decide +kernel) (by decide +kernel) hd_X4_isSlot ⟨Nat.le_of_ble_eq_true rfl, Nat.le_of_ble_eq_true rfl⟩) rfl rfl (Nat.le_of_ble_eq_true rfl) dX2_forgetUpTo_1 rfl ?_
  refine r_if_ne 9 7 C dX2_forgetUpTo_4 rfl rfl (fun c1 => ?_) (fun c1 => ?_)
  · have hf := obt c1 hf
    refine r_iload_n 10 C 1 dX2_forgetUpTo_9 rfl rfl ?_
    refine r_aload_n 11 C 0 dX2_forgetUpTo_10 rfl rfl ?_
    obtain ⟨x2, hx2, hf⟩ := ob hf
    refine r_Vi (As := []) 14 C (st_0 ho) rfl (c_X2_prefix l G A o ho g _ hx2) (cwV 0 C.1.2.2.2.2 gX2_forgetUpTo_X2_prefix rfl rfl rfl hd_X2_prefix ⟨Nat.le_of_ble_eq_true rfl, Nat.le_of_ble_eq_true rfl⟩) rfl rfl (Nat.le_of_ble_eq_true rfl) dX2_forgetUpTo_11 rfl ?_
    refine r_icmp_le 20 17 C dX2_forgetUpTo_14 rfl rfl (fun c3 => ?_) (fun c3 => ?_)
    · have hf := oip c3 hf
      refine r_iload_n 21 C 1 dX2_forgetUpTo_20 rfl rfl ?_
      refine r_aload_n 22 C 0 dX2_forgetUpTo_21 rfl rfl ?_
      refine r_geti 25 C (k := 2) (st_0 ho) rfl hinX2 (by decide) rfl dX2_forgetUpTo_22 rfl (by decide +kernel) ?_
      refine r_icmp_gt 31 28 C dX2_forgetUpTo_25 rfl rfl (fun c4 => ?_) (fun c4 => ?_)
      · have hf := oip c4 hf
        refine r_iconst (v := 0) 32 C dX2_forgetUpTo_31 rfl (by decide) ?_
        refine r_istore_n 33 C [(2, .int 0), (0, .ref (G.2.1 o)), (1, .int a1)] dX2_forgetUpTo_32 rfl rfl (by decide) rfl ?_
        refine r_iconst (v := 0) 34 C dX2_forgetUpTo_33 rfl (by decide) ?_
        refine r_istore_n 35 C [(3, .int 0), (2, .int 0), (0, .ref (G.2.1 o)), (1, .int a1)] dX2_forgetUpTo_34 rfl rfl (by decide) rfl ?_
        refine r_sub [(0, .ref (G.2.1 o)), (1, .int a1), (2, .int 0), (3, .int 0)] [2, 3, 1, 0] rfl ?_
        refine t_X2_forgetUpTo_L35 C hr hk0 o a1 ho a1 (fun x10 g11 hf => ?_) fuel0 _ _ _ hf
        refine r_aload_n 63 C 0 dX2_forgetUpTo_62 rfl rfl ?_
        refine r_iload_n 64 C 1 dX2_forgetUpTo_63 rfl rfl ?_
        obtain ⟨g12, hg12, hf⟩ := ol hf
        refine r_puti 67 C (k := 2) (ty := .int) tyX2 tyX2_ok nmX2 (st_0 ho) rfl hinX2 (by decide) rfl rfl (by decide +kernel) rfl rfl hg12 dX2_forgetUpTo_64 rfl (by decide +kernel) ?_
        refine r_iload_n 68 C 2 dX2_forgetUpTo_67 rfl rfl ?_
        have hf := Option.some.inj hf
        subst hf
        exact r_iret C hr hk0 dX2_forgetUpTo_68
      · have hf := oin c4 hf
        refine r_bipush (v := (-5)) 30 C dX2_forgetUpTo_28 rfl (by decide) ?_
        have hf := Option.some.inj hf
        subst hf
        exact r_iret C hr hk0 dX2_forgetUpTo_30
    · have hf := oin c3 hf
      refine r_bipush (v := (-4)) 19 C dX2_forgetUpTo_17 rfl (by decide) ?_
      have hf := Option.some.inj hf
      subst hf
      exact r_iret C hr hk0 dX2_forgetUpTo_19
  · have hf := obf c1 hf
    refine r_iconst (v := (-1)) 8 C dX2_forgetUpTo_7 rfl (by decide) ?_
    have hf := Option.some.inj hf
    subst hf
    exact r_iret C hr hk0 dX2_forgetUpTo_8
theorem in_X2_chosenAbove_X2 : ∀ w ∈ wsX20, w ∈ wsX2_chosenAbove := by decide +kernel
def rm_X2_chosenAbove : Room := { frames := 0, cells := 0, slots := 0, locals := 0 }
theorem hd_X2_chosenAbove : yX2_chosenAbove.cls = RX2 ∧ yX2_chosenAbove.cls ≠ "java/lang/invoke/MethodHandle" ∧ yX2_chosenAbove.cls ≠ "java/lang/invoke/VarHandle" ∧ (parseMethodDescriptor yX2_chosenAbove.desc).map (fun d => d.parameters.length) = some 1 := by decide +kernel
set_option maxRecDepth 100000 in
set_option maxHeartbeats 4000000 in
theorem t_X2_chosenAbove_L4 {p : Program} {l : Launch} {e : Env} {s : State} {m : MethodId} {args : Array Value} {below : List Frame} {meth : Method} {c : Code} {G : GG} {A : Nat → Prop} (C : KX p s m args c cX2_chosenAbove 4 RX2 wsX2_chosenAbove G shC A) (hr : meth.sig.returnType = (some .int)) (hk0 : meth.locks = false) (o : Nat) (a1 : Int32) (ho : IsSt o) (v1 : Int32) (g : Mem) {res : Int32} {k : Int32 → Option Int32} (hk : ∀ (v2 : Int32), k v2 = some res → JJ p l e rm_X2_chosenAbove s m args below meth c 4 G shC A (MQ below (k_Qi G shC A res g) args s 0 0 A) 29 [(2, .int v2)] [] g) : ∀ (n : Nat) (v2 : Int32) (v3 : Int32), f_X2_chosenAbove_L4 k o v1 g n v2 v3 = some res → JJ p l e rm_X2_chosenAbove s m args below meth c 4 G shC A (MQ below (k_Qi G shC A res g) args s 0 0 A) 4 [(0, .ref (G.2.1 o)), (1, .int v1), (2, .int v2), (3, .int v3)] [] g := by
  have hinX2 : ∀ w ∈ wsX20, w ∈ wsX2_chosenAbove := in_X2_chosenAbove_X2
  intro n
  induction n with
  | zero =>
    intro v2 v3 hf
    rw [f_X2_chosenAbove_L4] at hf
    cases hf
  | succ n ih =>
    intro v2 v3 hf
    rw [f_X2_chosenAbove_L4] at hf
    refine r_iload_n 5 C 3 dX2_chosenAbove_4 rfl rfl ?_
    refine r_bipush (v := 16) 7 C dX2_chosenAbove_5 rfl (by decide) ?_
    refine r_icmp_gt 29 10 C dX2_chosenAbove_7 rfl rfl (fun c1 => ?_) (fun c1 => ?_)
    · have hf := oip c1 hf
      refine r_sub [(2, .int v2)] [2] rfl ?_
      exact hk _ hf
    · have hf := oin c1 hf
      refine r_aload_n 11 C 0 dX2_chosenAbove_10 rfl rfl ?_
      refine r_getr 14 C (k := 14) (st_0 ho) rfl hinX2 (by decide) rfl dX2_chosenAbove_11 rfl (by decide +kernel) ?_
      refine r_iload_n 15 C 3 dX2_chosenAbove_14 rfl rfl ?_
      obtain ⟨x2, hx2, hf⟩ := ob hf
      refine r_iaload 16 C (st_10 ho) dX2_chosenAbove_15 rfl hx2 ?_
      refine r_iload_n 17 C 1 dX2_chosenAbove_16 rfl rfl ?_
      refine r_icmp_le 23 20 C dX2_chosenAbove_17 rfl rfl (fun c3 => ?_) (fun c3 => ?_)
      · have hf := oip c3 hf
        obtain ⟨x4, hx4, hf⟩ := ol hf
        refine r_iinc 26 C 3 x4 [(3, .int x4), (0, .ref (G.2.1 o)), (1, .int v1), (2, .int v2)] dX2_chosenAbove_23 rfl rfl hx4.symm (by decide) rfl ?_
        refine r_goto 4 C dX2_chosenAbove_26 rfl ?_
        refine r_sub [(0, .ref (G.2.1 o)), (1, .int v1), (2, .int v2), (3, .int x4)] [1, 2, 3, 0] rfl ?_
        exact ih _ _ hf
      · have hf := oin c3 hf
        obtain ⟨x5, hx5, hf⟩ := ol hf
        refine r_iinc 23 C 2 x5 [(2, .int x5), (0, .ref (G.2.1 o)), (1, .int v1), (3, .int v3)] dX2_chosenAbove_20 rfl rfl hx5.symm (by decide) rfl ?_
        obtain ⟨x6, hx6, hf⟩ := ol hf
        refine r_iinc 26 C 3 x6 [(3, .int x6), (2, .int x5), (0, .ref (G.2.1 o)), (1, .int v1)] dX2_chosenAbove_23 rfl rfl hx6.symm (by decide) rfl ?_
        refine r_goto 4 C dX2_chosenAbove_26 rfl ?_
        refine r_sub [(0, .ref (G.2.1 o)), (1, .int v1), (2, .int x5), (3, .int x6)] [2, 3, 1, 0] rfl ?_
        exact ih _ _ hf
set_option maxRecDepth 100000 in
set_option maxHeartbeats 4000000 in
theorem c_X2_chosenAbove (l : Launch) (G : GG) (A : Nat → Prop) (o : Nat) (a1 : Int32) (ho : IsSt o) (g : Mem) (res : Int32) (hf : f_X2_chosenAbove o a1 g = some res) : k_Mi l yX2_chosenAbove wsX2_chosenAbove rm_X2_chosenAbove G shC A [.ref (G.2.1 o), .int a1] g res g := by
  have hinX2 : ∀ w ∈ wsX20, w ∈ wsX2_chosenAbove := in_X2_chosenAbove_X2
  refine k_ofi (cc := cX2_chosenAbove) (nL := 4) (own := RX2) (by decide +kernel) rfl rfl (by simp [lg_sl, Value.category]) ⟨rfl, rfl⟩ [(0, .ref (G.2.1 o)), (1, .int a1)] rfl ?_
  intro p e s m args below meth c C hr hk0
  rw [f_X2_chosenAbove] at hf
  refine r_iconst (v := 0) 1 C dX2_chosenAbove_0 rfl (by decide) ?_
  refine r_istore_n 2 C [(2, .int 0), (0, .ref (G.2.1 o)), (1, .int a1)] dX2_chosenAbove_1 rfl rfl (by decide) rfl ?_
  refine r_iconst (v := 1) 3 C dX2_chosenAbove_2 rfl (by decide) ?_
  refine r_istore_n 4 C [(3, .int 1), (2, .int 0), (0, .ref (G.2.1 o)), (1, .int a1)] dX2_chosenAbove_3 rfl rfl (by decide) rfl ?_
  refine r_sub [(0, .ref (G.2.1 o)), (1, .int a1), (2, .int 0), (3, .int 1)] [2, 3, 1, 0] rfl ?_
  refine t_X2_chosenAbove_L4 C hr hk0 o a1 ho a1 g (fun x7 hf => ?_) fuel0 _ _ hf
  refine r_iload_n 30 C 0 dX2_chosenAbove_29 rfl rfl ?_
  have hf := Option.some.inj hf
  subst hf
  exact r_iret C hr hk0 dX2_chosenAbove_30
theorem in_X2_offersOf_X2 : ∀ w ∈ wsX20, w ∈ wsX2_offersOf := by decide +kernel
def rm_X2_offersOf : Room := { frames := 1, cells := 0, slots := 0, locals := 21 }
theorem hd_X2_offersOf : yX2_offersOf.cls = RX2 ∧ yX2_offersOf.cls ≠ "java/lang/invoke/MethodHandle" ∧ yX2_offersOf.cls ≠ "java/lang/invoke/VarHandle" ∧ (parseMethodDescriptor yX2_offersOf.desc).map (fun d => d.parameters.length) = some 1 := by decide +kernel
set_option maxRecDepth 100000 in
set_option maxHeartbeats 4000000 in
theorem t_X2_offersOf_L4 {p : Program} {l : Launch} {e : Env} {s : State} {m : MethodId} {args : Array Value} {below : List Frame} {meth : Method} {c : Code} {G : GG} {A : Nat → Prop} (C : KX p s m args c cX2_offersOf 4 RX2 wsX2_offersOf G shC A) (hr : meth.sig.returnType = (some .int)) (hk0 : meth.locks = false) (o : Nat) (a1 : Int32) (ho : IsSt o) (v1 : Int32) (g : Mem) {res : Int32} {k : Int32 → Option Int32} (hk : ∀ (v2 : Int32), k v2 = some res → JJ p l e rm_X2_offersOf s m args below meth c 4 G shC A (MQ below (k_Qi G shC A res g) args s 0 0 A) 32 [(2, .int v2)] [] g) : ∀ (n : Nat) (v2 : Int32) (v3 : Int32), f_X2_offersOf_L4 k o v1 g n v2 v3 = some res → JJ p l e rm_X2_offersOf s m args below meth c 4 G shC A (MQ below (k_Qi G shC A res g) args s 0 0 A) 4 [(0, .ref (G.2.1 o)), (1, .int v1), (2, .int v2), (3, .int v3)] [] g := by
  have hinX2 : ∀ w ∈ wsX20, w ∈ wsX2_offersOf := in_X2_offersOf_X2
  intro n
  induction n with
  | zero =>
    intro v2 v3 hf
    rw [f_X2_offersOf_L4] at hf
    cases hf
  | succ n ih =>
    intro v2 v3 hf
    rw [f_X2_offersOf_L4] at hf
    refine r_iload_n 5 C 3 dX2_offersOf_4 rfl rfl ?_
    refine r_bipush (v := 16) 7 C dX2_offersOf_5 rfl (by decide) ?_
    refine r_icmp_gt 32 10 C dX2_offersOf_7 rfl rfl (fun c1 => ?_) (fun c1 => ?_)
    · have hf := oip c1 hf
      refine r_sub [(2, .int v2)] [2] rfl ?_
      exact hk _ hf
    · have hf := oin c1 hf
      refine r_aload_n 11 C 0 dX2_offersOf_10 rfl rfl ?_
      refine r_getr 14 C (k := 11) (st_0 ho) rfl hinX2 (by decide) rfl dX2_offersOf_11 rfl (by decide +kernel) ?_
      refine r_iload_n 15 C 1 dX2_offersOf_14 rfl rfl ?_
      refine r_iload_n 16 C 3 dX2_offersOf_15 rfl rfl ?_
      refine r_SNi (As := [.int v1, .int v3]) 19 C (c_X4_cell l G A v1 v3 g _ rfl) (k_cwSN C (by decide +kernel) gX2_offersOf_X4_cell_n104 rfl ⟨rfl, rfl⟩ (by decide +kernel) (by decide +kernel) hd_X4_cell ⟨Nat.le_of_ble_eq_true rfl, Nat.le_of_ble_eq_true rfl⟩) rfl rfl (Nat.le_of_ble_eq_true rfl) dX2_offersOf_16 rfl ?_
      obtain ⟨x2, hx2, hf⟩ := ob hf
      refine r_iaload 20 C (st_7 ho) dX2_offersOf_19 rfl hx2 ?_
      refine r_if_eq 26 23 C dX2_offersOf_20 rfl rfl (fun c3 => ?_) (fun c3 => ?_)
      · have hf := oip c3 hf
        obtain ⟨x4, hx4, hf⟩ := ol hf
        refine r_iinc 29 C 3 x4 [(3, .int x4), (0, .ref (G.2.1 o)), (1, .int v1), (2, .int v2)] dX2_offersOf_26 rfl rfl hx4.symm (by decide) rfl ?_
        refine r_goto 4 C dX2_offersOf_29 rfl ?_
        refine r_sub [(0, .ref (G.2.1 o)), (1, .int v1), (2, .int v2), (3, .int x4)] [1, 2, 3, 0] rfl ?_
        exact ih _ _ hf
      · have hf := oin c3 hf
        obtain ⟨x5, hx5, hf⟩ := ol hf
        refine r_iinc 26 C 2 x5 [(2, .int x5), (0, .ref (G.2.1 o)), (1, .int v1), (3, .int v3)] dX2_offersOf_23 rfl rfl hx5.symm (by decide) rfl ?_
        obtain ⟨x6, hx6, hf⟩ := ol hf
        refine r_iinc 29 C 3 x6 [(3, .int x6), (2, .int x5), (0, .ref (G.2.1 o)), (1, .int v1)] dX2_offersOf_26 rfl rfl hx6.symm (by decide) rfl ?_
        refine r_goto 4 C dX2_offersOf_29 rfl ?_
        refine r_sub [(0, .ref (G.2.1 o)), (1, .int v1), (2, .int x5), (3, .int x6)] [2, 3, 1, 0] rfl ?_
        exact ih _ _ hf
set_option maxRecDepth 100000 in
set_option maxHeartbeats 4000000 in
theorem c_X2_offersOf (l : Launch) (G : GG) (A : Nat → Prop) (o : Nat) (a1 : Int32) (ho : IsSt o) (g : Mem) (res : Int32) (hf : f_X2_offersOf o a1 g = some res) : k_Mi l yX2_offersOf wsX2_offersOf rm_X2_offersOf G shC A [.ref (G.2.1 o), .int a1] g res g := by
  have hinX2 : ∀ w ∈ wsX20, w ∈ wsX2_offersOf := in_X2_offersOf_X2
  refine k_ofi (cc := cX2_offersOf) (nL := 4) (own := RX2) (by decide +kernel) rfl rfl (by simp [lg_sl, Value.category]) ⟨rfl, rfl⟩ [(0, .ref (G.2.1 o)), (1, .int a1)] rfl ?_
  intro p e s m args below meth c C hr hk0
  rw [f_X2_offersOf] at hf
  refine r_iconst (v := 0) 1 C dX2_offersOf_0 rfl (by decide) ?_
  refine r_istore_n 2 C [(2, .int 0), (0, .ref (G.2.1 o)), (1, .int a1)] dX2_offersOf_1 rfl rfl (by decide) rfl ?_
  refine r_iconst (v := 1) 3 C dX2_offersOf_2 rfl (by decide) ?_
  refine r_istore_n 4 C [(3, .int 1), (2, .int 0), (0, .ref (G.2.1 o)), (1, .int a1)] dX2_offersOf_3 rfl rfl (by decide) rfl ?_
  refine r_sub [(0, .ref (G.2.1 o)), (1, .int a1), (2, .int 0), (3, .int 1)] [2, 3, 1, 0] rfl ?_
  refine t_X2_offersOf_L4 C hr hk0 o a1 ho a1 g (fun x7 hf => ?_) fuel0 _ _ hf
  refine r_iload_n 33 C 0 dX2_offersOf_32 rfl rfl ?_
  have hf := Option.some.inj hf
  subst hf
  exact r_iret C hr hk0 dX2_offersOf_33
def rm_X4_isSize : Room := { frames := 0, cells := 0, slots := 0, locals := 0 }
theorem hd_X4_isSize : yX4_isSize.cls ≠ "java/lang/invoke/MethodHandle" ∧ yX4_isSize.cls ≠ "java/lang/invoke/VarHandle" ∧ (parseMethodDescriptor yX4_isSize.desc).map (fun d => d.parameters.length) = some 1 := by decide +kernel
set_option maxRecDepth 100000 in
set_option maxHeartbeats 4000000 in
theorem c_X4_isSize (l : Launch) (G : GG) (A : Nat → Prop) (a1 : Int32)  (g : Mem) (res : Bool) (hf : f_X4_isSize a1 = res) : k_Mi l yX4_isSize wsX4_isSize rm_X4_isSize G shC A [.int a1] g (bI res) g := by
  refine k_ofi (cc := cX4_isSize) (nL := 1) (own := RX4) (by decide +kernel) rfl rfl (by simp [lg_sl, Value.category]) ⟨rfl, rfl⟩ [(0, .int a1)] rfl ?_
  intro p e s m args below meth c C hr hk0
  rw [f_X4_isSize] at hf
  refine r_iload_n 1 C 0 dX4_isSize_0 rfl rfl ?_
  refine r_iconst (v := 1) 2 C dX4_isSize_1 rfl (by decide) ?_
  refine r_icmp_lt 15 5 C dX4_isSize_2 rfl rfl (fun c1 => ?_) (fun c1 => ?_)
  · have hf := oip c1 hf
    refine r_iconst (v := 0) 16 C dX4_isSize_15 rfl (by decide) ?_
    subst hf
    exact r_zret C hr hk0 false rfl dX4_isSize_16
  · have hf := oin c1 hf
    refine r_iload_n 6 C 0 dX4_isSize_5 rfl rfl ?_
    refine r_bipush (v := 6) 8 C dX4_isSize_6 rfl (by decide) ?_
    refine r_icmp_gt 15 11 C dX4_isSize_8 rfl rfl (fun c2 => ?_) (fun c2 => ?_)
    · have hf := oip c2 hf
      refine r_iconst (v := 0) 16 C dX4_isSize_15 rfl (by decide) ?_
      subst hf
      exact r_zret C hr hk0 false rfl dX4_isSize_16
    · have hf := oin c2 hf
      refine r_iconst (v := 1) 12 C dX4_isSize_11 rfl (by decide) ?_
      refine r_goto 16 C dX4_isSize_12 rfl ?_
      subst hf
      exact r_zret C hr hk0 true rfl dX4_isSize_16
