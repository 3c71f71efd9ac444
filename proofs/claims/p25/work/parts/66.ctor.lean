/-! constructor: the class itself -/
abbrev W4_0 (h0 : Nat) : va_W := [(h0, .inr (4, [.null, .null, .int 0, .null, .null, .null, .int 0, .int 0, .int 0, .int 0]))]
def adC (h0 : Nat) (a0 a1 ah : Nat → Nat) (qt qs : Nat) (ao : Nat → Nat) : Nat → Nat := fun n => if n = 0 then h0 else if n < 13 then a0 (n - 1) else if n < 25 then a1 (n - 13) else if n < 87 then ah (n - 25) else if n = 87 then qt else if n = 88 then qs else ao (n - 89)
theorem glueH2 (G : GG) (ah : Nat → Nat) : (k_wl (wA G ah) gHI 0 shH) = [(ah 0, .inr (0, [.ref (ah 1), .int 0, .int 0])), (ah 1, .inl (G.2.2.2.2.1, 5, .inr (.inr (.inr (.inr (fun j => some (ah (2 + 12 * j))))))))] ++ (k_wl (wA G ah) gHI 2 (stSh 2) ++ (k_wl (wA G ah) gHI 14 (stSh 14) ++ (k_wl (wA G ah) gHI 26 (stSh 26) ++ (k_wl (wA G ah) gHI 38 (stSh 38) ++ k_wl (wA G ah) gHI 50 (stSh 50))))) := by
  unfold shH
  rw [k_wl_app, k_wl_app, k_wl_app, k_wl_app, k_wl_app]
  rfl
set_option maxHeartbeats 8000000 in
set_option maxRecDepth 100000 in
theorem glueC (G : GG) (h0 : Nat) (a0 a1 ah : Nat → Nat) (qt qs : Nat) (ao : Nat → Nat) : k_wl (wA G (adC h0 a0 a1 ah qt qs ao)) gCI 0 shC = [(h0, .inr (4, [.ref (a0 0), .ref (a1 0), .int 0, .ref (ah 0), .ref qt, .ref (ao 0), .int 0, .int 0, .int 0, .int 0]))] ++ ((k_wl (wA G a0) g2I 0 (stSh 0)) ++ ((k_wl (wA G a1) g2I 0 (stSh 0)) ++ ([(ah 0, .inr (0, [.ref (ah 1), .int 0, .int 0])), (ah 1, .inl (G.2.2.2.2.1, 5, .inr (.inr (.inr (.inr (fun j => some ((adC h0 a0 a1 ah qt qs ao) (rowOf j))))))))] ++ (k_wl (wA G ah) gHI 2 (stSh 2) ++ (k_wl (wA G ah) gHI 14 (stSh 14) ++ (k_wl (wA G ah) gHI 26 (stSh 26) ++ (k_wl (wA G ah) gHI 38 (stSh 38) ++ (k_wl (wA G ah) gHI 50 (stSh 50) ++ (W3_1 G qt qs ++ (k_wl (wA G ao) g1I 0 shO)))))))))) := by
  unfold shC
  rw [k_wl_app, k_wl_app, k_wl_app, k_wl_app, k_wl_app, k_wl_app, k_wl_app, k_wl_app, k_wl_app]
  refine congr (congrArg _ rfl) (congr (congrArg _ rfl) (congr (congrArg _ rfl) (congr (congrArg _ rfl) (congr (congrArg _ rfl) (congr (congrArg _ rfl) (congr (congrArg _ rfl) (congr (congrArg _ rfl) (congr (congrArg _ rfl) rfl))))))))
set_option maxHeartbeats 8000000 in
set_option maxRecDepth 100000 in
theorem c_X4_init (l : Launch) (G : GG) (h0 sz : Nat) : Met l yX4_init wsX4_init { frames := 3, cells := 92, slots := 6343, locals := 53 } (va_Pc [.ref h0] (fun U => U.heap.size = sz ∧ va_P G.1 vwCl (W4_0 h0) U.heap ∧ va_K G.1 vwCl (k_ty G) U ∧ va_D (fun _ => True) (W4_0 h0) ∧ k_NW U ∧ va_AO RX2 U)) (va_Qv (fun ad : Nat → Nat => ad 0 = h0) (fun ad U => va_P G.1 vwCl (k_wl (wA G ad) gCI 0 shC) U.heap ∧ va_K G.1 vwCl (k_ty G) U ∧ va_D (va_A (W4_0 h0) sz) (k_wl (wA G ad) gCI 0 shC)) (va_A (W4_0 h0) sz)) 92 6343 (va_A (W4_0 h0) sz) := by
  refine Met.ofW (cc := cX4_init) (maxL := 1) (ret := none) (by decide) rfl ?_
  intro p e s m args below meth c s₁ B hml hv
  obtain ⟨rfl, hsz, hP, hK, hD0, hNW, hAO⟩ := hv
  have hx := B.exec
  have hb := B.bytes
  have hr := B.returns
  have hts := atoms_spec (ws := wsX4_init) B.pre
  have hown : s.vm.findClass RX4 = some m.cls := findClass_of_methodNamed B.named
  have hlocks := B.notSynchronized
  have hin : meth.name = "<init>" := (name_of_methodNamed B.named B.method).1
  subst hsz
  have hD := hD0.self (sz := s.heap.size)
  generalize hAe : va_A (W4_0 h0) s.heap.size = A at hD ⊢
  have hA : ∀ q : Nat, s.heap.size ≤ q → A q := fun q h => by rw [← hAe]; exact Or.inr h
  have hS : va_S A s.heap s.heap [] := va_S.rf
  have hP : va_P G.1 vwCl (W4_0 h0) s.heap := hP
  have hl := lv_entry ([.ref h0]) (n := 1) (Nat.le_of_ble_eq_true rfl)
  rw [lg_entry_eq]
  generalize (lg_sl ([.ref h0]) ++ List.replicate (1 - (lg_sl ([.ref h0])).length) Slot.unset).toArray = ls at hl ⊢
  have hl : lv_has ls 1 [(0, .ref h0)] := hl
  refine lv_aload_n hx hb dX4_init_0 rfl (lv_at hl 0 rfl) ?_
  refine W.objInit hx hb hown (hts (.methodLink RX4 1 objectInit) (by decide +kernel)) (hts (.instanceMethod objectInit) (by decide +kernel)) (hts (.code objectInit ⟨#[0xb1]⟩ 1 none) (by decide +kernel)) rfl (by rw [hml]; exact hl.1) rfl dX4_init_1 (Nat.le_of_ble_eq_true rfl) (Nat.le_of_ble_eq_true rfl) ?_
  refine W.eq (g2 := F0 m 4 ls []) rfl ?_
  refine lv_aload_n hx hb dX4_init_4 rfl (lv_at hl 0 rfl) ?_
  refine va_new (ci := 2) (fs := fs2) (C := RX2) (T := TX2) (N := 16) hx hb hts (fun w h => by simp only [wsX4_init, List.mem_cons, List.mem_append]; simp only [h, true_or, or_true]) tyX2 tyX2_ok hown (hts (.classLink RX4 7 RX2) (by decide +kernel)) (hts (.instantiable RX2 16) (by decide +kernel)) (hts (.initialized RX2) (by decide +kernel)) hK hP hD hS hA rfl dfX2 (Nat.le_of_ble_eq_true rfl) (Nat.le_of_ble_eq_true rfl) dX4_init_5 (fun q0 H hP hD hS => ?_)
  refine lv_dup hx hb dX4_init_8 rfl ?_
  refine gw_callv (X := [(h0, .inr (4, [.null, .null, .int 0, .null, .null, .null, .int 0, .int 0, .int 0, .int 0]))]) (c0 := (q0, .inr (2, fs2))) (va_runIN (As := []) (rest := [.ref q0, .ref h0]) ⟨hx, hb, hml, hown, hts⟩ (c_X2_init l G q0 H.size) ⟨va_cnB 0 hts gX4_init_X2_init_n9 rfl rfl rfl (hNW (RX4, 9, yX2_init) (by decide +kernel)) (hts (.initialized RX2) (by decide +kernel)) (by decide +kernel) ⟨Nat.le_of_ble_eq_true rfl, Nat.le_of_ble_eq_true rfl⟩, rfl, hts (.instanceMethod yX2_init) (by decide +kernel)⟩ (gw_pre (gw_last hP) hK) rfl rfl hl.1 rfl (lv_room (Nat.le_of_ble_eq_true rfl)) dX4_init_9 ⟨Nat.le_of_ble_eq_true rfl, Nat.le_of_ble_eq_true rfl⟩) hP hD hS hA (fun a0 H locs ha0 hP hD hS => ?_)
  rw [← ha0]
  refine va_putF (D := G.1) (ci := 4) (v := .ref (a0 0)) (ty := tyX4 0) (C := RX4) (T := TX4) (N := 10) hx hb hts (fun w h => by simp only [wsX4_init, List.mem_cons, List.mem_append]; simp only [h, true_or, or_true]) tyX4 tyX4_ok nmX4 hown hK hP hD hS 0 rfl rfl 0 (by decide) (hts (.fieldLink RX4 10 "AgreedSlots" "now" "LAgreedSlots$State;") (by decide +kernel)) (fun _ h9 => h9) rfl hin rfl (tyX4_ok 0 (by decide)) rfl rfl (Nat.le_of_ble_eq_true rfl) dX4_init_12 (fun H locs hP hD hS => ?_)
  have hP : va_P G.1 vwCl ([(h0, .inr (4, [.ref (a0 0), .null, .int 0, .null, .null, .null, .int 0, .int 0, .int 0, .int 0]))] ++ (k_wl (wA G a0) g2I 0 (stSh 0))) H := hP
  have hD : va_D A ([(h0, .inr (4, [.ref (a0 0), .null, .int 0, .null, .null, .null, .int 0, .int 0, .int 0, .int 0]))] ++ (k_wl (wA G a0) g2I 0 (stSh 0))) := hD
  refine lv_aload_n hx hb dX4_init_15 rfl (lv_at hl 0 rfl) ?_
  refine va_new (ci := 2) (fs := fs2) (C := RX2) (T := TX2) (N := 16) hx hb hts (fun w h => by simp only [wsX4_init, List.mem_cons, List.mem_append]; simp only [h, true_or, or_true]) tyX2 tyX2_ok hown (hts (.classLink RX4 7 RX2) (by decide +kernel)) (hts (.instantiable RX2 16) (by decide +kernel)) (hts (.initialized RX2) (by decide +kernel)) hK hP hD hS hA rfl dfX2 (Nat.le_of_ble_eq_true rfl) (Nat.le_of_ble_eq_true rfl) dX4_init_16 (fun q1 H hP hD hS => ?_)
  refine lv_dup hx hb dX4_init_19 rfl ?_
  refine gw_callv (X := ([(h0, .inr (4, [.ref (a0 0), .null, .int 0, .null, .null, .null, .int 0, .int 0, .int 0, .int 0]))] ++ (k_wl (wA G a0) g2I 0 (stSh 0)))) (c0 := (q1, .inr (2, fs2))) (va_runIN (As := []) (rest := [.ref q1, .ref h0]) ⟨hx, hb, hml, hown, hts⟩ (c_X2_init l G q1 H.size) ⟨va_cnB 0 hts gX4_init_X2_init_n9 rfl rfl rfl (hNW (RX4, 9, yX2_init) (by decide +kernel)) (hts (.initialized RX2) (by decide +kernel)) (by decide +kernel) ⟨Nat.le_of_ble_eq_true rfl, Nat.le_of_ble_eq_true rfl⟩, rfl, hts (.instanceMethod yX2_init) (by decide +kernel)⟩ (gw_pre (gw_last hP) hK) rfl rfl hl.1 rfl (lv_room (Nat.le_of_ble_eq_true rfl)) dX4_init_20 ⟨Nat.le_of_ble_eq_true rfl, Nat.le_of_ble_eq_true rfl⟩) hP hD hS hA (fun a1 H locs ha1 hP hD hS => ?_)
  rw [← ha1]
  refine va_putF (D := G.1) (ci := 4) (v := .ref (a1 0)) (ty := tyX4 1) (C := RX4) (T := TX4) (N := 10) hx hb hts (fun w h => by simp only [wsX4_init, List.mem_cons, List.mem_append]; simp only [h, true_or, or_true]) tyX4 tyX4_ok nmX4 hown hK hP hD hS 0 rfl rfl 1 (by decide) (hts (.fieldLink RX4 16 "AgreedSlots" "snapshot" "LAgreedSlots$State;") (by decide +kernel)) (fun _ h9 => h9) rfl hin rfl (tyX4_ok 1 (by decide)) rfl rfl (Nat.le_of_ble_eq_true rfl) dX4_init_23 (fun H locs hP hD hS => ?_)
  have hP : va_P G.1 vwCl (([(h0, .inr (4, [.ref (a0 0), .ref (a1 0), .int 0, .null, .null, .null, .int 0, .int 0, .int 0, .int 0]))] ++ (k_wl (wA G a0) g2I 0 (stSh 0))) ++ (k_wl (wA G a1) g2I 0 (stSh 0))) H := hP
  have hD : va_D A (([(h0, .inr (4, [.ref (a0 0), .ref (a1 0), .int 0, .null, .null, .null, .int 0, .int 0, .int 0, .int 0]))] ++ (k_wl (wA G a0) g2I 0 (stSh 0))) ++ (k_wl (wA G a1) g2I 0 (stSh 0))) := hD
  refine lv_aload_n hx hb dX4_init_26 rfl (lv_at hl 0 rfl) ?_
  refine va_new (ci := 0) (fs := [.null, .int 0, .int 0]) (C := RX0) (T := TX0) (N := 3) hx hb hts (fun w h => by simp only [wsX4_init, List.mem_cons, List.mem_append]; simp only [h, true_or, or_true]) tyX0 tyX0_ok hown (hts (.classLink RX4 19 RX0) (by decide +kernel)) (hts (.instantiable RX0 3) (by decide +kernel)) (hts (.initialized RX0) (by decide +kernel)) hK hP hD hS hA rfl dfX0 (Nat.le_of_ble_eq_true rfl) (Nat.le_of_ble_eq_true rfl) dX4_init_27 (fun q2 H hP hD hS => ?_)
  refine lv_dup hx hb dX4_init_30 rfl ?_
  refine gw_callv (X := (([(h0, .inr (4, [.ref (a0 0), .ref (a1 0), .int 0, .null, .null, .null, .int 0, .int 0, .int 0, .int 0]))] ++ (k_wl (wA G a0) g2I 0 (stSh 0))) ++ (k_wl (wA G a1) g2I 0 (stSh 0)))) (c0 := (q2, .inr (0, [.null, .int 0, .int 0]))) (va_runI (As := []) (rest := [.ref q2, .ref h0]) ⟨hx, hb, hml, hown, hts⟩ (c_X0_init l G q2 H.size) (cwI 0 hts gX4_init_X0_init rfl rfl rfl (hts (.initialized RX0) (by decide +kernel)) (hts (.methodLink RX4 21 yX0_init) (by decide +kernel)) (hts (.instanceMethod yX0_init) (by decide +kernel)) rfl (by decide +kernel) ⟨Nat.le_of_ble_eq_true rfl, Nat.le_of_ble_eq_true rfl⟩) (gw_preN (gw_last hP) hK hNW hAO) rfl rfl hl.1 rfl (lv_room (Nat.le_of_ble_eq_true rfl)) dX4_init_31 ⟨Nat.le_of_ble_eq_true rfl, Nat.le_of_ble_eq_true rfl⟩) hP hD hS hA (fun ah H locs hah hP hD hS => ?_)
  rw [← hah]
  refine va_putF (D := G.1) (ci := 4) (v := .ref (ah 0)) (ty := tyX4 3) (C := RX4) (T := TX4) (N := 10) hx hb hts (fun w h => by simp only [wsX4_init, List.mem_cons, List.mem_append]; simp only [h, true_or, or_true]) tyX4 tyX4_ok nmX4 hown hK hP hD hS 0 rfl rfl 3 (by decide) (hts (.fieldLink RX4 22 "AgreedSlots" "history" "LAgreedSlots$History;") (by decide +kernel)) (fun _ h9 => h9) rfl hin rfl (tyX4_ok 3 (by decide)) rfl rfl (Nat.le_of_ble_eq_true rfl) dX4_init_34 (fun H locs hP hD hS => ?_)
  have hP : va_P G.1 vwCl ((([(h0, .inr (4, [.ref (a0 0), .ref (a1 0), .int 0, .ref (ah 0), .null, .null, .int 0, .int 0, .int 0, .int 0]))] ++ (k_wl (wA G a0) g2I 0 (stSh 0))) ++ (k_wl (wA G a1) g2I 0 (stSh 0))) ++ (k_wl (wA G ah) gHI 0 shH)) H := hP
  have hD : va_D A ((([(h0, .inr (4, [.ref (a0 0), .ref (a1 0), .int 0, .ref (ah 0), .null, .null, .int 0, .int 0, .int 0, .int 0]))] ++ (k_wl (wA G a0) g2I 0 (stSh 0))) ++ (k_wl (wA G a1) g2I 0 (stSh 0))) ++ (k_wl (wA G ah) gHI 0 shH)) := hD
  refine lv_aload_n hx hb dX4_init_37 rfl (lv_at hl 0 rfl) ?_
  refine va_new (ci := 3) (fs := [.null, .int 0]) (C := RX3) (T := TX3) (N := 2) hx hb hts (fun w h => by simp only [wsX4_init, List.mem_cons, List.mem_append]; simp only [h, true_or, or_true]) tyX3 tyX3_ok hown (hts (.classLink RX4 26 RX3) (by decide +kernel)) (hts (.instantiable RX3 2) (by decide +kernel)) (hts (.initialized RX3) (by decide +kernel)) hK hP hD hS hA rfl dfX3 (Nat.le_of_ble_eq_true rfl) (Nat.le_of_ble_eq_true rfl) dX4_init_38 (fun qt H hP hD hS => ?_)
  refine lv_dup hx hb dX4_init_41 rfl ?_
  refine gw_callv (X := ((([(h0, .inr (4, [.ref (a0 0), .ref (a1 0), .int 0, .ref (ah 0), .null, .null, .int 0, .int 0, .int 0, .int 0]))] ++ (k_wl (wA G a0) g2I 0 (stSh 0))) ++ (k_wl (wA G a1) g2I 0 (stSh 0))) ++ (k_wl (wA G ah) gHI 0 shH))) (c0 := (qt, .inr (3, [.null, .int 0]))) (va_runIN (As := []) (rest := [.ref qt, .ref h0]) ⟨hx, hb, hml, hown, hts⟩ (c_X3_init l G qt H.size) ⟨va_cnB 0 hts gX4_init_X3_init_n28 rfl rfl rfl (hNW (RX4, 28, yX3_init) (by decide +kernel)) (hts (.initialized RX3) (by decide +kernel)) (by decide +kernel) ⟨Nat.le_of_ble_eq_true rfl, Nat.le_of_ble_eq_true rfl⟩, rfl, hts (.instanceMethod yX3_init) (by decide +kernel)⟩ (gw_pre (gw_last hP) hK) rfl rfl hl.1 rfl (lv_room (Nat.le_of_ble_eq_true rfl)) dX4_init_42 ⟨Nat.le_of_ble_eq_true rfl, Nat.le_of_ble_eq_true rfl⟩) hP hD hS hA (fun qs H locs hqs hP hD hS => ?_)
  refine va_putF (D := G.1) (ci := 4) (v := .ref qt) (ty := tyX4 4) (C := RX4) (T := TX4) (N := 10) hx hb hts (fun w h => by simp only [wsX4_init, List.mem_cons, List.mem_append]; simp only [h, true_or, or_true]) tyX4 tyX4_ok nmX4 hown hK hP hD hS 0 rfl rfl 4 (by decide) (hts (.fieldLink RX4 29 "AgreedSlots" "text" "LAgreedSlots$Text;") (by decide +kernel)) (fun _ h9 => h9) rfl hin rfl (tyX4_ok 4 (by decide)) rfl rfl (Nat.le_of_ble_eq_true rfl) dX4_init_45 (fun H locs hP hD hS => ?_)
  have hP : va_P G.1 vwCl (((([(h0, .inr (4, [.ref (a0 0), .ref (a1 0), .int 0, .ref (ah 0), .ref qt, .null, .int 0, .int 0, .int 0, .int 0]))] ++ (k_wl (wA G a0) g2I 0 (stSh 0))) ++ (k_wl (wA G a1) g2I 0 (stSh 0))) ++ (k_wl (wA G ah) gHI 0 shH)) ++ W3_1 G qt qs) H := hP
  have hD : va_D A (((([(h0, .inr (4, [.ref (a0 0), .ref (a1 0), .int 0, .ref (ah 0), .ref qt, .null, .int 0, .int 0, .int 0, .int 0]))] ++ (k_wl (wA G a0) g2I 0 (stSh 0))) ++ (k_wl (wA G a1) g2I 0 (stSh 0))) ++ (k_wl (wA G ah) gHI 0 shH)) ++ W3_1 G qt qs) := hD
  refine lv_aload_n hx hb dX4_init_48 rfl (lv_at hl 0 rfl) ?_
  refine va_new (ci := 1) (fs := [.null, .null, .null, .int 0, .int 0, .int 0]) (C := RX1) (T := TX1) (N := 6) hx hb hts (fun w h => by simp only [wsX4_init, List.mem_cons, List.mem_append]; simp only [h, true_or, or_true]) tyX1 tyX1_ok hown (hts (.classLink RX4 33 RX1) (by decide +kernel)) (hts (.instantiable RX1 6) (by decide +kernel)) (hts (.initialized RX1) (by decide +kernel)) hK hP hD hS hA rfl dfX1 (Nat.le_of_ble_eq_true rfl) (Nat.le_of_ble_eq_true rfl) dX4_init_49 (fun q4 H hP hD hS => ?_)
  refine lv_dup hx hb dX4_init_52 rfl ?_
  refine gw_callv (X := (((([(h0, .inr (4, [.ref (a0 0), .ref (a1 0), .int 0, .ref (ah 0), .ref qt, .null, .int 0, .int 0, .int 0, .int 0]))] ++ (k_wl (wA G a0) g2I 0 (stSh 0))) ++ (k_wl (wA G a1) g2I 0 (stSh 0))) ++ (k_wl (wA G ah) gHI 0 shH)) ++ W3_1 G qt qs)) (c0 := (q4, .inr (1, [.null, .null, .null, .int 0, .int 0, .int 0]))) (va_runIN (As := []) (rest := [.ref q4, .ref h0]) ⟨hx, hb, hml, hown, hts⟩ (c_X1_init l G q4 H.size) ⟨va_cnB 0 hts gX4_init_X1_init_n35 rfl rfl rfl (hNW (RX4, 35, yX1_init) (by decide +kernel)) (hts (.initialized RX1) (by decide +kernel)) (by decide +kernel) ⟨Nat.le_of_ble_eq_true rfl, Nat.le_of_ble_eq_true rfl⟩, rfl, hts (.instanceMethod yX1_init) (by decide +kernel)⟩ (gw_pre (gw_last hP) hK) rfl rfl hl.1 rfl (lv_room (Nat.le_of_ble_eq_true rfl)) dX4_init_53 ⟨Nat.le_of_ble_eq_true rfl, Nat.le_of_ble_eq_true rfl⟩) hP hD hS hA (fun ao H locs hao hP hD hS => ?_)
  rw [← hao]
  refine va_putF (D := G.1) (ci := 4) (v := .ref (ao 0)) (ty := tyX4 5) (C := RX4) (T := TX4) (N := 10) hx hb hts (fun w h => by simp only [wsX4_init, List.mem_cons, List.mem_append]; simp only [h, true_or, or_true]) tyX4 tyX4_ok nmX4 hown hK hP hD hS 0 rfl rfl 5 (by decide) (hts (.fieldLink RX4 36 "AgreedSlots" "orders" "LAgreedSlots$Orders;") (by decide +kernel)) (fun _ h9 => h9) rfl hin rfl (tyX4_ok 5 (by decide)) rfl rfl (Nat.le_of_ble_eq_true rfl) dX4_init_56 (fun H locs hP hD hS => ?_)
  have hP : va_P G.1 vwCl ((((([(h0, .inr (4, [.ref (a0 0), .ref (a1 0), .int 0, .ref (ah 0), .ref qt, .ref (ao 0), .int 0, .int 0, .int 0, .int 0]))] ++ (k_wl (wA G a0) g2I 0 (stSh 0))) ++ (k_wl (wA G a1) g2I 0 (stSh 0))) ++ (k_wl (wA G ah) gHI 0 shH)) ++ W3_1 G qt qs) ++ (k_wl (wA G ao) g1I 0 shO)) H := hP
  have hD : va_D A ((((([(h0, .inr (4, [.ref (a0 0), .ref (a1 0), .int 0, .ref (ah 0), .ref qt, .ref (ao 0), .int 0, .int 0, .int 0, .int 0]))] ++ (k_wl (wA G a0) g2I 0 (stSh 0))) ++ (k_wl (wA G a1) g2I 0 (stSh 0))) ++ (k_wl (wA G ah) gHI 0 shH)) ++ W3_1 G qt qs) ++ (k_wl (wA G ao) g1I 0 shO)) := hD
  have hX : ((((([(h0, .inr (4, [.ref (a0 0), .ref (a1 0), .int 0, .ref (ah 0), .ref qt, .ref (ao 0), .int 0, .int 0, .int 0, .int 0]))] ++ (k_wl (wA G a0) g2I 0 (stSh 0))) ++ (k_wl (wA G a1) g2I 0 (stSh 0))) ++ (k_wl (wA G ah) gHI 0 shH)) ++ W3_1 G qt qs) ++ (k_wl (wA G ao) g1I 0 shO)) = [(h0, .inr (4, [.ref (a0 0), .ref (a1 0), .int 0, .ref (ah 0), .ref qt, .ref (ao 0), .int 0, .int 0, .int 0, .int 0]))] ++ ((k_wl (wA G a0) g2I 0 (stSh 0)) ++ ((k_wl (wA G a1) g2I 0 (stSh 0)) ++ ([(ah 0, .inr (0, [.ref (ah 1), .int 0, .int 0])), (ah 1, .inl (G.2.2.2.2.1, 5, .inr (.inr (.inr (.inr (fun j => some (ah (2 + 12 * j))))))))] ++ (k_wl (wA G ah) gHI 2 (stSh 2) ++ (k_wl (wA G ah) gHI 14 (stSh 14) ++ (k_wl (wA G ah) gHI 26 (stSh 26) ++ (k_wl (wA G ah) gHI 38 (stSh 38) ++ (k_wl (wA G ah) gHI 50 (stSh 50) ++ (W3_1 G qt qs ++ (k_wl (wA G ao) g1I 0 shO)))))))))) := by
    rw [glueH2]
    simp only [List.append_assoc]
  rw [hX] at hP hD
  have hc : vp_cell G.2.2.2.2.1 (5, .inr (.inr (.inr (.inr (fun j => some (ah (2 + 12 * j))))))) = vp_cell G.2.2.2.2.1 (5, .inr (.inr (.inr (.inr (fun j => some ((adC h0 a0 a1 ah qt qs ao) (rowOf j))))))) := cell_q_same _ 5 (fun j hj => by
    match j, hj with
    | 0, _ => rfl
    | 1, _ => rfl
    | 2, _ => rfl
    | 3, _ => rfl
    | 4, _ => rfl)
  have hP := va_P_cell hP (q0 := 26) rfl hc
  have hD := hD.set (p := 26) (a := ah 1) (e := .inl (G.2.2.2.2.1, 5, .inr (.inr (.inr (.inr (fun j => some ((adC h0 a0 a1 ah qt qs ao) (rowOf j)))))))) rfl
  have hP : va_P G.1 vwCl ([(h0, .inr (4, [.ref (a0 0), .ref (a1 0), .int 0, .ref (ah 0), .ref qt, .ref (ao 0), .int 0, .int 0, .int 0, .int 0]))] ++ ((k_wl (wA G a0) g2I 0 (stSh 0)) ++ ((k_wl (wA G a1) g2I 0 (stSh 0)) ++ ([(ah 0, .inr (0, [.ref (ah 1), .int 0, .int 0])), (ah 1, .inl (G.2.2.2.2.1, 5, .inr (.inr (.inr (.inr (fun j => some ((adC h0 a0 a1 ah qt qs ao) (rowOf j))))))))] ++ (k_wl (wA G ah) gHI 2 (stSh 2) ++ (k_wl (wA G ah) gHI 14 (stSh 14) ++ (k_wl (wA G ah) gHI 26 (stSh 26) ++ (k_wl (wA G ah) gHI 38 (stSh 38) ++ (k_wl (wA G ah) gHI 50 (stSh 50) ++ (W3_1 G qt qs ++ (k_wl (wA G ao) g1I 0 shO))))))))))) H := hP
  have hD : va_D A ([(h0, .inr (4, [.ref (a0 0), .ref (a1 0), .int 0, .ref (ah 0), .ref qt, .ref (ao 0), .int 0, .int 0, .int 0, .int 0]))] ++ ((k_wl (wA G a0) g2I 0 (stSh 0)) ++ ((k_wl (wA G a1) g2I 0 (stSh 0)) ++ ([(ah 0, .inr (0, [.ref (ah 1), .int 0, .int 0])), (ah 1, .inl (G.2.2.2.2.1, 5, .inr (.inr (.inr (.inr (fun j => some ((adC h0 a0 a1 ah qt qs ao) (rowOf j))))))))] ++ (k_wl (wA G ah) gHI 2 (stSh 2) ++ (k_wl (wA G ah) gHI 14 (stSh 14) ++ (k_wl (wA G ah) gHI 26 (stSh 26) ++ (k_wl (wA G ah) gHI 38 (stSh 38) ++ (k_wl (wA G ah) gHI 50 (stSh 50) ++ (W3_1 G qt qs ++ (k_wl (wA G ao) g1I 0 shO))))))))))) := hD
  rw [← glueC] at hP hD
  exact W.vret hx hb hr (fun t ht hW => ⟨⟨(adC h0 a0 a1 ah qt qs ao), rfl, rfl, by rw [ht]; exact hP, va_K.moved hW.alike hK, hD⟩, hS.F ht⟩) hS.2.2 dX4_init_59
