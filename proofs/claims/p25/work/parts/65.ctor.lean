/-! constructor: the history -/
abbrev W0_0 (h0 : Nat) : va_W := [(h0, .inr (0, [.null, .int 0, .int 0]))]
def shH : List Kd := [.inl (0, [some 1, none, none]), .inr (.inr (5, fun j => 2 + 12 * j))] ++ (stSh 2 ++ (stSh 14 ++ (stSh 26 ++ (stSh 38 ++ stSh 50))))
def gHI : Mem := fun q => if q = 2 ∨ q = 14 ∨ q = 26 ∨ q = 38 ∨ q = 50 then g2I 0 else fun _ => 0
def adH (h0 qa : Nat) (a0 a1 a2 a3 a4 : Nat → Nat) : Nat → Nat := fun n => if n = 0 then h0 else if n = 1 then qa else if n < 14 then a0 (n - 2) else if n < 26 then a1 (n - 14) else if n < 38 then a2 (n - 26) else if n < 50 then a3 (n - 38) else a4 (n - 50)
theorem glueH (G : GG) (h0 qa : Nat) (a0 a1 a2 a3 a4 : Nat → Nat) : k_wl (wA G (adH h0 qa a0 a1 a2 a3 a4)) gHI 0 shH = [(h0, .inr (0, [.ref qa, .int 0, .int 0])), (qa, .inl (G.2.2.2.2.1, 5, .inr (.inr (.inr (.inr (fun j => some (adH h0 qa a0 a1 a2 a3 a4 (2 + 12 * j))))))))] ++ ((k_wl (wA G a0) g2I 0 (stSh 0)) ++ ((k_wl (wA G a1) g2I 0 (stSh 0)) ++ ((k_wl (wA G a2) g2I 0 (stSh 0)) ++ ((k_wl (wA G a3) g2I 0 (stSh 0)) ++ (k_wl (wA G a4) g2I 0 (stSh 0)))))) := by
  unfold shH
  rw [k_wl_app, k_wl_app, k_wl_app, k_wl_app, k_wl_app]
  refine congr (congrArg _ rfl) (congr (congrArg _ rfl) (congr (congrArg _ rfl) (congr (congrArg _ rfl) (congr (congrArg _ rfl) rfl))))
set_option maxHeartbeats 8000000 in
set_option maxRecDepth 100000 in
theorem c_X0_init (l : Launch) (G : GG) (h0 sz : Nat) : Met l yX0_init wsX0_init { frames := 2, cells := 61, slots := 4410, locals := 32 } (va_Pc [.ref h0] (fun U => U.heap.size = sz ∧ va_P G.1 vwCl (W0_0 h0) U.heap ∧ va_K G.1 vwCl (k_ty G) U ∧ va_D (fun _ => True) (W0_0 h0) ∧ k_NW U ∧ va_AO RX2 U)) (va_Qv (fun ad : Nat → Nat => ad 0 = h0) (fun ad U => va_P G.1 vwCl (k_wl (wA G ad) gHI 0 shH) U.heap ∧ va_K G.1 vwCl (k_ty G) U ∧ va_D (va_A (W0_0 h0) sz) (k_wl (wA G ad) gHI 0 shH)) (va_A (W0_0 h0) sz)) 61 4410 (va_A (W0_0 h0) sz) := by
  refine Met.ofW (cc := cX0_init) (maxL := 2) (ret := none) (by decide) rfl ?_
  intro p e s m args below meth c s₁ B hml hv
  obtain ⟨rfl, hsz, hP, hK, hD0, hNW, hAO⟩ := hv
  have hx := B.exec
  have hb := B.bytes
  have hr := B.returns
  have hts := atoms_spec (ws := wsX0_init) B.pre
  have hown : s.vm.findClass RX0 = some m.cls := findClass_of_methodNamed B.named
  have hlocks := B.notSynchronized
  have hin : meth.name = "<init>" := (name_of_methodNamed B.named B.method).1
  subst hsz
  have hD := hD0.self (sz := s.heap.size)
  generalize hAe : va_A (W0_0 h0) s.heap.size = A at hD ⊢
  have hA : ∀ q : Nat, s.heap.size ≤ q → A q := fun q h => by rw [← hAe]; exact Or.inr h
  have hS : va_S A s.heap s.heap [] := va_S.rf
  have hP : va_P G.1 vwCl (W0_0 h0) s.heap := hP
  have hl := lv_entry ([.ref h0]) (n := 2) (Nat.le_of_ble_eq_true rfl)
  rw [lg_entry_eq]
  generalize (lg_sl ([.ref h0]) ++ List.replicate (2 - (lg_sl ([.ref h0])).length) Slot.unset).toArray = ls at hl ⊢
  have hl : lv_has ls 2 [(0, .ref h0)] := hl
  refine lv_aload_n hx hb dX0_init_0 rfl (lv_at hl 0 rfl) ?_
  refine W.objInit hx hb hown (hts (.methodLink RX0 5 objectInit) (by decide +kernel)) (hts (.instanceMethod objectInit) (by decide +kernel)) (hts (.code objectInit ⟨#[0xb1]⟩ 1 none) (by decide +kernel)) rfl (by rw [hml]; exact hl.1) rfl dX0_init_1 (Nat.le_of_ble_eq_true rfl) (Nat.le_of_ble_eq_true rfl) ?_
  refine W.eq (g2 := F0 m 4 ls []) rfl ?_
  refine lv_aload_n hx hb dX0_init_4 rfl (lv_at hl 0 rfl) ?_
  refine lv_iconst (v := 5) hx hb dX0_init_5 rfl ?_
  refine va_newqG (N' := 5) hx hb hown (hts (.classLink RX0 11 RX2) (by decide +kernel)) hAO hK hP hD hS hA 2 rfl (by decide) (by decide) (by decide) (Nat.le_of_ble_eq_true rfl) (Nat.le_of_ble_eq_true rfl) dX0_init_6 (fun qa H hP hD hS => ?_)
  refine va_putF (D := G.1) (ci := 0) (v := .ref qa) (ty := tyX0 0) (C := RX0) (T := TX0) (N := 3) hx hb hts (by decide +kernel) tyX0 tyX0_ok nmX0 hown hK hP hD hS 0 rfl rfl 0 (by decide) (hts (.fieldLink RX0 13 "AgreedSlots$History" "rows" "[LAgreedSlots$State;") (by decide +kernel)) (fun _ h9 => h9) rfl hin rfl (tyX0_ok 0 (by decide)) rfl rfl (Nat.le_of_ble_eq_true rfl) dX0_init_9 (fun H locs hP hD hS => ?_)
  have hP : va_P G.1 vwCl [(h0, .inr (0, [.ref qa, .int 0, .int 0])), (qa, .inl (G.2.2.2.2.1, 5, .inr (.inr (.inr (.inr (fun _ => none))))))] H := hP
  have hD : va_D A [(h0, .inr (0, [.ref qa, .int 0, .int 0])), (qa, .inl (G.2.2.2.2.1, 5, .inr (.inr (.inr (.inr (fun _ => none))))))] := hD
  refine lv_iconst (v := 0) hx hb dX0_init_12 rfl ?_
  refine lv_istore_n (x := 0) hx hb dX0_init_13 rfl hl (by decide) (lv' := [(1, .int 0), (0, .ref h0)]) rfl (fun ls hl => ?_)
  refine lv_iload_n hx hb dX0_init_14 rfl (lv_at hl 0 rfl) ?_
  refine lv_iconst (v := 5) hx hb dX0_init_15 rfl ?_
  refine lv_icmp_ge (tgt := 38) hx hb dX0_init_16 (by decide) (fun c1 => absurd c1 (by decide)) (fun c1 => ?_)
  refine lv_aload_n hx hb dX0_init_19 rfl (lv_at hl 1 rfl) ?_
  refine va_get (D := G.1) (ci := 0) (v := .ref qa) (C := RX0) (T := TX0) (N := 3) hx hb hts (by decide +kernel) hown hK hP 0 rfl rfl 0 (by decide) (hts (.fieldLink RX0 13 "AgreedSlots$History" "rows" "[LAgreedSlots$State;") (by decide +kernel)) (fun _ h9 => h9) rfl dX0_init_20 ?_
  refine lv_iload_n hx hb dX0_init_23 rfl (lv_at hl 0 rfl) ?_
  refine va_new (ci := 2) (fs := fs2) (C := RX2) (T := TX2) (N := 16) hx hb hts (fun w h => List.mem_cons_of_mem _ (List.mem_append_right _ h)) tyX2 tyX2_ok hown (hts (.classLink RX0 11 RX2) (by decide +kernel)) (hts (.instantiable RX2 16) (by decide +kernel)) (hts (.initialized RX2) (by decide +kernel)) hK hP hD hS hA rfl dfX2 (Nat.le_of_ble_eq_true rfl) (Nat.le_of_ble_eq_true rfl) dX0_init_24 (fun q0 H hP hD hS => ?_)
  refine lv_dup hx hb dX0_init_27 rfl ?_
  refine gw_callv (X := [(h0, .inr (0, [.ref qa, .int 0, .int 0])), (qa, .inl (G.2.2.2.2.1, 5, .inr (.inr (.inr (.inr (fun _ => none))))))]) (c0 := (q0, .inr (2, fs2))) (va_runIN (As := []) (rest := [.ref q0, .int 0, .ref qa]) ⟨hx, hb, hml, hown, hts⟩ (c_X2_init l G q0 H.size) ⟨va_cnB 0 hts gX0_init_X2_init_n17 rfl rfl rfl (hNW (RX0, 17, yX2_init) (by decide +kernel)) (hts (.initialized RX2) (by decide +kernel)) (by decide +kernel) ⟨Nat.le_of_ble_eq_true rfl, Nat.le_of_ble_eq_true rfl⟩, rfl, hts (.instanceMethod yX2_init) (by decide +kernel)⟩ (gw_pre (gw_last hP) hK) rfl rfl hl.1 rfl (lv_room (Nat.le_of_ble_eq_true rfl)) dX0_init_28 ⟨Nat.le_of_ble_eq_true rfl, Nat.le_of_ble_eq_true rfl⟩) hP hD hS hA (fun a0 H locs ha0 hP hD hS => ?_)
  rw [← ha0]
  refine va_astq hx hb hK hP hD hS 1 2 2 2 (r := (RX2, TX2, 16)) rfl rfl rfl rfl (by unfold vp_in; decide) dX0_init_31 (fun H locs hP hD hS => ?_)
  have hP : va_P G.1 vwCl ([(h0, .inr (0, [.ref qa, .int 0, .int 0])), (qa, .inl (G.2.2.2.2.1, 5, .inr (.inr (.inr (.inr (va_up (fun _ => none) 0 (some (a0 0))))))))] ++ (k_wl (wA G a0) g2I 0 (stSh 0))) H := hP
  have hD : va_D A ([(h0, .inr (0, [.ref qa, .int 0, .int 0])), (qa, .inl (G.2.2.2.2.1, 5, .inr (.inr (.inr (.inr (va_up (fun _ => none) 0 (some (a0 0))))))))] ++ (k_wl (wA G a0) g2I 0 (stSh 0))) := hD
  refine lv_iinc (v := 1) hx hb dX0_init_32 hl (show ([(1, .int 0), (0, .ref h0)] : List (Nat × Value))[0]? = some (1, .int 0) from rfl) (by decide) (by decide) (lv' := [(1, .int 1), (0, .ref h0)]) rfl (fun ls hl => ?_)
  refine lv_goto (tgt := 14) hx hb dX0_init_35 (by decide) ?_
  refine lv_iload_n hx hb dX0_init_14 rfl (lv_at hl 0 rfl) ?_
  refine lv_iconst (v := 5) hx hb dX0_init_15 rfl ?_
  refine lv_icmp_ge (tgt := 38) hx hb dX0_init_16 (by decide) (fun c1 => absurd c1 (by decide)) (fun c1 => ?_)
  refine lv_aload_n hx hb dX0_init_19 rfl (lv_at hl 1 rfl) ?_
  refine va_get (D := G.1) (ci := 0) (v := .ref qa) (C := RX0) (T := TX0) (N := 3) hx hb hts (by decide +kernel) hown hK hP 0 rfl rfl 0 (by decide) (hts (.fieldLink RX0 13 "AgreedSlots$History" "rows" "[LAgreedSlots$State;") (by decide +kernel)) (fun _ h9 => h9) rfl dX0_init_20 ?_
  refine lv_iload_n hx hb dX0_init_23 rfl (lv_at hl 0 rfl) ?_
  refine va_new (ci := 2) (fs := fs2) (C := RX2) (T := TX2) (N := 16) hx hb hts (fun w h => List.mem_cons_of_mem _ (List.mem_append_right _ h)) tyX2 tyX2_ok hown (hts (.classLink RX0 11 RX2) (by decide +kernel)) (hts (.instantiable RX2 16) (by decide +kernel)) (hts (.initialized RX2) (by decide +kernel)) hK hP hD hS hA rfl dfX2 (Nat.le_of_ble_eq_true rfl) (Nat.le_of_ble_eq_true rfl) dX0_init_24 (fun q1 H hP hD hS => ?_)
  refine lv_dup hx hb dX0_init_27 rfl ?_
  refine gw_callv (X := ([(h0, .inr (0, [.ref qa, .int 0, .int 0])), (qa, .inl (G.2.2.2.2.1, 5, .inr (.inr (.inr (.inr (va_up (fun _ => none) 0 (some (a0 0))))))))] ++ (k_wl (wA G a0) g2I 0 (stSh 0)))) (c0 := (q1, .inr (2, fs2))) (va_runIN (As := []) (rest := [.ref q1, .int 1, .ref qa]) ⟨hx, hb, hml, hown, hts⟩ (c_X2_init l G q1 H.size) ⟨va_cnB 0 hts gX0_init_X2_init_n17 rfl rfl rfl (hNW (RX0, 17, yX2_init) (by decide +kernel)) (hts (.initialized RX2) (by decide +kernel)) (by decide +kernel) ⟨Nat.le_of_ble_eq_true rfl, Nat.le_of_ble_eq_true rfl⟩, rfl, hts (.instanceMethod yX2_init) (by decide +kernel)⟩ (gw_pre (gw_last hP) hK) rfl rfl hl.1 rfl (lv_room (Nat.le_of_ble_eq_true rfl)) dX0_init_28 ⟨Nat.le_of_ble_eq_true rfl, Nat.le_of_ble_eq_true rfl⟩) hP hD hS hA (fun a1 H locs ha1 hP hD hS => ?_)
  rw [← ha1]
  refine va_astq hx hb hK hP hD hS 1 2 14 2 (r := (RX2, TX2, 16)) rfl rfl rfl rfl (by unfold vp_in; decide) dX0_init_31 (fun H locs hP hD hS => ?_)
  have hP : va_P G.1 vwCl (([(h0, .inr (0, [.ref qa, .int 0, .int 0])), (qa, .inl (G.2.2.2.2.1, 5, .inr (.inr (.inr (.inr (va_up (va_up (fun _ => none) 0 (some (a0 0))) 1 (some (a1 0))))))))] ++ (k_wl (wA G a0) g2I 0 (stSh 0))) ++ (k_wl (wA G a1) g2I 0 (stSh 0))) H := hP
  have hD : va_D A (([(h0, .inr (0, [.ref qa, .int 0, .int 0])), (qa, .inl (G.2.2.2.2.1, 5, .inr (.inr (.inr (.inr (va_up (va_up (fun _ => none) 0 (some (a0 0))) 1 (some (a1 0))))))))] ++ (k_wl (wA G a0) g2I 0 (stSh 0))) ++ (k_wl (wA G a1) g2I 0 (stSh 0))) := hD
  refine lv_iinc (v := 2) hx hb dX0_init_32 hl (show ([(1, .int 1), (0, .ref h0)] : List (Nat × Value))[0]? = some (1, .int 1) from rfl) (by decide) (by decide) (lv' := [(1, .int 2), (0, .ref h0)]) rfl (fun ls hl => ?_)
  refine lv_goto (tgt := 14) hx hb dX0_init_35 (by decide) ?_
  refine lv_iload_n hx hb dX0_init_14 rfl (lv_at hl 0 rfl) ?_
  refine lv_iconst (v := 5) hx hb dX0_init_15 rfl ?_
  refine lv_icmp_ge (tgt := 38) hx hb dX0_init_16 (by decide) (fun c1 => absurd c1 (by decide)) (fun c1 => ?_)
  refine lv_aload_n hx hb dX0_init_19 rfl (lv_at hl 1 rfl) ?_
  refine va_get (D := G.1) (ci := 0) (v := .ref qa) (C := RX0) (T := TX0) (N := 3) hx hb hts (by decide +kernel) hown hK hP 0 rfl rfl 0 (by decide) (hts (.fieldLink RX0 13 "AgreedSlots$History" "rows" "[LAgreedSlots$State;") (by decide +kernel)) (fun _ h9 => h9) rfl dX0_init_20 ?_
  refine lv_iload_n hx hb dX0_init_23 rfl (lv_at hl 0 rfl) ?_
  refine va_new (ci := 2) (fs := fs2) (C := RX2) (T := TX2) (N := 16) hx hb hts (fun w h => List.mem_cons_of_mem _ (List.mem_append_right _ h)) tyX2 tyX2_ok hown (hts (.classLink RX0 11 RX2) (by decide +kernel)) (hts (.instantiable RX2 16) (by decide +kernel)) (hts (.initialized RX2) (by decide +kernel)) hK hP hD hS hA rfl dfX2 (Nat.le_of_ble_eq_true rfl) (Nat.le_of_ble_eq_true rfl) dX0_init_24 (fun q2 H hP hD hS => ?_)
  refine lv_dup hx hb dX0_init_27 rfl ?_
  refine gw_callv (X := (([(h0, .inr (0, [.ref qa, .int 0, .int 0])), (qa, .inl (G.2.2.2.2.1, 5, .inr (.inr (.inr (.inr (va_up (va_up (fun _ => none) 0 (some (a0 0))) 1 (some (a1 0))))))))] ++ (k_wl (wA G a0) g2I 0 (stSh 0))) ++ (k_wl (wA G a1) g2I 0 (stSh 0)))) (c0 := (q2, .inr (2, fs2))) (va_runIN (As := []) (rest := [.ref q2, .int 2, .ref qa]) ⟨hx, hb, hml, hown, hts⟩ (c_X2_init l G q2 H.size) ⟨va_cnB 0 hts gX0_init_X2_init_n17 rfl rfl rfl (hNW (RX0, 17, yX2_init) (by decide +kernel)) (hts (.initialized RX2) (by decide +kernel)) (by decide +kernel) ⟨Nat.le_of_ble_eq_true rfl, Nat.le_of_ble_eq_true rfl⟩, rfl, hts (.instanceMethod yX2_init) (by decide +kernel)⟩ (gw_pre (gw_last hP) hK) rfl rfl hl.1 rfl (lv_room (Nat.le_of_ble_eq_true rfl)) dX0_init_28 ⟨Nat.le_of_ble_eq_true rfl, Nat.le_of_ble_eq_true rfl⟩) hP hD hS hA (fun a2 H locs ha2 hP hD hS => ?_)
  rw [← ha2]
  refine va_astq hx hb hK hP hD hS 1 2 26 2 (r := (RX2, TX2, 16)) rfl rfl rfl rfl (by unfold vp_in; decide) dX0_init_31 (fun H locs hP hD hS => ?_)
  have hP : va_P G.1 vwCl ((([(h0, .inr (0, [.ref qa, .int 0, .int 0])), (qa, .inl (G.2.2.2.2.1, 5, .inr (.inr (.inr (.inr (va_up (va_up (va_up (fun _ => none) 0 (some (a0 0))) 1 (some (a1 0))) 2 (some (a2 0))))))))] ++ (k_wl (wA G a0) g2I 0 (stSh 0))) ++ (k_wl (wA G a1) g2I 0 (stSh 0))) ++ (k_wl (wA G a2) g2I 0 (stSh 0))) H := hP
  have hD : va_D A ((([(h0, .inr (0, [.ref qa, .int 0, .int 0])), (qa, .inl (G.2.2.2.2.1, 5, .inr (.inr (.inr (.inr (va_up (va_up (va_up (fun _ => none) 0 (some (a0 0))) 1 (some (a1 0))) 2 (some (a2 0))))))))] ++ (k_wl (wA G a0) g2I 0 (stSh 0))) ++ (k_wl (wA G a1) g2I 0 (stSh 0))) ++ (k_wl (wA G a2) g2I 0 (stSh 0))) := hD
  refine lv_iinc (v := 3) hx hb dX0_init_32 hl (show ([(1, .int 2), (0, .ref h0)] : List (Nat × Value))[0]? = some (1, .int 2) from rfl) (by decide) (by decide) (lv' := [(1, .int 3), (0, .ref h0)]) rfl (fun ls hl => ?_)
  refine lv_goto (tgt := 14) hx hb dX0_init_35 (by decide) ?_
  refine lv_iload_n hx hb dX0_init_14 rfl (lv_at hl 0 rfl) ?_
  refine lv_iconst (v := 5) hx hb dX0_init_15 rfl ?_
  refine lv_icmp_ge (tgt := 38) hx hb dX0_init_16 (by decide) (fun c1 => absurd c1 (by decide)) (fun c1 => ?_)
  refine lv_aload_n hx hb dX0_init_19 rfl (lv_at hl 1 rfl) ?_
  refine va_get (D := G.1) (ci := 0) (v := .ref qa) (C := RX0) (T := TX0) (N := 3) hx hb hts (by decide +kernel) hown hK hP 0 rfl rfl 0 (by decide) (hts (.fieldLink RX0 13 "AgreedSlots$History" "rows" "[LAgreedSlots$State;") (by decide +kernel)) (fun _ h9 => h9) rfl dX0_init_20 ?_
  refine lv_iload_n hx hb dX0_init_23 rfl (lv_at hl 0 rfl) ?_
  refine va_new (ci := 2) (fs := fs2) (C := RX2) (T := TX2) (N := 16) hx hb hts (fun w h => List.mem_cons_of_mem _ (List.mem_append_right _ h)) tyX2 tyX2_ok hown (hts (.classLink RX0 11 RX2) (by decide +kernel)) (hts (.instantiable RX2 16) (by decide +kernel)) (hts (.initialized RX2) (by decide +kernel)) hK hP hD hS hA rfl dfX2 (Nat.le_of_ble_eq_true rfl) (Nat.le_of_ble_eq_true rfl) dX0_init_24 (fun q3 H hP hD hS => ?_)
  refine lv_dup hx hb dX0_init_27 rfl ?_
  refine gw_callv (X := ((([(h0, .inr (0, [.ref qa, .int 0, .int 0])), (qa, .inl (G.2.2.2.2.1, 5, .inr (.inr (.inr (.inr (va_up (va_up (va_up (fun _ => none) 0 (some (a0 0))) 1 (some (a1 0))) 2 (some (a2 0))))))))] ++ (k_wl (wA G a0) g2I 0 (stSh 0))) ++ (k_wl (wA G a1) g2I 0 (stSh 0))) ++ (k_wl (wA G a2) g2I 0 (stSh 0)))) (c0 := (q3, .inr (2, fs2))) (va_runIN (As := []) (rest := [.ref q3, .int 3, .ref qa]) ⟨hx, hb, hml, hown, hts⟩ (c_X2_init l G q3 H.size) ⟨va_cnB 0 hts gX0_init_X2_init_n17 rfl rfl rfl (hNW (RX0, 17, yX2_init) (by decide +kernel)) (hts (.initialized RX2) (by decide +kernel)) (by decide +kernel) ⟨Nat.le_of_ble_eq_true rfl, Nat.le_of_ble_eq_true rfl⟩, rfl, hts (.instanceMethod yX2_init) (by decide +kernel)⟩ (gw_pre (gw_last hP) hK) rfl rfl hl.1 rfl (lv_room (Nat.le_of_ble_eq_true rfl)) dX0_init_28 ⟨Nat.le_of_ble_eq_true rfl, Nat.le_of_ble_eq_true rfl⟩) hP hD hS hA (fun a3 H locs ha3 hP hD hS => ?_)
  rw [← ha3]
  refine va_astq hx hb hK hP hD hS 1 2 38 2 (r := (RX2, TX2, 16)) rfl rfl rfl rfl (by unfold vp_in; decide) dX0_init_31 (fun H locs hP hD hS => ?_)
  have hP : va_P G.1 vwCl (((([(h0, .inr (0, [.ref qa, .int 0, .int 0])), (qa, .inl (G.2.2.2.2.1, 5, .inr (.inr (.inr (.inr (va_up (va_up (va_up (va_up (fun _ => none) 0 (some (a0 0))) 1 (some (a1 0))) 2 (some (a2 0))) 3 (some (a3 0))))))))] ++ (k_wl (wA G a0) g2I 0 (stSh 0))) ++ (k_wl (wA G a1) g2I 0 (stSh 0))) ++ (k_wl (wA G a2) g2I 0 (stSh 0))) ++ (k_wl (wA G a3) g2I 0 (stSh 0))) H := hP
  have hD : va_D A (((([(h0, .inr (0, [.ref qa, .int 0, .int 0])), (qa, .inl (G.2.2.2.2.1, 5, .inr (.inr (.inr (.inr (va_up (va_up (va_up (va_up (fun _ => none) 0 (some (a0 0))) 1 (some (a1 0))) 2 (some (a2 0))) 3 (some (a3 0))))))))] ++ (k_wl (wA G a0) g2I 0 (stSh 0))) ++ (k_wl (wA G a1) g2I 0 (stSh 0))) ++ (k_wl (wA G a2) g2I 0 (stSh 0))) ++ (k_wl (wA G a3) g2I 0 (stSh 0))) := hD
  refine lv_iinc (v := 4) hx hb dX0_init_32 hl (show ([(1, .int 3), (0, .ref h0)] : List (Nat × Value))[0]? = some (1, .int 3) from rfl) (by decide) (by decide) (lv' := [(1, .int 4), (0, .ref h0)]) rfl (fun ls hl => ?_)
  refine lv_goto (tgt := 14) hx hb dX0_init_35 (by decide) ?_
  refine lv_iload_n hx hb dX0_init_14 rfl (lv_at hl 0 rfl) ?_
  refine lv_iconst (v := 5) hx hb dX0_init_15 rfl ?_
  refine lv_icmp_ge (tgt := 38) hx hb dX0_init_16 (by decide) (fun c1 => absurd c1 (by decide)) (fun c1 => ?_)
  refine lv_aload_n hx hb dX0_init_19 rfl (lv_at hl 1 rfl) ?_
  refine va_get (D := G.1) (ci := 0) (v := .ref qa) (C := RX0) (T := TX0) (N := 3) hx hb hts (by decide +kernel) hown hK hP 0 rfl rfl 0 (by decide) (hts (.fieldLink RX0 13 "AgreedSlots$History" "rows" "[LAgreedSlots$State;") (by decide +kernel)) (fun _ h9 => h9) rfl dX0_init_20 ?_
  refine lv_iload_n hx hb dX0_init_23 rfl (lv_at hl 0 rfl) ?_
  refine va_new (ci := 2) (fs := fs2) (C := RX2) (T := TX2) (N := 16) hx hb hts (fun w h => List.mem_cons_of_mem _ (List.mem_append_right _ h)) tyX2 tyX2_ok hown (hts (.classLink RX0 11 RX2) (by decide +kernel)) (hts (.instantiable RX2 16) (by decide +kernel)) (hts (.initialized RX2) (by decide +kernel)) hK hP hD hS hA rfl dfX2 (Nat.le_of_ble_eq_true rfl) (Nat.le_of_ble_eq_true rfl) dX0_init_24 (fun q4 H hP hD hS => ?_)
  refine lv_dup hx hb dX0_init_27 rfl ?_
  refine gw_callv (X := (((([(h0, .inr (0, [.ref qa, .int 0, .int 0])), (qa, .inl (G.2.2.2.2.1, 5, .inr (.inr (.inr (.inr (va_up (va_up (va_up (va_up (fun _ => none) 0 (some (a0 0))) 1 (some (a1 0))) 2 (some (a2 0))) 3 (some (a3 0))))))))] ++ (k_wl (wA G a0) g2I 0 (stSh 0))) ++ (k_wl (wA G a1) g2I 0 (stSh 0))) ++ (k_wl (wA G a2) g2I 0 (stSh 0))) ++ (k_wl (wA G a3) g2I 0 (stSh 0)))) (c0 := (q4, .inr (2, fs2))) (va_runIN (As := []) (rest := [.ref q4, .int 4, .ref qa]) ⟨hx, hb, hml, hown, hts⟩ (c_X2_init l G q4 H.size) ⟨va_cnB 0 hts gX0_init_X2_init_n17 rfl rfl rfl (hNW (RX0, 17, yX2_init) (by decide +kernel)) (hts (.initialized RX2) (by decide +kernel)) (by decide +kernel) ⟨Nat.le_of_ble_eq_true rfl, Nat.le_of_ble_eq_true rfl⟩, rfl, hts (.instanceMethod yX2_init) (by decide +kernel)⟩ (gw_pre (gw_last hP) hK) rfl rfl hl.1 rfl (lv_room (Nat.le_of_ble_eq_true rfl)) dX0_init_28 ⟨Nat.le_of_ble_eq_true rfl, Nat.le_of_ble_eq_true rfl⟩) hP hD hS hA (fun a4 H locs ha4 hP hD hS => ?_)
  rw [← ha4]
  refine va_astq hx hb hK hP hD hS 1 2 50 2 (r := (RX2, TX2, 16)) rfl rfl rfl rfl (by unfold vp_in; decide) dX0_init_31 (fun H locs hP hD hS => ?_)
  have hP : va_P G.1 vwCl ((((([(h0, .inr (0, [.ref qa, .int 0, .int 0])), (qa, .inl (G.2.2.2.2.1, 5, .inr (.inr (.inr (.inr (va_up (va_up (va_up (va_up (va_up (fun _ => none) 0 (some (a0 0))) 1 (some (a1 0))) 2 (some (a2 0))) 3 (some (a3 0))) 4 (some (a4 0))))))))] ++ (k_wl (wA G a0) g2I 0 (stSh 0))) ++ (k_wl (wA G a1) g2I 0 (stSh 0))) ++ (k_wl (wA G a2) g2I 0 (stSh 0))) ++ (k_wl (wA G a3) g2I 0 (stSh 0))) ++ (k_wl (wA G a4) g2I 0 (stSh 0))) H := hP
  have hD : va_D A ((((([(h0, .inr (0, [.ref qa, .int 0, .int 0])), (qa, .inl (G.2.2.2.2.1, 5, .inr (.inr (.inr (.inr (va_up (va_up (va_up (va_up (va_up (fun _ => none) 0 (some (a0 0))) 1 (some (a1 0))) 2 (some (a2 0))) 3 (some (a3 0))) 4 (some (a4 0))))))))] ++ (k_wl (wA G a0) g2I 0 (stSh 0))) ++ (k_wl (wA G a1) g2I 0 (stSh 0))) ++ (k_wl (wA G a2) g2I 0 (stSh 0))) ++ (k_wl (wA G a3) g2I 0 (stSh 0))) ++ (k_wl (wA G a4) g2I 0 (stSh 0))) := hD
  refine lv_iinc (v := 5) hx hb dX0_init_32 hl (show ([(1, .int 4), (0, .ref h0)] : List (Nat × Value))[0]? = some (1, .int 4) from rfl) (by decide) (by decide) (lv' := [(1, .int 5), (0, .ref h0)]) rfl (fun ls hl => ?_)
  refine lv_goto (tgt := 14) hx hb dX0_init_35 (by decide) ?_
  refine lv_iload_n hx hb dX0_init_14 rfl (lv_at hl 0 rfl) ?_
  refine lv_iconst (v := 5) hx hb dX0_init_15 rfl ?_
  refine lv_icmp_ge (tgt := 38) hx hb dX0_init_16 (by decide) (fun c1 => ?_) (fun c1 => absurd (by decide) c1)
  have hc : vp_cell G.2.2.2.2.1 (5, .inr (.inr (.inr (.inr (va_up (va_up (va_up (va_up (va_up (fun _ => none) 0 (some (a0 0))) 1 (some (a1 0))) 2 (some (a2 0))) 3 (some (a3 0))) 4 (some (a4 0))))))) = vp_cell G.2.2.2.2.1 (5, .inr (.inr (.inr (.inr (fun j => some (adH h0 qa a0 a1 a2 a3 a4 (2 + 12 * j))))))) := cell_q_same _ 5 (fun j hj => by
    match j, hj with
    | 0, _ => rfl
    | 1, _ => rfl
    | 2, _ => rfl
    | 3, _ => rfl
    | 4, _ => rfl)
  have hP := va_P_cell hP (q0 := 1) rfl hc
  have hD := hD.set (p := 1) (a := qa) (e := .inl (G.2.2.2.2.1, 5, .inr (.inr (.inr (.inr (fun j => some (adH h0 qa a0 a1 a2 a3 a4 (2 + 12 * j)))))))) rfl
  have hP : va_P G.1 vwCl ((((([(h0, .inr (0, [.ref qa, .int 0, .int 0])), (qa, .inl (G.2.2.2.2.1, 5, .inr (.inr (.inr (.inr (fun j => some (adH h0 qa a0 a1 a2 a3 a4 (2 + 12 * j))))))))] ++ (k_wl (wA G a0) g2I 0 (stSh 0))) ++ (k_wl (wA G a1) g2I 0 (stSh 0))) ++ (k_wl (wA G a2) g2I 0 (stSh 0))) ++ (k_wl (wA G a3) g2I 0 (stSh 0))) ++ (k_wl (wA G a4) g2I 0 (stSh 0))) H := hP
  have hD : va_D A ((((([(h0, .inr (0, [.ref qa, .int 0, .int 0])), (qa, .inl (G.2.2.2.2.1, 5, .inr (.inr (.inr (.inr (fun j => some (adH h0 qa a0 a1 a2 a3 a4 (2 + 12 * j))))))))] ++ (k_wl (wA G a0) g2I 0 (stSh 0))) ++ (k_wl (wA G a1) g2I 0 (stSh 0))) ++ (k_wl (wA G a2) g2I 0 (stSh 0))) ++ (k_wl (wA G a3) g2I 0 (stSh 0))) ++ (k_wl (wA G a4) g2I 0 (stSh 0))) := hD
  have hX : ((((([(h0, .inr (0, [.ref qa, .int 0, .int 0])), (qa, .inl (G.2.2.2.2.1, 5, .inr (.inr (.inr (.inr (fun j => some (adH h0 qa a0 a1 a2 a3 a4 (2 + 12 * j))))))))] ++ (k_wl (wA G a0) g2I 0 (stSh 0))) ++ (k_wl (wA G a1) g2I 0 (stSh 0))) ++ (k_wl (wA G a2) g2I 0 (stSh 0))) ++ (k_wl (wA G a3) g2I 0 (stSh 0))) ++ (k_wl (wA G a4) g2I 0 (stSh 0))) = k_wl (wA G (adH h0 qa a0 a1 a2 a3 a4)) gHI 0 shH := by
    rw [glueH]
    simp only [List.append_assoc]
  rw [hX] at hP hD
  exact W.vret hx hb hr (fun t ht hW => ⟨⟨adH h0 qa a0 a1 a2 a3 a4, rfl, rfl, by rw [ht]; exact hP, va_K.moved hW.alike hK, hD⟩, hS.F ht⟩) hS.2.2 dX0_init_38
