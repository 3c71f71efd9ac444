/-! constructor: the reference -/
abbrev W5_0 (h0 : Nat) : va_W := [(h0, .inr (5, [.null, .null, .int 0, .null, .int 0, .int 0, .int 0, .null, .int 0, .null, .int 0, .int 0, .int 0, .int 0, .null]))]
def g5I : Mem := fun q k => match q with
  | 0 => (match k with
    | 11 => -1
    | _ => 0)
  | 1 => (upd (upd (upd (upd (upd (upd (upd (fun _ => 0) 0 1) 1 1) 2 1) 3 1) 4 1) 5 1) 870 2) k
  | _ => 0
set_option maxHeartbeats 4000000 in
set_option maxRecDepth 100000 in
theorem c_X5_init (l : Launch) (G : GG) (h0 sz : Nat) : Met l yX5_init wsX5_init { frames := 1, cells := 6, slots := 6326, locals := 12 } (va_Pc [.ref h0] (fun U => U.heap.size = sz ∧ va_P G.1 vwCl (W5_0 h0) U.heap ∧ va_K G.1 vwCl (k_ty G) U ∧ va_D (fun _ => True) (W5_0 h0))) (va_Qv (fun ad : Nat → Nat => ad 0 = h0) (fun ad U => va_P G.1 vwCl (k_wl (wA G ad) g5I 0 shM) U.heap ∧ va_K G.1 vwCl (k_ty G) U ∧ va_D (va_A (W5_0 h0) sz) (k_wl (wA G ad) g5I 0 shM)) (va_A (W5_0 h0) sz)) 6 6326 (va_A (W5_0 h0) sz) := by
  refine Met.ofW (cc := cX5_init) (maxL := 2) (ret := none) (by decide) rfl ?_
  intro p e s m args below meth c s₁ B hml hv
  obtain ⟨rfl, hsz, hP, hK, hD0⟩ := hv
  have hx := B.exec
  have hb := B.bytes
  have hr := B.returns
  have hts := atoms_spec (ws := wsX5_init) B.pre
  have hown : s.vm.findClass RX5 = some m.cls := findClass_of_methodNamed B.named
  have hlocks := B.notSynchronized
  have hin : meth.name = "<init>" := (name_of_methodNamed B.named B.method).1
  subst hsz
  have hD := hD0.self (sz := s.heap.size)
  generalize hAe : va_A (W5_0 h0) s.heap.size = A at hD ⊢
  have hA : ∀ q : Nat, s.heap.size ≤ q → A q := fun q h => by rw [← hAe]; exact Or.inr h
  have hS : va_S A s.heap s.heap [] := va_S.rf
  have hP : va_P G.1 vwCl (W5_0 h0) s.heap := hP
  have hl := lv_entry ([.ref h0]) (n := 2) (Nat.le_of_ble_eq_true rfl)
  rw [lg_entry_eq]
  generalize (lg_sl ([.ref h0]) ++ List.replicate (2 - (lg_sl ([.ref h0])).length) Slot.unset).toArray = ls at hl ⊢
  have hl : lv_has ls 2 [(0, .ref h0)] := hl
  refine lv_aload_n hx hb dX5_init_0 rfl (lv_at hl 0 rfl) ?_
  refine W.objInit hx hb hown (hts (.methodLink RX5 1 objectInit) (by decide +kernel)) (hts (.instanceMethod objectInit) (by decide +kernel)) (hts _ (List.mem_cons_of_mem _ (List.mem_append_left _ (List.mem_of_getElem? (i := 2) rfl)))) rfl (by rw [hml]; exact hl.1) rfl dX5_init_1 (Nat.le_of_ble_eq_true rfl) (Nat.le_of_ble_eq_true rfl) ?_
  refine W.eq (g2 := F0 m 4 ls []) rfl ?_
  refine lv_aload_n hx hb dX5_init_4 rfl (lv_at hl 0 rfl) ?_
  refine lv_sipush hx hb dX5_init_5 rfl ?_
  refine va_newaG (atype := .int) (ty := .int) (N' := 873) (a0 := (873, .inl (fun _ => 0))) hx hb (hts (.arrayClass .int) (by decide +kernel)) rfl ra_int hK hP hD hS hA 0 rfl (fun _ => rfl) (by decide) (by decide) (Nat.le_of_ble_eq_true rfl) (Nat.le_of_ble_eq_true rfl) (Nat.le_of_ble_eq_true rfl) dX5_init_8 (fun q1 H hP hD hS => ?_)
  have hP : va_P G.1 vwCl [(h0, .inr (5, [.null, .null, .int 0, .null, .int 0, .int 0, .int 0, .null, .int 0, .null, .int 0, .int 0, .int 0, .int 0, .null])), (q1, .inl (G.2.2.1, 873, .inl (fun _ => 0)))] H := hP
  have hD : va_D A [(h0, .inr (5, [.null, .null, .int 0, .null, .int 0, .int 0, .int 0, .null, .int 0, .null, .int 0, .int 0, .int 0, .int 0, .null])), (q1, .inl (G.2.2.1, 873, .inl (fun _ => 0)))] := hD
  refine va_putF (D := G.1) (ci := 5) (v := .ref q1) (ty := tyX5 0) (C := RX5) (T := TX5) (N := 15) hx hb hts (by decide +kernel) tyX5 tyX5_ok nmX5 hown hK hP hD hS 0 rfl rfl 0 (by decide) (hts (.fieldLink RX5 7 "AgreedSlotsModel" "now" "[I") (by decide +kernel)) (fun _ h9 => h9) rfl hin rfl (tyX5_ok 0 (by decide)) rfl rfl (Nat.le_of_ble_eq_true rfl) dX5_init_10 (fun H locs hP hD hS => ?_)
  have hP : va_P G.1 vwCl [(h0, .inr (5, [.ref q1, .null, .int 0, .null, .int 0, .int 0, .int 0, .null, .int 0, .null, .int 0, .int 0, .int 0, .int 0, .null])), (q1, .inl (G.2.2.1, 873, .inl (fun _ => 0)))] H := hP
  have hD : va_D A [(h0, .inr (5, [.ref q1, .null, .int 0, .null, .int 0, .int 0, .int 0, .null, .int 0, .null, .int 0, .int 0, .int 0, .int 0, .null])), (q1, .inl (G.2.2.1, 873, .inl (fun _ => 0)))] := hD
  refine lv_aload_n hx hb dX5_init_13 rfl (lv_at hl 0 rfl) ?_
  refine lv_sipush hx hb dX5_init_14 rfl ?_
  refine va_newaG (atype := .int) (ty := .int) (N' := 3492) (a0 := (3492, .inl (fun _ => 0))) hx hb (hts (.arrayClass .int) (by decide +kernel)) rfl ra_int hK hP hD hS hA 0 rfl (fun _ => rfl) (by decide) (by decide) (Nat.le_of_ble_eq_true rfl) (Nat.le_of_ble_eq_true rfl) (Nat.le_of_ble_eq_true rfl) dX5_init_17 (fun q2 H hP hD hS => ?_)
  have hP : va_P G.1 vwCl [(h0, .inr (5, [.ref q1, .null, .int 0, .null, .int 0, .int 0, .int 0, .null, .int 0, .null, .int 0, .int 0, .int 0, .int 0, .null])), (q1, .inl (G.2.2.1, 873, .inl (fun _ => 0))), (q2, .inl (G.2.2.1, 3492, .inl (fun _ => 0)))] H := hP
  have hD : va_D A [(h0, .inr (5, [.ref q1, .null, .int 0, .null, .int 0, .int 0, .int 0, .null, .int 0, .null, .int 0, .int 0, .int 0, .int 0, .null])), (q1, .inl (G.2.2.1, 873, .inl (fun _ => 0))), (q2, .inl (G.2.2.1, 3492, .inl (fun _ => 0)))] := hD
  refine va_putF (D := G.1) (ci := 5) (v := .ref q2) (ty := tyX5 1) (C := RX5) (T := TX5) (N := 15) hx hb hts (by decide +kernel) tyX5 tyX5_ok nmX5 hown hK hP hD hS 0 rfl rfl 1 (by decide) (hts (.fieldLink RX5 13 "AgreedSlotsModel" "history" "[I") (by decide +kernel)) (fun _ h9 => h9) rfl hin rfl (tyX5_ok 1 (by decide)) rfl rfl (Nat.le_of_ble_eq_true rfl) dX5_init_19 (fun H locs hP hD hS => ?_)
  have hP : va_P G.1 vwCl [(h0, .inr (5, [.ref q1, .ref q2, .int 0, .null, .int 0, .int 0, .int 0, .null, .int 0, .null, .int 0, .int 0, .int 0, .int 0, .null])), (q1, .inl (G.2.2.1, 873, .inl (fun _ => 0))), (q2, .inl (G.2.2.1, 3492, .inl (fun _ => 0)))] H := hP
  have hD : va_D A [(h0, .inr (5, [.ref q1, .ref q2, .int 0, .null, .int 0, .int 0, .int 0, .null, .int 0, .null, .int 0, .int 0, .int 0, .int 0, .null])), (q1, .inl (G.2.2.1, 873, .inl (fun _ => 0))), (q2, .inl (G.2.2.1, 3492, .inl (fun _ => 0)))] := hD
  refine lv_aload_n hx hb dX5_init_22 rfl (lv_at hl 0 rfl) ?_
  refine lv_sipush hx hb dX5_init_23 rfl ?_
  refine va_newaG (atype := .int) (ty := .int) (N' := 873) (a0 := (873, .inl (fun _ => 0))) hx hb (hts (.arrayClass .int) (by decide +kernel)) rfl ra_int hK hP hD hS hA 0 rfl (fun _ => rfl) (by decide) (by decide) (Nat.le_of_ble_eq_true rfl) (Nat.le_of_ble_eq_true rfl) (Nat.le_of_ble_eq_true rfl) dX5_init_26 (fun q3 H hP hD hS => ?_)
  have hP : va_P G.1 vwCl [(h0, .inr (5, [.ref q1, .ref q2, .int 0, .null, .int 0, .int 0, .int 0, .null, .int 0, .null, .int 0, .int 0, .int 0, .int 0, .null])), (q1, .inl (G.2.2.1, 873, .inl (fun _ => 0))), (q2, .inl (G.2.2.1, 3492, .inl (fun _ => 0))), (q3, .inl (G.2.2.1, 873, .inl (fun _ => 0)))] H := hP
  have hD : va_D A [(h0, .inr (5, [.ref q1, .ref q2, .int 0, .null, .int 0, .int 0, .int 0, .null, .int 0, .null, .int 0, .int 0, .int 0, .int 0, .null])), (q1, .inl (G.2.2.1, 873, .inl (fun _ => 0))), (q2, .inl (G.2.2.1, 3492, .inl (fun _ => 0))), (q3, .inl (G.2.2.1, 873, .inl (fun _ => 0)))] := hD
  refine va_putF (D := G.1) (ci := 5) (v := .ref q3) (ty := tyX5 3) (C := RX5) (T := TX5) (N := 15) hx hb hts (by decide +kernel) tyX5 tyX5_ok nmX5 hown hK hP hD hS 0 rfl rfl 3 (by decide) (hts (.fieldLink RX5 16 "AgreedSlotsModel" "slot" "[I") (by decide +kernel)) (fun _ h9 => h9) rfl hin rfl (tyX5_ok 3 (by decide)) rfl rfl (Nat.le_of_ble_eq_true rfl) dX5_init_28 (fun H locs hP hD hS => ?_)
  have hP : va_P G.1 vwCl [(h0, .inr (5, [.ref q1, .ref q2, .int 0, .ref q3, .int 0, .int 0, .int 0, .null, .int 0, .null, .int 0, .int 0, .int 0, .int 0, .null])), (q1, .inl (G.2.2.1, 873, .inl (fun _ => 0))), (q2, .inl (G.2.2.1, 3492, .inl (fun _ => 0))), (q3, .inl (G.2.2.1, 873, .inl (fun _ => 0)))] H := hP
  have hD : va_D A [(h0, .inr (5, [.ref q1, .ref q2, .int 0, .ref q3, .int 0, .int 0, .int 0, .null, .int 0, .null, .int 0, .int 0, .int 0, .int 0, .null])), (q1, .inl (G.2.2.1, 873, .inl (fun _ => 0))), (q2, .inl (G.2.2.1, 3492, .inl (fun _ => 0))), (q3, .inl (G.2.2.1, 873, .inl (fun _ => 0)))] := hD
  refine lv_aload_n hx hb dX5_init_31 rfl (lv_at hl 0 rfl) ?_
  refine lv_bipush hx hb dX5_init_32 rfl ?_
  refine va_newaG (atype := .char) (ty := .char) (N' := 60) (a0 := (60, .inl (fun _ => 0))) hx hb (hts (.arrayClass .char) (by decide +kernel)) rfl ra_char hK hP hD hS hA 1 rfl (fun _ => rfl) (by decide) (by decide) (Nat.le_of_ble_eq_true rfl) (Nat.le_of_ble_eq_true rfl) (Nat.le_of_ble_eq_true rfl) dX5_init_34 (fun q4 H hP hD hS => ?_)
  have hP : va_P G.1 vwCl [(h0, .inr (5, [.ref q1, .ref q2, .int 0, .ref q3, .int 0, .int 0, .int 0, .null, .int 0, .null, .int 0, .int 0, .int 0, .int 0, .null])), (q1, .inl (G.2.2.1, 873, .inl (fun _ => 0))), (q2, .inl (G.2.2.1, 3492, .inl (fun _ => 0))), (q3, .inl (G.2.2.1, 873, .inl (fun _ => 0))), (q4, .inl (G.2.2.2.1, 60, .inl (fun _ => 0)))] H := hP
  have hD : va_D A [(h0, .inr (5, [.ref q1, .ref q2, .int 0, .ref q3, .int 0, .int 0, .int 0, .null, .int 0, .null, .int 0, .int 0, .int 0, .int 0, .null])), (q1, .inl (G.2.2.1, 873, .inl (fun _ => 0))), (q2, .inl (G.2.2.1, 3492, .inl (fun _ => 0))), (q3, .inl (G.2.2.1, 873, .inl (fun _ => 0))), (q4, .inl (G.2.2.2.1, 60, .inl (fun _ => 0)))] := hD
  refine va_putF (D := G.1) (ci := 5) (v := .ref q4) (ty := tyX5 7) (C := RX5) (T := TX5) (N := 15) hx hb hts (by decide +kernel) tyX5 tyX5_ok nmX5 hown hK hP hD hS 0 rfl rfl 7 (by decide) (hts (.fieldLink RX5 19 "AgreedSlotsModel" "text" "[C") (by decide +kernel)) (fun _ h9 => h9) rfl hin rfl (tyX5_ok 7 (by decide)) rfl rfl (Nat.le_of_ble_eq_true rfl) dX5_init_36 (fun H locs hP hD hS => ?_)
  have hP : va_P G.1 vwCl [(h0, .inr (5, [.ref q1, .ref q2, .int 0, .ref q3, .int 0, .int 0, .int 0, .ref q4, .int 0, .null, .int 0, .int 0, .int 0, .int 0, .null])), (q1, .inl (G.2.2.1, 873, .inl (fun _ => 0))), (q2, .inl (G.2.2.1, 3492, .inl (fun _ => 0))), (q3, .inl (G.2.2.1, 873, .inl (fun _ => 0))), (q4, .inl (G.2.2.2.1, 60, .inl (fun _ => 0)))] H := hP
  have hD : va_D A [(h0, .inr (5, [.ref q1, .ref q2, .int 0, .ref q3, .int 0, .int 0, .int 0, .ref q4, .int 0, .null, .int 0, .int 0, .int 0, .int 0, .null])), (q1, .inl (G.2.2.1, 873, .inl (fun _ => 0))), (q2, .inl (G.2.2.1, 3492, .inl (fun _ => 0))), (q3, .inl (G.2.2.1, 873, .inl (fun _ => 0))), (q4, .inl (G.2.2.2.1, 60, .inl (fun _ => 0)))] := hD
  refine lv_aload_n hx hb dX5_init_39 rfl (lv_at hl 0 rfl) ?_
  refine lv_sipush hx hb dX5_init_40 rfl ?_
  refine va_newaG (atype := .int) (ty := .int) (N' := 155) (a0 := (155, .inl (fun _ => 0))) hx hb (hts (.arrayClass .int) (by decide +kernel)) rfl ra_int hK hP hD hS hA 0 rfl (fun _ => rfl) (by decide) (by decide) (Nat.le_of_ble_eq_true rfl) (Nat.le_of_ble_eq_true rfl) (Nat.le_of_ble_eq_true rfl) dX5_init_43 (fun q5 H hP hD hS => ?_)
  have hP : va_P G.1 vwCl [(h0, .inr (5, [.ref q1, .ref q2, .int 0, .ref q3, .int 0, .int 0, .int 0, .ref q4, .int 0, .null, .int 0, .int 0, .int 0, .int 0, .null])), (q1, .inl (G.2.2.1, 873, .inl (fun _ => 0))), (q2, .inl (G.2.2.1, 3492, .inl (fun _ => 0))), (q3, .inl (G.2.2.1, 873, .inl (fun _ => 0))), (q4, .inl (G.2.2.2.1, 60, .inl (fun _ => 0))), (q5, .inl (G.2.2.1, 155, .inl (fun _ => 0)))] H := hP
  have hD : va_D A [(h0, .inr (5, [.ref q1, .ref q2, .int 0, .ref q3, .int 0, .int 0, .int 0, .ref q4, .int 0, .null, .int 0, .int 0, .int 0, .int 0, .null])), (q1, .inl (G.2.2.1, 873, .inl (fun _ => 0))), (q2, .inl (G.2.2.1, 3492, .inl (fun _ => 0))), (q3, .inl (G.2.2.1, 873, .inl (fun _ => 0))), (q4, .inl (G.2.2.2.1, 60, .inl (fun _ => 0))), (q5, .inl (G.2.2.1, 155, .inl (fun _ => 0)))] := hD
  refine va_putF (D := G.1) (ci := 5) (v := .ref q5) (ty := tyX5 9) (C := RX5) (T := TX5) (N := 15) hx hb hts (by decide +kernel) tyX5 tyX5_ok nmX5 hown hK hP hD hS 0 rfl rfl 9 (by decide) (hts (.fieldLink RX5 23 "AgreedSlotsModel" "orders" "[I") (by decide +kernel)) (fun _ h9 => h9) rfl hin rfl (tyX5_ok 9 (by decide)) rfl rfl (Nat.le_of_ble_eq_true rfl) dX5_init_45 (fun H locs hP hD hS => ?_)
  have hP : va_P G.1 vwCl [(h0, .inr (5, [.ref q1, .ref q2, .int 0, .ref q3, .int 0, .int 0, .int 0, .ref q4, .int 0, .ref q5, .int 0, .int 0, .int 0, .int 0, .null])), (q1, .inl (G.2.2.1, 873, .inl (fun _ => 0))), (q2, .inl (G.2.2.1, 3492, .inl (fun _ => 0))), (q3, .inl (G.2.2.1, 873, .inl (fun _ => 0))), (q4, .inl (G.2.2.2.1, 60, .inl (fun _ => 0))), (q5, .inl (G.2.2.1, 155, .inl (fun _ => 0)))] H := hP
  have hD : va_D A [(h0, .inr (5, [.ref q1, .ref q2, .int 0, .ref q3, .int 0, .int 0, .int 0, .ref q4, .int 0, .ref q5, .int 0, .int 0, .int 0, .int 0, .null])), (q1, .inl (G.2.2.1, 873, .inl (fun _ => 0))), (q2, .inl (G.2.2.1, 3492, .inl (fun _ => 0))), (q3, .inl (G.2.2.1, 873, .inl (fun _ => 0))), (q4, .inl (G.2.2.2.1, 60, .inl (fun _ => 0))), (q5, .inl (G.2.2.1, 155, .inl (fun _ => 0)))] := hD
  refine lv_aload_n hx hb dX5_init_48 rfl (lv_at hl 0 rfl) ?_
  refine lv_iconst hx hb dX5_init_49 rfl ?_
  refine va_put (D := G.1) (ci := 5) (v := .int (-1)) (ty := tyX5 11) (C := RX5) (T := TX5) (N := 15) hx hb hts (by decide +kernel) tyX5 tyX5_ok nmX5 hown hK hP hD hS 0 rfl rfl 11 (by decide) (hts (.fieldLink RX5 26 "AgreedSlotsModel" "refused" "I") (by decide +kernel)) (fun _ h9 => h9) rfl (tyX5_ok 11 (by decide)) rfl rfl (Nat.le_of_ble_eq_true rfl) dX5_init_50 (fun H locs hP hD hS => ?_)
  have hP : va_P G.1 vwCl [(h0, .inr (5, [.ref q1, .ref q2, .int 0, .ref q3, .int 0, .int 0, .int 0, .ref q4, .int 0, .ref q5, .int 0, .int (-1), .int 0, .int 0, .null])), (q1, .inl (G.2.2.1, 873, .inl (fun _ => 0))), (q2, .inl (G.2.2.1, 3492, .inl (fun _ => 0))), (q3, .inl (G.2.2.1, 873, .inl (fun _ => 0))), (q4, .inl (G.2.2.2.1, 60, .inl (fun _ => 0))), (q5, .inl (G.2.2.1, 155, .inl (fun _ => 0)))] H := hP
  have hD : va_D A [(h0, .inr (5, [.ref q1, .ref q2, .int 0, .ref q3, .int 0, .int 0, .int 0, .ref q4, .int 0, .ref q5, .int 0, .int (-1), .int 0, .int 0, .null])), (q1, .inl (G.2.2.1, 873, .inl (fun _ => 0))), (q2, .inl (G.2.2.1, 3492, .inl (fun _ => 0))), (q3, .inl (G.2.2.1, 873, .inl (fun _ => 0))), (q4, .inl (G.2.2.2.1, 60, .inl (fun _ => 0))), (q5, .inl (G.2.2.1, 155, .inl (fun _ => 0)))] := hD
  refine lv_aload_n hx hb dX5_init_53 rfl (lv_at hl 0 rfl) ?_
  refine lv_sipush hx hb dX5_init_54 rfl ?_
  refine va_newaG (atype := .int) (ty := .int) (N' := 873) (a0 := (873, .inl (fun _ => 0))) hx hb (hts (.arrayClass .int) (by decide +kernel)) rfl ra_int hK hP hD hS hA 0 rfl (fun _ => rfl) (by decide) (by decide) (Nat.le_of_ble_eq_true rfl) (Nat.le_of_ble_eq_true rfl) (Nat.le_of_ble_eq_true rfl) dX5_init_57 (fun q6 H hP hD hS => ?_)
  have hP : va_P G.1 vwCl [(h0, .inr (5, [.ref q1, .ref q2, .int 0, .ref q3, .int 0, .int 0, .int 0, .ref q4, .int 0, .ref q5, .int 0, .int (-1), .int 0, .int 0, .null])), (q1, .inl (G.2.2.1, 873, .inl (fun _ => 0))), (q2, .inl (G.2.2.1, 3492, .inl (fun _ => 0))), (q3, .inl (G.2.2.1, 873, .inl (fun _ => 0))), (q4, .inl (G.2.2.2.1, 60, .inl (fun _ => 0))), (q5, .inl (G.2.2.1, 155, .inl (fun _ => 0))), (q6, .inl (G.2.2.1, 873, .inl (fun _ => 0)))] H := hP
  have hD : va_D A [(h0, .inr (5, [.ref q1, .ref q2, .int 0, .ref q3, .int 0, .int 0, .int 0, .ref q4, .int 0, .ref q5, .int 0, .int (-1), .int 0, .int 0, .null])), (q1, .inl (G.2.2.1, 873, .inl (fun _ => 0))), (q2, .inl (G.2.2.1, 3492, .inl (fun _ => 0))), (q3, .inl (G.2.2.1, 873, .inl (fun _ => 0))), (q4, .inl (G.2.2.2.1, 60, .inl (fun _ => 0))), (q5, .inl (G.2.2.1, 155, .inl (fun _ => 0))), (q6, .inl (G.2.2.1, 873, .inl (fun _ => 0)))] := hD
  refine va_putF (D := G.1) (ci := 5) (v := .ref q6) (ty := tyX5 14) (C := RX5) (T := TX5) (N := 15) hx hb hts (by decide +kernel) tyX5 tyX5_ok nmX5 hown hK hP hD hS 0 rfl rfl 14 (by decide) (hts (.fieldLink RX5 30 "AgreedSlotsModel" "before" "[I") (by decide +kernel)) (fun _ h9 => h9) rfl hin rfl (tyX5_ok 14 (by decide)) rfl rfl (Nat.le_of_ble_eq_true rfl) dX5_init_59 (fun H locs hP hD hS => ?_)
  have hP : va_P G.1 vwCl [(h0, .inr (5, [.ref q1, .ref q2, .int 0, .ref q3, .int 0, .int 0, .int 0, .ref q4, .int 0, .ref q5, .int 0, .int (-1), .int 0, .int 0, .ref q6])), (q1, .inl (G.2.2.1, 873, .inl (fun _ => 0))), (q2, .inl (G.2.2.1, 3492, .inl (fun _ => 0))), (q3, .inl (G.2.2.1, 873, .inl (fun _ => 0))), (q4, .inl (G.2.2.2.1, 60, .inl (fun _ => 0))), (q5, .inl (G.2.2.1, 155, .inl (fun _ => 0))), (q6, .inl (G.2.2.1, 873, .inl (fun _ => 0)))] H := hP
  have hD : va_D A [(h0, .inr (5, [.ref q1, .ref q2, .int 0, .ref q3, .int 0, .int 0, .int 0, .ref q4, .int 0, .ref q5, .int 0, .int (-1), .int 0, .int 0, .ref q6])), (q1, .inl (G.2.2.1, 873, .inl (fun _ => 0))), (q2, .inl (G.2.2.1, 3492, .inl (fun _ => 0))), (q3, .inl (G.2.2.1, 873, .inl (fun _ => 0))), (q4, .inl (G.2.2.2.1, 60, .inl (fun _ => 0))), (q5, .inl (G.2.2.1, 155, .inl (fun _ => 0))), (q6, .inl (G.2.2.1, 873, .inl (fun _ => 0)))] := hD
  refine lv_iconst hx hb dX5_init_62 rfl ?_
  refine lv_istore_n (x := 0) hx hb dX5_init_63 rfl hl (by decide) (lv' := [(1, .int 0), (0, .ref h0)]) rfl (fun ls hl => ?_)
  refine lv_iload_n hx hb dX5_init_64 rfl (lv_at hl 0 rfl) ?_
  refine lv_bipush hx hb dX5_init_65 rfl ?_
  refine lv_icmp_ge (tgt := 85) hx hb dX5_init_67 (by decide) (fun c1 => absurd c1 (by decide)) (fun c1 => ?_)
  refine lv_aload_n hx hb dX5_init_70 rfl (lv_at hl 1 rfl) ?_
  refine va_get (D := G.1) (ci := 5) (v := .ref q1) (C := RX5) (T := TX5) (N := 15) hx hb hts (by decide +kernel) hown hK hP 0 rfl rfl 0 (by decide) (hts (.fieldLink RX5 7 "AgreedSlotsModel" "now" "[I") (by decide +kernel)) (fun _ h9 => h9) rfl dX5_init_71 ?_
  refine lv_iconst hx hb dX5_init_74 rfl ?_
  refine lv_iload_n hx hb dX5_init_75 rfl (lv_at hl 0 rfl) ?_
  refine lv_iadd hx hb dX5_init_76 ?_
  refine lv_iconst hx hb dX5_init_77 rfl ?_
  refine va_iast hx hb hK hP hD hS 1 0 rfl rfl (by unfold vp_in; decide) dX5_init_78 (fun H locs hP hD hS => ?_)
  have hP : va_P G.1 vwCl [(h0, .inr (5, [.ref q1, .ref q2, .int 0, .ref q3, .int 0, .int 0, .int 0, .ref q4, .int 0, .ref q5, .int 0, .int (-1), .int 0, .int 0, .ref q6])), (q1, .inl (G.2.2.1, 873, .inl (upd (fun _ => 0) 0 1))), (q2, .inl (G.2.2.1, 3492, .inl (fun _ => 0))), (q3, .inl (G.2.2.1, 873, .inl (fun _ => 0))), (q4, .inl (G.2.2.2.1, 60, .inl (fun _ => 0))), (q5, .inl (G.2.2.1, 155, .inl (fun _ => 0))), (q6, .inl (G.2.2.1, 873, .inl (fun _ => 0)))] H := hP
  have hD : va_D A [(h0, .inr (5, [.ref q1, .ref q2, .int 0, .ref q3, .int 0, .int 0, .int 0, .ref q4, .int 0, .ref q5, .int 0, .int (-1), .int 0, .int 0, .ref q6])), (q1, .inl (G.2.2.1, 873, .inl (upd (fun _ => 0) 0 1))), (q2, .inl (G.2.2.1, 3492, .inl (fun _ => 0))), (q3, .inl (G.2.2.1, 873, .inl (fun _ => 0))), (q4, .inl (G.2.2.2.1, 60, .inl (fun _ => 0))), (q5, .inl (G.2.2.1, 155, .inl (fun _ => 0))), (q6, .inl (G.2.2.1, 873, .inl (fun _ => 0)))] := hD
  refine lv_iinc (v := 1) hx hb dX5_init_79 hl (show ([(1, .int 0), (0, .ref h0)] : List (Nat × Value))[0]? = some (1, .int 0) from rfl) (by decide) (by decide) (lv' := [(1, .int 1), (0, .ref h0)]) rfl (fun ls hl => ?_)
  refine lv_goto (tgt := 64) hx hb dX5_init_82 (by decide) ?_
  refine lv_iload_n hx hb dX5_init_64 rfl (lv_at hl 0 rfl) ?_
  refine lv_bipush hx hb dX5_init_65 rfl ?_
  refine lv_icmp_ge (tgt := 85) hx hb dX5_init_67 (by decide) (fun c1 => absurd c1 (by decide)) (fun c1 => ?_)
  refine lv_aload_n hx hb dX5_init_70 rfl (lv_at hl 1 rfl) ?_
  refine va_get (D := G.1) (ci := 5) (v := .ref q1) (C := RX5) (T := TX5) (N := 15) hx hb hts (by decide +kernel) hown hK hP 0 rfl rfl 0 (by decide) (hts (.fieldLink RX5 7 "AgreedSlotsModel" "now" "[I") (by decide +kernel)) (fun _ h9 => h9) rfl dX5_init_71 ?_
  refine lv_iconst hx hb dX5_init_74 rfl ?_
  refine lv_iload_n hx hb dX5_init_75 rfl (lv_at hl 0 rfl) ?_
  refine lv_iadd hx hb dX5_init_76 ?_
  refine lv_iconst hx hb dX5_init_77 rfl ?_
  refine va_iast hx hb hK hP hD hS 1 0 rfl rfl (by unfold vp_in; decide) dX5_init_78 (fun H locs hP hD hS => ?_)
  have hP : va_P G.1 vwCl [(h0, .inr (5, [.ref q1, .ref q2, .int 0, .ref q3, .int 0, .int 0, .int 0, .ref q4, .int 0, .ref q5, .int 0, .int (-1), .int 0, .int 0, .ref q6])), (q1, .inl (G.2.2.1, 873, .inl (upd (upd (fun _ => 0) 0 1) 1 1))), (q2, .inl (G.2.2.1, 3492, .inl (fun _ => 0))), (q3, .inl (G.2.2.1, 873, .inl (fun _ => 0))), (q4, .inl (G.2.2.2.1, 60, .inl (fun _ => 0))), (q5, .inl (G.2.2.1, 155, .inl (fun _ => 0))), (q6, .inl (G.2.2.1, 873, .inl (fun _ => 0)))] H := hP
  have hD : va_D A [(h0, .inr (5, [.ref q1, .ref q2, .int 0, .ref q3, .int 0, .int 0, .int 0, .ref q4, .int 0, .ref q5, .int 0, .int (-1), .int 0, .int 0, .ref q6])), (q1, .inl (G.2.2.1, 873, .inl (upd (upd (fun _ => 0) 0 1) 1 1))), (q2, .inl (G.2.2.1, 3492, .inl (fun _ => 0))), (q3, .inl (G.2.2.1, 873, .inl (fun _ => 0))), (q4, .inl (G.2.2.2.1, 60, .inl (fun _ => 0))), (q5, .inl (G.2.2.1, 155, .inl (fun _ => 0))), (q6, .inl (G.2.2.1, 873, .inl (fun _ => 0)))] := hD
  refine lv_iinc (v := 2) hx hb dX5_init_79 hl (show ([(1, .int 1), (0, .ref h0)] : List (Nat × Value))[0]? = some (1, .int 1) from rfl) (by decide) (by decide) (lv' := [(1, .int 2), (0, .ref h0)]) rfl (fun ls hl => ?_)
  refine lv_goto (tgt := 64) hx hb dX5_init_82 (by decide) ?_
  refine lv_iload_n hx hb dX5_init_64 rfl (lv_at hl 0 rfl) ?_
  refine lv_bipush hx hb dX5_init_65 rfl ?_
  refine lv_icmp_ge (tgt := 85) hx hb dX5_init_67 (by decide) (fun c1 => absurd c1 (by decide)) (fun c1 => ?_)
  refine lv_aload_n hx hb dX5_init_70 rfl (lv_at hl 1 rfl) ?_
  refine va_get (D := G.1) (ci := 5) (v := .ref q1) (C := RX5) (T := TX5) (N := 15) hx hb hts (by decide +kernel) hown hK hP 0 rfl rfl 0 (by decide) (hts (.fieldLink RX5 7 "AgreedSlotsModel" "now" "[I") (by decide +kernel)) (fun _ h9 => h9) rfl dX5_init_71 ?_
  refine lv_iconst hx hb dX5_init_74 rfl ?_
  refine lv_iload_n hx hb dX5_init_75 rfl (lv_at hl 0 rfl) ?_
  refine lv_iadd hx hb dX5_init_76 ?_
  refine lv_iconst hx hb dX5_init_77 rfl ?_
  refine va_iast hx hb hK hP hD hS 1 0 rfl rfl (by unfold vp_in; decide) dX5_init_78 (fun H locs hP hD hS => ?_)
  have hP : va_P G.1 vwCl [(h0, .inr (5, [.ref q1, .ref q2, .int 0, .ref q3, .int 0, .int 0, .int 0, .ref q4, .int 0, .ref q5, .int 0, .int (-1), .int 0, .int 0, .ref q6])), (q1, .inl (G.2.2.1, 873, .inl (upd (upd (upd (fun _ => 0) 0 1) 1 1) 2 1))), (q2, .inl (G.2.2.1, 3492, .inl (fun _ => 0))), (q3, .inl (G.2.2.1, 873, .inl (fun _ => 0))), (q4, .inl (G.2.2.2.1, 60, .inl (fun _ => 0))), (q5, .inl (G.2.2.1, 155, .inl (fun _ => 0))), (q6, .inl (G.2.2.1, 873, .inl (fun _ => 0)))] H := hP
  have hD : va_D A [(h0, .inr (5, [.ref q1, .ref q2, .int 0, .ref q3, .int 0, .int 0, .int 0, .ref q4, .int 0, .ref q5, .int 0, .int (-1), .int 0, .int 0, .ref q6])), (q1, .inl (G.2.2.1, 873, .inl (upd (upd (upd (fun _ => 0) 0 1) 1 1) 2 1))), (q2, .inl (G.2.2.1, 3492, .inl (fun _ => 0))), (q3, .inl (G.2.2.1, 873, .inl (fun _ => 0))), (q4, .inl (G.2.2.2.1, 60, .inl (fun _ => 0))), (q5, .inl (G.2.2.1, 155, .inl (fun _ => 0))), (q6, .inl (G.2.2.1, 873, .inl (fun _ => 0)))] := hD
  refine lv_iinc (v := 3) hx hb dX5_init_79 hl (show ([(1, .int 2), (0, .ref h0)] : List (Nat × Value))[0]? = some (1, .int 2) from rfl) (by decide) (by decide) (lv' := [(1, .int 3), (0, .ref h0)]) rfl (fun ls hl => ?_)
  refine lv_goto (tgt := 64) hx hb dX5_init_82 (by decide) ?_
  refine lv_iload_n hx hb dX5_init_64 rfl (lv_at hl 0 rfl) ?_
  refine lv_bipush hx hb dX5_init_65 rfl ?_
  refine lv_icmp_ge (tgt := 85) hx hb dX5_init_67 (by decide) (fun c1 => absurd c1 (by decide)) (fun c1 => ?_)
  refine lv_aload_n hx hb dX5_init_70 rfl (lv_at hl 1 rfl) ?_
  refine va_get (D := G.1) (ci := 5) (v := .ref q1) (C := RX5) (T := TX5) (N := 15) hx hb hts (by decide +kernel) hown hK hP 0 rfl rfl 0 (by decide) (hts (.fieldLink RX5 7 "AgreedSlotsModel" "now" "[I") (by decide +kernel)) (fun _ h9 => h9) rfl dX5_init_71 ?_
  refine lv_iconst hx hb dX5_init_74 rfl ?_
  refine lv_iload_n hx hb dX5_init_75 rfl (lv_at hl 0 rfl) ?_
  refine lv_iadd hx hb dX5_init_76 ?_
  refine lv_iconst hx hb dX5_init_77 rfl ?_
  refine va_iast hx hb hK hP hD hS 1 0 rfl rfl (by unfold vp_in; decide) dX5_init_78 (fun H locs hP hD hS => ?_)
  have hP : va_P G.1 vwCl [(h0, .inr (5, [.ref q1, .ref q2, .int 0, .ref q3, .int 0, .int 0, .int 0, .ref q4, .int 0, .ref q5, .int 0, .int (-1), .int 0, .int 0, .ref q6])), (q1, .inl (G.2.2.1, 873, .inl (upd (upd (upd (upd (fun _ => 0) 0 1) 1 1) 2 1) 3 1))), (q2, .inl (G.2.2.1, 3492, .inl (fun _ => 0))), (q3, .inl (G.2.2.1, 873, .inl (fun _ => 0))), (q4, .inl (G.2.2.2.1, 60, .inl (fun _ => 0))), (q5, .inl (G.2.2.1, 155, .inl (fun _ => 0))), (q6, .inl (G.2.2.1, 873, .inl (fun _ => 0)))] H := hP
  have hD : va_D A [(h0, .inr (5, [.ref q1, .ref q2, .int 0, .ref q3, .int 0, .int 0, .int 0, .ref q4, .int 0, .ref q5, .int 0, .int (-1), .int 0, .int 0, .ref q6])), (q1, .inl (G.2.2.1, 873, .inl (upd (upd (upd (upd (fun _ => 0) 0 1) 1 1) 2 1) 3 1))), (q2, .inl (G.2.2.1, 3492, .inl (fun _ => 0))), (q3, .inl (G.2.2.1, 873, .inl (fun _ => 0))), (q4, .inl (G.2.2.2.1, 60, .inl (fun _ => 0))), (q5, .inl (G.2.2.1, 155, .inl (fun _ => 0))), (q6, .inl (G.2.2.1, 873, .inl (fun _ => 0)))] := hD
  refine lv_iinc (v := 4) hx hb dX5_init_79 hl (show ([(1, .int 3), (0, .ref h0)] : List (Nat × Value))[0]? = some (1, .int 3) from rfl) (by decide) (by decide) (lv' := [(1, .int 4), (0, .ref h0)]) rfl (fun ls hl => ?_)
  refine lv_goto (tgt := 64) hx hb dX5_init_82 (by decide) ?_
  refine lv_iload_n hx hb dX5_init_64 rfl (lv_at hl 0 rfl) ?_
  refine lv_bipush hx hb dX5_init_65 rfl ?_
  refine lv_icmp_ge (tgt := 85) hx hb dX5_init_67 (by decide) (fun c1 => absurd c1 (by decide)) (fun c1 => ?_)
  refine lv_aload_n hx hb dX5_init_70 rfl (lv_at hl 1 rfl) ?_
  refine va_get (D := G.1) (ci := 5) (v := .ref q1) (C := RX5) (T := TX5) (N := 15) hx hb hts (by decide +kernel) hown hK hP 0 rfl rfl 0 (by decide) (hts (.fieldLink RX5 7 "AgreedSlotsModel" "now" "[I") (by decide +kernel)) (fun _ h9 => h9) rfl dX5_init_71 ?_
  refine lv_iconst hx hb dX5_init_74 rfl ?_
  refine lv_iload_n hx hb dX5_init_75 rfl (lv_at hl 0 rfl) ?_
  refine lv_iadd hx hb dX5_init_76 ?_
  refine lv_iconst hx hb dX5_init_77 rfl ?_
  refine va_iast hx hb hK hP hD hS 1 0 rfl rfl (by unfold vp_in; decide) dX5_init_78 (fun H locs hP hD hS => ?_)
  have hP : va_P G.1 vwCl [(h0, .inr (5, [.ref q1, .ref q2, .int 0, .ref q3, .int 0, .int 0, .int 0, .ref q4, .int 0, .ref q5, .int 0, .int (-1), .int 0, .int 0, .ref q6])), (q1, .inl (G.2.2.1, 873, .inl (upd (upd (upd (upd (upd (fun _ => 0) 0 1) 1 1) 2 1) 3 1) 4 1))), (q2, .inl (G.2.2.1, 3492, .inl (fun _ => 0))), (q3, .inl (G.2.2.1, 873, .inl (fun _ => 0))), (q4, .inl (G.2.2.2.1, 60, .inl (fun _ => 0))), (q5, .inl (G.2.2.1, 155, .inl (fun _ => 0))), (q6, .inl (G.2.2.1, 873, .inl (fun _ => 0)))] H := hP
  have hD : va_D A [(h0, .inr (5, [.ref q1, .ref q2, .int 0, .ref q3, .int 0, .int 0, .int 0, .ref q4, .int 0, .ref q5, .int 0, .int (-1), .int 0, .int 0, .ref q6])), (q1, .inl (G.2.2.1, 873, .inl (upd (upd (upd (upd (upd (fun _ => 0) 0 1) 1 1) 2 1) 3 1) 4 1))), (q2, .inl (G.2.2.1, 3492, .inl (fun _ => 0))), (q3, .inl (G.2.2.1, 873, .inl (fun _ => 0))), (q4, .inl (G.2.2.2.1, 60, .inl (fun _ => 0))), (q5, .inl (G.2.2.1, 155, .inl (fun _ => 0))), (q6, .inl (G.2.2.1, 873, .inl (fun _ => 0)))] := hD
  refine lv_iinc (v := 5) hx hb dX5_init_79 hl (show ([(1, .int 4), (0, .ref h0)] : List (Nat × Value))[0]? = some (1, .int 4) from rfl) (by decide) (by decide) (lv' := [(1, .int 5), (0, .ref h0)]) rfl (fun ls hl => ?_)
  refine lv_goto (tgt := 64) hx hb dX5_init_82 (by decide) ?_
  refine lv_iload_n hx hb dX5_init_64 rfl (lv_at hl 0 rfl) ?_
  refine lv_bipush hx hb dX5_init_65 rfl ?_
  refine lv_icmp_ge (tgt := 85) hx hb dX5_init_67 (by decide) (fun c1 => absurd c1 (by decide)) (fun c1 => ?_)
  refine lv_aload_n hx hb dX5_init_70 rfl (lv_at hl 1 rfl) ?_
  refine va_get (D := G.1) (ci := 5) (v := .ref q1) (C := RX5) (T := TX5) (N := 15) hx hb hts (by decide +kernel) hown hK hP 0 rfl rfl 0 (by decide) (hts (.fieldLink RX5 7 "AgreedSlotsModel" "now" "[I") (by decide +kernel)) (fun _ h9 => h9) rfl dX5_init_71 ?_
  refine lv_iconst hx hb dX5_init_74 rfl ?_
  refine lv_iload_n hx hb dX5_init_75 rfl (lv_at hl 0 rfl) ?_
  refine lv_iadd hx hb dX5_init_76 ?_
  refine lv_iconst hx hb dX5_init_77 rfl ?_
  refine va_iast hx hb hK hP hD hS 1 0 rfl rfl (by unfold vp_in; decide) dX5_init_78 (fun H locs hP hD hS => ?_)
  have hP : va_P G.1 vwCl [(h0, .inr (5, [.ref q1, .ref q2, .int 0, .ref q3, .int 0, .int 0, .int 0, .ref q4, .int 0, .ref q5, .int 0, .int (-1), .int 0, .int 0, .ref q6])), (q1, .inl (G.2.2.1, 873, .inl (upd (upd (upd (upd (upd (upd (fun _ => 0) 0 1) 1 1) 2 1) 3 1) 4 1) 5 1))), (q2, .inl (G.2.2.1, 3492, .inl (fun _ => 0))), (q3, .inl (G.2.2.1, 873, .inl (fun _ => 0))), (q4, .inl (G.2.2.2.1, 60, .inl (fun _ => 0))), (q5, .inl (G.2.2.1, 155, .inl (fun _ => 0))), (q6, .inl (G.2.2.1, 873, .inl (fun _ => 0)))] H := hP
  have hD : va_D A [(h0, .inr (5, [.ref q1, .ref q2, .int 0, .ref q3, .int 0, .int 0, .int 0, .ref q4, .int 0, .ref q5, .int 0, .int (-1), .int 0, .int 0, .ref q6])), (q1, .inl (G.2.2.1, 873, .inl (upd (upd (upd (upd (upd (upd (fun _ => 0) 0 1) 1 1) 2 1) 3 1) 4 1) 5 1))), (q2, .inl (G.2.2.1, 3492, .inl (fun _ => 0))), (q3, .inl (G.2.2.1, 873, .inl (fun _ => 0))), (q4, .inl (G.2.2.2.1, 60, .inl (fun _ => 0))), (q5, .inl (G.2.2.1, 155, .inl (fun _ => 0))), (q6, .inl (G.2.2.1, 873, .inl (fun _ => 0)))] := hD
  refine lv_iinc (v := 6) hx hb dX5_init_79 hl (show ([(1, .int 5), (0, .ref h0)] : List (Nat × Value))[0]? = some (1, .int 5) from rfl) (by decide) (by decide) (lv' := [(1, .int 6), (0, .ref h0)]) rfl (fun ls hl => ?_)
  refine lv_goto (tgt := 64) hx hb dX5_init_82 (by decide) ?_
  refine lv_iload_n hx hb dX5_init_64 rfl (lv_at hl 0 rfl) ?_
  refine lv_bipush hx hb dX5_init_65 rfl ?_
  refine lv_icmp_ge (tgt := 85) hx hb dX5_init_67 (by decide) (fun c1 => ?_) (fun c1 => absurd (by decide) c1)
  refine lv_aload_n hx hb dX5_init_85 rfl (lv_at hl 1 rfl) ?_
  refine va_get (D := G.1) (ci := 5) (v := .ref q1) (C := RX5) (T := TX5) (N := 15) hx hb hts (by decide +kernel) hown hK hP 0 rfl rfl 0 (by decide) (hts (.fieldLink RX5 7 "AgreedSlotsModel" "now" "[I") (by decide +kernel)) (fun _ h9 => h9) rfl dX5_init_86 ?_
  refine lv_sipush hx hb dX5_init_89 rfl ?_
  refine lv_iconst hx hb dX5_init_92 rfl ?_
  refine va_iast hx hb hK hP hD hS 1 0 rfl rfl (by unfold vp_in; decide) dX5_init_93 (fun H locs hP hD hS => ?_)
  have hP : va_P G.1 vwCl [(h0, .inr (5, [.ref q1, .ref q2, .int 0, .ref q3, .int 0, .int 0, .int 0, .ref q4, .int 0, .ref q5, .int 0, .int (-1), .int 0, .int 0, .ref q6])), (q1, .inl (G.2.2.1, 873, .inl (upd (upd (upd (upd (upd (upd (upd (fun _ => 0) 0 1) 1 1) 2 1) 3 1) 4 1) 5 1) 870 2))), (q2, .inl (G.2.2.1, 3492, .inl (fun _ => 0))), (q3, .inl (G.2.2.1, 873, .inl (fun _ => 0))), (q4, .inl (G.2.2.2.1, 60, .inl (fun _ => 0))), (q5, .inl (G.2.2.1, 155, .inl (fun _ => 0))), (q6, .inl (G.2.2.1, 873, .inl (fun _ => 0)))] H := hP
  have hD : va_D A [(h0, .inr (5, [.ref q1, .ref q2, .int 0, .ref q3, .int 0, .int 0, .int 0, .ref q4, .int 0, .ref q5, .int 0, .int (-1), .int 0, .int 0, .ref q6])), (q1, .inl (G.2.2.1, 873, .inl (upd (upd (upd (upd (upd (upd (upd (fun _ => 0) 0 1) 1 1) 2 1) 3 1) 4 1) 5 1) 870 2))), (q2, .inl (G.2.2.1, 3492, .inl (fun _ => 0))), (q3, .inl (G.2.2.1, 873, .inl (fun _ => 0))), (q4, .inl (G.2.2.2.1, 60, .inl (fun _ => 0))), (q5, .inl (G.2.2.1, 155, .inl (fun _ => 0))), (q6, .inl (G.2.2.1, 873, .inl (fun _ => 0)))] := hD
  exact W.vret hx hb hr (fun t ht hW => ⟨⟨(fun n => match n with | 0 => h0 | 1 => q1 | 2 => q2 | 3 => q3 | 4 => q4 | 5 => q5 | 6 => q6 | _ => 0), rfl, rfl, by rw [ht]; exact hP, va_K.moved hW.alike hK, hD⟩, hS.F ht⟩) hS.2.2 dX5_init_94
