/-! the walk from the entry -/
set_option maxHeartbeats 4000000 in
set_option maxRecDepth 100000 in
/-- THE LAW, from its entry -/
theorem whole_start {p : Program} {e : Env} {s : State} {m : MethodId} {below : List Frame} {meth : Method} {c : Code} (l : Launch) (hflags : l.flags = flags0) {b L : Nat} {xs : Nat → Int32} (hL : L ≤ 260) (C0 : lw_At p s m meth c b L xs) : W p l e room_1 s m #[Value.ref b] below meth c s.heap [] 0 0 (lw_Z below #[Value.ref b] s) (entryFrame m ([Value.ref b] : List Value).toArray 14) := by
  obtain ⟨hx, hb, hr, hml, hown, hts, hX, hbl, hlocks, hgv⟩ := id C0
  have hown : s.vm.findClass RL = some m.cls := hown
  have hA : ∀ q : Nat, s.heap.size ≤ q → AX s q := fun _ h => h
  have hts1 : ∀ w ∈ wsL_law, w.before #[Value.ref b] s = true := fun w h => hts w (wsL_law_in w h)
  obtain ⟨dC, dI, cI, cC, cR, hKK⟩ := k_known hts
  obtain ⟨adK, adV, hEE⟩ := k_starts hts hgv (A := AX s) (fun a h1 h2 => Nat.not_le.mpr h1 h2)
  have hNW : k_NW s := k_nests hts
  have hAO : va_AO RX2 s := va_AO.of (hts (.arrayOver (.object RX2)) (by decide +kernel))
  obtain ⟨G, hG⟩ : ∃ G : GG, G = ((dC, dI), (fun _ => 0), cI, cC, cR, adK, adV) := ⟨_, rfl⟩
  have hK : va_K G.1 vwCl (k_ty G) s := by rw [hG]; exact hKK _ _ _
  have hE : k_E G (AX s) s := by rw [hG]; exact hEE _ _ _ _ _
  have hS : va_S (AX s) s.heap s.heap [] := va_S.rf
  have hP : va_P G.1 vwCl [] s.heap := fun k q h => by simp at h
  have hD : va_D (AX s) [] := ⟨fun i j p q h => by simp at h, fun k q h => by simp at h⟩
  have hl := lv_entry ([.ref b]) (n := 14) (Nat.le_of_ble_eq_true rfl)
  rw [lg_entry_eq]
  generalize (lg_sl ([.ref b]) ++ List.replicate (14 - (lg_sl ([.ref b])).length) Slot.unset).toArray = ls at hl ⊢
  have hl : lv_has ls 14 [(0, .ref b)] := hl
  refine va_new (ci := 4) (fs := [.null, .null, .int 0, .null, .null, .null, .int 0, .int 0, .int 0, .int 0]) (C := RX4) (T := TX4) (N := 10) hx hb hts inX4 tyX4 tyX4_ok hown (hts1 (.classLink RL 14 RX4) (by decide +kernel)) (hts1 (.instantiable RX4 10) (by decide +kernel)) (hts1 (.initialized RX4) (by decide +kernel)) hK hP hD hS hA rfl dfX4 (Nat.le_of_ble_eq_true rfl) (Nat.le_of_ble_eq_true rfl) dL_law_0 (fun q4 H hP hD hS => ?_)
  refine lv_dup hx hb dL_law_3 rfl ?_
  refine gw_callv (X := []) (c0 := (q4, .inr (4, [.null, .null, .int 0, .null, .null, .null, .int 0, .int 0, .int 0, .int 0]))) (va_runI (As := []) (rest := [.ref q4]) ⟨hx, hb, hml, hown, hts1⟩ (c_X4_init l G q4 H.size) (cwI 0 hts1 gL_law_X4_init rfl rfl rfl (hts1 (.initialized RX4) (by decide +kernel)) (hts1 (.methodLink RL 90 yX4_init) (by decide +kernel)) (hts1 (.instanceMethod yX4_init) (by decide +kernel)) rfl (by decide +kernel) ⟨Nat.le_of_ble_eq_true rfl, Nat.le_of_ble_eq_true rfl⟩) (gw_preN (gw_last (X := []) hP) hK hNW hAO) rfl rfl hl.1 rfl (lv_room (Nat.le_of_ble_eq_true rfl)) dL_law_4 ⟨Nat.le_of_ble_eq_true rfl, Nat.le_of_ble_eq_true rfl⟩) hP hD hS hA (fun ac H locs hac hP hD hS => ?_)
  rw [← hac]
  have hP : va_P G.1 vwCl (wC G ac gCI) H := hP
  have hD : va_D (AX s) (wC G ac gCI) := hD
  refine W.widen (k := 600000) (n := 7302250) (Nat.le_of_ble_eq_true rfl) (Nat.le_of_ble_eq_true rfl) ?_
  refine lv_astore_n (lv' := [(1, .ref (ac 0)), (0, .ref b)]) hx hb dL_law_7 rfl hl (by decide) rfl (fun ls hl => ?_)
  have hLX : LX p s m c b L xs G ac := ⟨⟨hx, hb, hml, hown, hts1⟩, hX, hbl, hL, hK, k_D_any hD, hNW, hE⟩
  exact law_0 hLX hr hlocks RC_0 H locs ls hP hS hl
