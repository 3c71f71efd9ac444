/-! constructors that make objects: what is made is put behind what was there -/
section GW
variable {p : Program} {l : Launch} {e : Env} {R : Room} {s : State} {m : MethodId} {args : Array Value} {below : List Frame} {meth : Method} {c : Code} {H : Heap} {locs : List Loc} {cells slots : Nat} {Q : State → Prop}
variable {pc : Nat} {ls : Array Slot} {rest st0 : List Value} {a : Array Value} {D : va_G} {cl : List vw_C} {A : Nat → Prop} {tys : List (ClassId × FieldType)} {H0 : Heap} {mc ms : Nat}
theorem gw_last {D : va_G} {cl : List vw_C} {X : va_W} {c0 : Nat × va_E} {H : Heap} (hP : va_P D cl (X ++ [c0]) H) : va_P D cl [c0] H := by
  intro k q hq
  have hz : k < 1 := (List.getElem?_eq_some_iff.mp hq).1
  rw [show k = 0 by omega] at hq
  cases hq
  exact hP X.length c0 (by simp)
theorem gw_lastD (c0 : Nat × va_E) (B : Nat → Prop) (hB : B c0.1) : va_D B [c0] := by
  refine ⟨fun i j p q hi hj _ => ?_, fun k q hq => ?_⟩
  · have h1 : i < 1 := (List.getElem?_eq_some_iff.mp hi).1
    have h2 : j < 1 := (List.getElem?_eq_some_iff.mp hj).1
    omega
  · have hz : k < 1 := (List.getElem?_eq_some_iff.mp hq).1
    rw [show k = 0 by omega] at hq
    cases hq
    exact hB
theorem gw_free {X : va_W} {c0 : Nat × va_E} (hD : va_D A (X ++ [c0])) (hS : va_S A H0 H locs) (hA : ∀ q, H0.size ≤ q → A q) : ∀ q, va_A [c0] H.size q → A q := by
  intro q h
  rcases h with ⟨k, e, h⟩ | h
  · have hz : k < 1 := (List.getElem?_eq_some_iff.mp h).1
    rw [show k = 0 by omega] at h
    have h2 : c0 = (q, e) := Option.some.inj h
    have := hD.2 X.length c0 (by simp)
    rw [h2] at this
    exact this
  · exact hA q (Nat.le_trans hS.1 h)
theorem gw_join {X w1 : va_W} {c0 : Nat × va_E} {H1 : Heap} (hP : va_P D cl (X ++ [c0]) H) (hD : va_D A (X ++ [c0])) (hk : ∀ q : Nat, q < H.size → ¬ va_A [c0] H.size q → H1[q]? = H[q]?) (hF : ∀ q, va_A [c0] H.size q → A q) (hP1 : va_P D cl w1 H1) (hD1 : va_D (va_A [c0] H.size) w1) : va_P D cl (X ++ w1) H1 ∧ va_D A (X ++ w1) := by
  have up : ∀ (k : Nat) (q : Nat × va_E), X[k]? = some q → (X ++ [c0])[k]? = some q := fun k q hq => by
    rw [List.getElem?_append_left (List.getElem?_eq_some_iff.mp hq).1]; exact hq
  have apart : ∀ (k : Nat) (q : Nat × va_E), X[k]? = some q → q.1 < H.size ∧ ¬ va_A [c0] H.size q.1 := by
    intro k q hq
    have hl := (hP k q (up k q hq)).lt
    refine ⟨hl, fun h => ?_⟩
    rcases h with ⟨k2, e, h⟩ | h
    · have hz : k2 < 1 := (List.getElem?_eq_some_iff.mp h).1
      rw [show k2 = 0 by omega] at h
      have h2 : c0 = (q.1, e) := Option.some.inj h
      have := hD.1 k X.length q c0 (up k q hq) (by simp) (by rw [h2])
      have h3 := (List.getElem?_eq_some_iff.mp hq).1
      omega
    · omega
  refine ⟨va_P.app (fun k q hq => ?_) hP1, va_D.app ⟨fun i j x y hi hj => hD.1 i j x y (up i x hi) (up j y hj), fun k q hq => hD.2 k q (up k q hq)⟩ (hD1.weaken (fun k q _ h => hF q.1 h)) (fun i j x y hx hy hxy => ?_)⟩
  · obtain ⟨g1, g2⟩ := apart k q hq
    exact (hP k q (up k q hq)).kept (hk q.1 g1 g2)
  · exact (apart i x hx).2 (by rw [hxy]; exact hD1.2 j y hy)
/-- a constructor's call on the object that was made last -/
theorem gw_callv {S : Type} {post : S → Prop} {w : S → va_W} {X : va_W} {c0 : Nat × va_E} (hr : va_Run p l e R s m args below meth c H locs cells slots mc ms (F0 m pc ls st0) rest (va_Qv post (fun u U => va_P D cl (w u) U.heap ∧ va_K D cl tys U ∧ va_D (va_A [c0] H.size) (w u)) (va_A [c0] H.size) a) (va_A [c0] H.size)) (hP : va_P D cl (X ++ [c0]) H) (hD : va_D A (X ++ [c0])) (hS : va_S A H0 H locs) (hA : ∀ q, H0.size ≤ q → A q)
    (kk : ∀ (u : S) (H1 : Heap) (locs1 : List Loc), post u → va_P D cl (X ++ w u) H1 → va_D A (X ++ w u) → va_S A H0 H1 locs1 → W p l e R s m args below meth c H1 locs1 (cells + mc) (slots + ms) Q (F0 m (pc + 3) ls rest)) : W p l e R s m args below meth c H locs cells slots Q (F0 m pc ls st0) := by
  have hF := gw_free hD hS hA
  refine va_callv hr hS (fun q _ h => hF q h) hF (fun u t H1 locs1 ht hvm hw hB hz hk hS1 => ?_)
  obtain ⟨hP1, -, hD1⟩ := hB
  rw [ht] at hP1
  obtain ⟨a1, a2⟩ := gw_join hP hD hk hF hP1 hD1
  exact kk u H1 locs1 hw a1 a2 hS1
/-- what such a call asks -/
theorem gw_pre {q : Nat} {ee : va_E} (hP : va_P D cl [(q, ee)] H) (hK : va_K D cl tys s) : PreS s H (va_Pc [.ref q] (fun U => U.heap.size = H.size ∧ va_P D cl [(q, ee)] U.heap ∧ va_K D cl tys U ∧ va_D (fun _ => True) [(q, ee)])) (.ref q :: []) :=
  ⟨fun a U g mk q => by obtain ⟨q0, q1, qP, qK, qD⟩ := q; exact ⟨q0, q1, qP, va_K.moved (u := U) (U := U.calling g mk a) (Vm.Alike.refl U.vm) qK, qD⟩, fun U hU hW => ⟨rfl, by rw [hU], by rw [hU]; exact hP, va_K.moved hW.alike hK, gw_lastD _ _ trivial⟩⟩
theorem gw_preN {q : Nat} {ee : va_E} (hP : va_P D cl [(q, ee)] H) (hK : va_K D cl tys s) (hN : k_NW s) (hO : va_AO RX2 s) : PreS s H (va_Pc [.ref q] (fun U => U.heap.size = H.size ∧ va_P D cl [(q, ee)] U.heap ∧ va_K D cl tys U ∧ va_D (fun _ => True) [(q, ee)] ∧ k_NW U ∧ va_AO RX2 U)) (.ref q :: []) :=
  ⟨fun a U g mk q => by obtain ⟨q0, q1, qP, qK, qD, qN, qO⟩ := q; exact ⟨q0, q1, qP, va_K.moved (u := U) (U := U.calling g mk a) (Vm.Alike.refl U.vm) qK, qD, k_NW.same (u := U) (U := U.calling g mk a) rfl qN, va_AO.moved (u := U) (U := U.calling g mk a) (Vm.Alike.refl U.vm) qO⟩, fun U hU hW => ⟨rfl, by rw [hU], by rw [hU]; exact hP, va_K.moved hW.alike hK, gw_lastD _ _ trivial, k_NW.warm hW hN, va_AO.moved hW.alike hO⟩⟩
end GW
theorem k_wl_app (G : GG) (g : Mem) : ∀ (s1 : List Kd) (o : Nat) (s2 : List Kd), k_wl G g o (s1 ++ s2) = k_wl G g o s1 ++ k_wl G g (o + s1.length) s2 := by
  intro s1
  induction s1 with
  | nil => intro o s2; rfl
  | cons x r ih =>
    intro o s2
    show (_, _) :: k_wl G g (o + 1) (r ++ s2) = (_, _) :: (k_wl G g (o + 1) r ++ k_wl G g (o + (r.length + 1)) s2)
    rw [ih, show o + (r.length + 1) = o + 1 + r.length from by omega]
/-- a new state's fields -/
abbrev fs2 : List Value := [.int 0, .int 0, .int 0, .int 0, .int 0, .null, .null, .null, .null, .null, .null, .null, .null, .null, .null, .null]
theorem dfX2 : ∀ j, j < 16 → defaultValue (tyX2 j) = vp_V fs2 j := by
  intro j hj
  match j, hj with
  | 0, _ => rfl
  | 1, _ => rfl
  | 2, _ => rfl
  | 3, _ => rfl
  | 4, _ => rfl
  | 5, _ => rfl
  | 6, _ => rfl
  | 7, _ => rfl
  | 8, _ => rfl
  | 9, _ => rfl
  | 10, _ => rfl
  | 11, _ => rfl
  | 12, _ => rfl
  | 13, _ => rfl
  | 14, _ => rfl
  | 15, _ => rfl
  | n + 16, hj => exact absurd hj (by omega)
theorem dfX0 : ∀ j, j < 3 → defaultValue (tyX0 j) = vp_V [.null, .int 0, .int 0] j := by
  intro j hj
  match j, hj with
  | 0, _ => rfl
  | 1, _ => rfl
  | 2, _ => rfl
theorem dfX1 : ∀ j, j < 6 → defaultValue (tyX1 j) = vp_V [.null, .null, .null, .int 0, .int 0, .int 0] j := by
  intro j hj
  match j, hj with
  | 0, _ => rfl
  | 1, _ => rfl
  | 2, _ => rfl
  | 3, _ => rfl
  | 4, _ => rfl
  | 5, _ => rfl
theorem dfX3 : ∀ j, j < 2 → defaultValue (tyX3 j) = vp_V [.null, .int 0] j := by
  intro j hj
  match j, hj with
  | 0, _ => rfl
  | 1, _ => rfl
theorem dfX4 : ∀ j, j < 10 → defaultValue (tyX4 j) = vp_V [.null, .null, .int 0, .null, .null, .null, .int 0, .int 0, .int 0, .int 0] j := by
  intro j hj
  match j, hj with
  | 0, _ => rfl
  | 1, _ => rfl
  | 2, _ => rfl
  | 3, _ => rfl
  | 4, _ => rfl
  | 5, _ => rfl
  | 6, _ => rfl
  | 7, _ => rfl
  | 8, _ => rfl
  | 9, _ => rfl