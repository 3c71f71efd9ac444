theorem cell_q_same (cA : ClassId) (n : Nat) {f f' : Nat → Option Nat} (h : ∀ j, j < n → f j = f' j) : vp_cell cA (n, .inr (.inr (.inr (.inr f)))) = vp_cell cA (n, .inr (.inr (.inr (.inr f')))) := by
  rw [vp_cell_q, vp_cell_q]
  unfold arrV
  congr 1
  refine Array.ext (by simp) (fun i h1 h2 => ?_)
  have hi : i < n := by simpa using h1
  simp [h i hi]
/-- a cell of the world may be told in other words -/
theorem va_P_cell {D : va_G} {cl : List vw_C} {ws : va_W} {H : Heap} (hP : va_P D cl ws H) {q0 a : Nat} {cA : ClassId} {x y : vp_A} (he : ws[q0]? = some (a, .inl (cA, x))) (h : vp_cell cA x = vp_cell cA y) : va_P D cl (ws.set q0 (a, .inl (cA, y))) H := by
  intro k q hq
  rw [List.getElem?_set] at hq
  by_cases hk : q0 = k
  · subst hk
    rw [if_pos rfl] at hq
    have hlt : q0 < ws.length := (List.getElem?_eq_some_iff.mp he).1
    rw [if_pos hlt] at hq
    have := Option.some.inj hq
    subst this
    have := hP q0 _ he
    show H[a]? = some (vp_cell cA y)
    rw [← h]
    exact this
  · rw [if_neg hk] at hq
    exact hP k q hq
