/-! what the functions are laid with -/
def lt1 {α β : Type} (a : α) (f : α → β) : β := f a
def bd2 {α β : Type} (a : Option (α × Mem)) (f : α → Mem → Option β) : Option β := match a with
  | none => none
  | some q => f q.1 q.2
def fuel0 : Nat := 4096
theorem ol {α β : Type} {a : α} {f : α → β} {r : β} (h : lt1 a f = r) : ∃ x, x = a ∧ f x = r := ⟨a, rfl, h⟩
theorem ob {α β : Type} {a : Option α} {f : α → Option β} {r : β} (h : a.bind f = some r) : ∃ x, a = some x ∧ f x = some r := by
  cases a with
  | none => cases h
  | some x => exact ⟨x, rfl, h⟩
theorem ob2 {α β : Type} {a : Option (α × Mem)} {f : α → Mem → Option β} {r : β} (h : bd2 a f = some r) : ∃ x g, a = some (x, g) ∧ f x g = some r := by
  cases a with
  | none => cases h
  | some x => exact ⟨x.1, x.2, rfl, h⟩
theorem oip {α : Type} {c : Prop} [Decidable c] {a b r : α} (h : c) (hf : (if c then a else b) = r) : a = r := by rw [if_pos h] at hf; exact hf
theorem oin {α : Type} {c : Prop} [Decidable c] {a b r : α} (h : ¬ c) (hf : (if c then a else b) = r) : b = r := by rw [if_neg h] at hf; exact hf
theorem obt {α : Type} {c : Bool} {a b r : α} (h : ¬ bI c = 0) (hf : (if c then a else b) = r) : a = r := by
  cases c
  · exact absurd rfl h
  · exact hf
theorem obf {α : Type} {c : Bool} {a b r : α} (h : bI c = 0) (hf : (if c then a else b) = r) : b = r := by
  cases c
  · exact hf
  · exact absurd h (by decide)
theorem tab_o {x : Int32} {lo hi : Int} (h : ∀ k : Int, lo ≤ k → k ≤ hi → ¬ x = Int32.ofInt k) : x.toInt < lo ∨ hi < x.toInt := by
  by_cases h1 : x.toInt < lo
  · exact Or.inl h1
  · by_cases h2 : hi < x.toInt
    · exact Or.inr h2
    · exact absurd (Int32.ofInt_toInt x).symm (h x.toInt (by omega) (by omega))
theorem ne_i {x y : Int32} {k : Int} (h : ¬ x = y) (hk : y.toInt = k) : ¬ k = x.toInt := fun e => h (Int32.toInt_inj.mp (by rw [hk, e]))
/-! the class's objects by number: 0 the object, 1 its state, 13 the snapshot, 25 the history, 26 its rows, 27, 39 .. 75 the rows' states, 87 the text, 88 its signs, 89 the orders, 90 .. 92 their arrays; a state's arrays follow it -/
def rowOf (j : Nat) : Nat := 27 + 12 * j
def stSh (o : Nat) : List Kd := [.inl (2, [none, none, none, none, none, some (o + 1), some (o + 2), some (o + 3), some (o + 4), some (o + 5), some (o + 6), some (o + 7), some (o + 8), some (o + 9), some (o + 10), some (o + 11)]), .inr (.inl (false, 6)), .inr (.inl (false, 96)), .inr (.inl (false, 96)), .inr (.inl (false, 3)), .inr (.inl (false, 3)), .inr (.inl (false, 3)), .inr (.inl (false, 48)), .inr (.inl (false, 288)), .inr (.inl (false, 288)), .inr (.inl (false, 17)), .inr (.inl (false, 17))]
def shC : List Kd := [.inl (4, [some 1, some 13, none, some 25, some 87, some 89, none, none, none, none])] ++ (stSh 1 ++ (stSh 13 ++ ([.inl (0, [some 26, none, none]), .inr (.inr (5, rowOf))] ++ (stSh 27 ++ (stSh 39 ++ (stSh 51 ++ (stSh 63 ++ (stSh 75 ++ [.inl (3, [some 88, none]), .inr (.inl (true, 60)), .inl (1, [some 90, some 91, some 92, none, none, none]), .inr (.inl (false, 20)), .inr (.inl (false, 20)), .inr (.inl (false, 60))]))))))))
def IsSt (o : Nat) : Prop := o = 1 ∨ o = 13 ∨ o = 27 ∨ o = 39 ∨ o = 51 ∨ o = 63 ∨ o = 75
theorem is_1 : IsSt 1 := Or.inl rfl
theorem is_13 : IsSt 13 := Or.inr (Or.inl rfl)
theorem is_rowOf {j : Nat} (h : j < 5) : IsSt (rowOf j) := by
  match j, h with
  | 0, _ => exact Or.inr (Or.inr (Or.inl rfl))
  | 1, _ => exact Or.inr (Or.inr (Or.inr (Or.inl rfl)))
  | 2, _ => exact Or.inr (Or.inr (Or.inr (Or.inr (Or.inl rfl))))
  | 3, _ => exact Or.inr (Or.inr (Or.inr (Or.inr (Or.inr (Or.inl rfl)))))
  | 4, _ => exact Or.inr (Or.inr (Or.inr (Or.inr (Or.inr (Or.inr rfl)))))
theorem is_row {i : Int32} {o : Nat} (h : rdr 5 rowOf i = some o) : IsSt o := by
  unfold rdr at h
  by_cases hb : i < 0 ∨ 5 ≤ i.toNatClampNeg
  · rw [if_pos hb] at h; cases h
  · rw [if_neg hb] at h
    cases h
    exact is_rowOf (by omega)
theorem st_0 {o : Nat} (h : IsSt o) : shC[o]? = some (.inl (2, [none, none, none, none, none, some (o + 1), some (o + 2), some (o + 3), some (o + 4), some (o + 5), some (o + 6), some (o + 7), some (o + 8), some (o + 9), some (o + 10), some (o + 11)])) := by
  rcases h with rfl | rfl | rfl | rfl | rfl | rfl | rfl <;> rfl
theorem st_1 {o : Nat} (h : IsSt o) : shC[o + 1]? = some (.inr (.inl (false, 6))) := by
  rcases h with rfl | rfl | rfl | rfl | rfl | rfl | rfl <;> rfl
theorem st_2 {o : Nat} (h : IsSt o) : shC[o + 2]? = some (.inr (.inl (false, 96))) := by
  rcases h with rfl | rfl | rfl | rfl | rfl | rfl | rfl <;> rfl
theorem st_3 {o : Nat} (h : IsSt o) : shC[o + 3]? = some (.inr (.inl (false, 96))) := by
  rcases h with rfl | rfl | rfl | rfl | rfl | rfl | rfl <;> rfl
theorem st_4 {o : Nat} (h : IsSt o) : shC[o + 4]? = some (.inr (.inl (false, 3))) := by
  rcases h with rfl | rfl | rfl | rfl | rfl | rfl | rfl <;> rfl
theorem st_5 {o : Nat} (h : IsSt o) : shC[o + 5]? = some (.inr (.inl (false, 3))) := by
  rcases h with rfl | rfl | rfl | rfl | rfl | rfl | rfl <;> rfl
theorem st_6 {o : Nat} (h : IsSt o) : shC[o + 6]? = some (.inr (.inl (false, 3))) := by
  rcases h with rfl | rfl | rfl | rfl | rfl | rfl | rfl <;> rfl
theorem st_7 {o : Nat} (h : IsSt o) : shC[o + 7]? = some (.inr (.inl (false, 48))) := by
  rcases h with rfl | rfl | rfl | rfl | rfl | rfl | rfl <;> rfl
theorem st_8 {o : Nat} (h : IsSt o) : shC[o + 8]? = some (.inr (.inl (false, 288))) := by
  rcases h with rfl | rfl | rfl | rfl | rfl | rfl | rfl <;> rfl
theorem st_9 {o : Nat} (h : IsSt o) : shC[o + 9]? = some (.inr (.inl (false, 288))) := by
  rcases h with rfl | rfl | rfl | rfl | rfl | rfl | rfl <;> rfl
theorem st_10 {o : Nat} (h : IsSt o) : shC[o + 10]? = some (.inr (.inl (false, 17))) := by
  rcases h with rfl | rfl | rfl | rfl | rfl | rfl | rfl <;> rfl
theorem st_11 {o : Nat} (h : IsSt o) : shC[o + 11]? = some (.inr (.inl (false, 17))) := by
  rcases h with rfl | rfl | rfl | rfl | rfl | rfl | rfl <;> rfl
theorem shC_0 : shC[0]? = some (.inl (4, [some 1, some 13, none, some 25, some 87, some 89, none, none, none, none])) := rfl
theorem shC_25 : shC[25]? = some (.inl (0, [some 26, none, none])) := rfl
theorem shC_26 : shC[26]? = some (.inr (.inr (5, rowOf))) := rfl
theorem shC_87 : shC[87]? = some (.inl (3, [some 88, none])) := rfl
theorem shC_88 : shC[88]? = some (.inr (.inl (true, 60))) := rfl
theorem shC_89 : shC[89]? = some (.inl (1, [some 90, some 91, some 92, none, none, none])) := rfl
theorem shC_90 : shC[90]? = some (.inr (.inl (false, 20))) := rfl
theorem shC_91 : shC[91]? = some (.inr (.inl (false, 20))) := rfl
theorem shC_92 : shC[92]? = some (.inr (.inl (false, 60))) := rfl