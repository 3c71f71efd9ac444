/-! the class's acts on a state: what a change of a cell is to the row -/
theorem rup_eq (τ : Row) (k v : Nat) : rup τ k v k = v := if_pos rfl
theorem rup_ne {τ : Row} {k v j : Nat} (h : j ≠ k) : rup τ k v j = τ j := if_neg h
theorem mu_eq (g : Mem) (o k : Nat) (v : Int32) : m_up g o k v o k = v := by simp [m_up_eq]
theorem mu_k {g : Mem} {o k k' : Nat} {v : Int32} (h : k' ≠ k) : m_up g o k v o k' = g o k' := by simp [m_up_eq, h]
theorem mu_o {g : Mem} {o o' k k' : Nat} {v : Int32} (h : o' ≠ o) : m_up g o k v o' k' = g o' k' := by simp [m_up_eq, h]
theorem mu_q {g : Mem} {o q k : Nat} {v : Int32} (h : q ≠ o) : m_up g o k v q = g q := by unfold m_up m_set; rw [if_neg h]
/-- nothing but the state o changes -/
def Fr (o : Nat) (g g' : Mem) : Prop := ∀ q, q < o ∨ o + 12 ≤ q → g' q = g q
theorem Fr.rf {o : Nat} {g : Mem} : Fr o g g := fun _ _ => rfl
theorem Fr.tr {o : Nat} {g g1 g2 : Mem} (h1 : Fr o g g1) (h2 : Fr o g1 g2) : Fr o g g2 := fun q hq => (h2 q hq).trans (h1 q hq)
theorem Fr.up {o j k : Nat} {g : Mem} {v : Int32} (h : j < 12) : Fr o g (m_up g (o + j) k v) := fun q hq => mu_q (by omega)
theorem Fr.up0 {o k : Nat} {g : Mem} {v : Int32} : Fr o g (m_up g o k v) := fun q hq => mu_q (by omega)
theorem CR_1 {g : Mem} {o : Nat} {τ : Row} (hC : CR g o τ) {i : Nat} (hi : i < 6) (v : Nat) : CR (m_up g (o + 1) i (nI v)) o (rup τ (6 + i) v) := by
  obtain ⟨c0, c1, c2, c3, c4, a1, a2, a3, a4, a5, a6, a7, a8, a10, a11⟩ := hC
  refine ⟨?_, ?_, ?_, ?_, ?_, ?_, ?_, ?_, ?_, ?_, ?_, ?_, ?_, ?_, ?_⟩
  · rw [mu_o (by omega), c0]; congr 1; unfold upm; rw [rup_ne (by omega), rup_ne (by omega), rup_ne (by omega), rup_ne (by omega), rup_ne (by omega), rup_ne (by omega)]
  · rw [mu_o (by omega), c1, rup_ne (by omega)]
  · rw [mu_o (by omega), c2, rup_ne (by omega)]
  · rw [mu_o (by omega), c3, rup_ne (by omega)]
  · rw [mu_o (by omega), c4, rup_ne (by omega)]
  · intro k hk
    by_cases e : k = i
    · subst e
      rw [mu_eq, rup_eq]
    · rw [mu_k (by omega), a1 k hk, rup_ne (by omega)]
  · intro k hk
    rw [mu_o (by omega), a2 k hk, rup_ne (by omega)]
  · intro k hk
    rw [mu_o (by omega), a3 k hk, rup_ne (by omega)]
  · intro k hk
    rw [mu_o (by omega), a4 k hk, rup_ne (by omega)]
  · intro k hk
    rw [mu_o (by omega), a5 k hk, rup_ne (by omega)]
  · intro k hk
    rw [mu_o (by omega), a6 k hk, rup_ne (by omega)]
  · intro k hk
    rw [mu_o (by omega), a7 k hk, rup_ne (by omega)]
  · intro p a s hp ha hs hb
    rw [rup_ne (by omega)] at hb
    obtain ⟨e1, e2⟩ := a8 p a s hp ha hs hb
    rw [mu_o (by omega), mu_o (by omega), rup_ne (by omega), rup_ne (by omega)]
    exact ⟨e1, e2⟩
  · intro k hk
    rw [mu_o (by omega), a10 k hk, rup_ne (by omega)]
  · intro k hk
    rw [mu_o (by omega), a11 k hk, rup_ne (by omega)]
theorem CR_2 {g : Mem} {o : Nat} {τ : Row} (hC : CR g o τ) {i : Nat} (hi : i < 96) (v : Nat) : CR (m_up g (o + 2) i (nI v)) o (rup τ (12 + 2 * i) v) := by
  obtain ⟨c0, c1, c2, c3, c4, a1, a2, a3, a4, a5, a6, a7, a8, a10, a11⟩ := hC
  refine ⟨?_, ?_, ?_, ?_, ?_, ?_, ?_, ?_, ?_, ?_, ?_, ?_, ?_, ?_, ?_⟩
  · rw [mu_o (by omega), c0]; congr 1; unfold upm; rw [rup_ne (by omega), rup_ne (by omega), rup_ne (by omega), rup_ne (by omega), rup_ne (by omega), rup_ne (by omega)]
  · rw [mu_o (by omega), c1, rup_ne (by omega)]
  · rw [mu_o (by omega), c2, rup_ne (by omega)]
  · rw [mu_o (by omega), c3, rup_ne (by omega)]
  · rw [mu_o (by omega), c4, rup_ne (by omega)]
  · intro k hk
    rw [mu_o (by omega), a1 k hk, rup_ne (by omega)]
  · intro k hk
    by_cases e : k = i
    · subst e
      rw [mu_eq, rup_eq]
    · rw [mu_k (by omega), a2 k hk, rup_ne (by omega)]
  · intro k hk
    rw [mu_o (by omega), a3 k hk, rup_ne (by omega)]
  · intro k hk
    rw [mu_o (by omega), a4 k hk, rup_ne (by omega)]
  · intro k hk
    rw [mu_o (by omega), a5 k hk, rup_ne (by omega)]
  · intro k hk
    rw [mu_o (by omega), a6 k hk, rup_ne (by omega)]
  · intro k hk
    rw [mu_o (by omega), a7 k hk, rup_ne (by omega)]
  · intro p a s hp ha hs hb
    rw [rup_ne (by omega)] at hb
    obtain ⟨e1, e2⟩ := a8 p a s hp ha hs hb
    rw [mu_o (by omega), mu_o (by omega), rup_ne (by omega), rup_ne (by omega)]
    exact ⟨e1, e2⟩
  · intro k hk
    rw [mu_o (by omega), a10 k hk, rup_ne (by omega)]
  · intro k hk
    rw [mu_o (by omega), a11 k hk, rup_ne (by omega)]
theorem CR_3 {g : Mem} {o : Nat} {τ : Row} (hC : CR g o τ) {i : Nat} (hi : i < 96) (v : Nat) : CR (m_up g (o + 3) i (nI v)) o (rup τ (13 + 2 * i) v) := by
  obtain ⟨c0, c1, c2, c3, c4, a1, a2, a3, a4, a5, a6, a7, a8, a10, a11⟩ := hC
  refine ⟨?_, ?_, ?_, ?_, ?_, ?_, ?_, ?_, ?_, ?_, ?_, ?_, ?_, ?_, ?_⟩
  · rw [mu_o (by omega), c0]; congr 1; unfold upm; rw [rup_ne (by omega), rup_ne (by omega), rup_ne (by omega), rup_ne (by omega), rup_ne (by omega), rup_ne (by omega)]
  · rw [mu_o (by omega), c1, rup_ne (by omega)]
  · rw [mu_o (by omega), c2, rup_ne (by omega)]
  · rw [mu_o (by omega), c3, rup_ne (by omega)]
  · rw [mu_o (by omega), c4, rup_ne (by omega)]
  · intro k hk
    rw [mu_o (by omega), a1 k hk, rup_ne (by omega)]
  · intro k hk
    rw [mu_o (by omega), a2 k hk, rup_ne (by omega)]
  · intro k hk
    by_cases e : k = i
    · subst e
      rw [mu_eq, rup_eq]
    · rw [mu_k (by omega), a3 k hk, rup_ne (by omega)]
  · intro k hk
    rw [mu_o (by omega), a4 k hk, rup_ne (by omega)]
  · intro k hk
    rw [mu_o (by omega), a5 k hk, rup_ne (by omega)]
  · intro k hk
    rw [mu_o (by omega), a6 k hk, rup_ne (by omega)]
  · intro k hk
    rw [mu_o (by omega), a7 k hk, rup_ne (by omega)]
  · intro p a s hp ha hs hb
    rw [rup_ne (by omega)] at hb
    obtain ⟨e1, e2⟩ := a8 p a s hp ha hs hb
    rw [mu_o (by omega), mu_o (by omega), rup_ne (by omega), rup_ne (by omega)]
    exact ⟨e1, e2⟩
  · intro k hk
    rw [mu_o (by omega), a10 k hk, rup_ne (by omega)]
  · intro k hk
    rw [mu_o (by omega), a11 k hk, rup_ne (by omega)]
theorem CR_4 {g : Mem} {o : Nat} {τ : Row} (hC : CR g o τ) {i : Nat} (hi : i < 3) (v : Nat) : CR (m_up g (o + 4) i (nI v)) o (rup τ (204 + i) v) := by
  obtain ⟨c0, c1, c2, c3, c4, a1, a2, a3, a4, a5, a6, a7, a8, a10, a11⟩ := hC
  refine ⟨?_, ?_, ?_, ?_, ?_, ?_, ?_, ?_, ?_, ?_, ?_, ?_, ?_, ?_, ?_⟩
  · rw [mu_o (by omega), c0]; congr 1; unfold upm; rw [rup_ne (by omega), rup_ne (by omega), rup_ne (by omega), rup_ne (by omega), rup_ne (by omega), rup_ne (by omega)]
  · rw [mu_o (by omega), c1, rup_ne (by omega)]
  · rw [mu_o (by omega), c2, rup_ne (by omega)]
  · rw [mu_o (by omega), c3, rup_ne (by omega)]
  · rw [mu_o (by omega), c4, rup_ne (by omega)]
  · intro k hk
    rw [mu_o (by omega), a1 k hk, rup_ne (by omega)]
  · intro k hk
    rw [mu_o (by omega), a2 k hk, rup_ne (by omega)]
  · intro k hk
    rw [mu_o (by omega), a3 k hk, rup_ne (by omega)]
  · intro k hk
    by_cases e : k = i
    · subst e
      rw [mu_eq, rup_eq]
    · rw [mu_k (by omega), a4 k hk, rup_ne (by omega)]
  · intro k hk
    rw [mu_o (by omega), a5 k hk, rup_ne (by omega)]
  · intro k hk
    rw [mu_o (by omega), a6 k hk, rup_ne (by omega)]
  · intro k hk
    rw [mu_o (by omega), a7 k hk, rup_ne (by omega)]
  · intro p a s hp ha hs hb
    rw [rup_ne (by omega)] at hb
    obtain ⟨e1, e2⟩ := a8 p a s hp ha hs hb
    rw [mu_o (by omega), mu_o (by omega), rup_ne (by omega), rup_ne (by omega)]
    exact ⟨e1, e2⟩
  · intro k hk
    rw [mu_o (by omega), a10 k hk, rup_ne (by omega)]
  · intro k hk
    rw [mu_o (by omega), a11 k hk, rup_ne (by omega)]
theorem CR_5 {g : Mem} {o : Nat} {τ : Row} (hC : CR g o τ) {i : Nat} (hi : i < 3) (v : Nat) : CR (m_up g (o + 5) i (nI v)) o (rup τ (207 + i) v) := by
  obtain ⟨c0, c1, c2, c3, c4, a1, a2, a3, a4, a5, a6, a7, a8, a10, a11⟩ := hC
  refine ⟨?_, ?_, ?_, ?_, ?_, ?_, ?_, ?_, ?_, ?_, ?_, ?_, ?_, ?_, ?_⟩
  · rw [mu_o (by omega), c0]; congr 1; unfold upm; rw [rup_ne (by omega), rup_ne (by omega), rup_ne (by omega), rup_ne (by omega), rup_ne (by omega), rup_ne (by omega)]
  · rw [mu_o (by omega), c1, rup_ne (by omega)]
  · rw [mu_o (by omega), c2, rup_ne (by omega)]
  · rw [mu_o (by omega), c3, rup_ne (by omega)]
  · rw [mu_o (by omega), c4, rup_ne (by omega)]
  · intro k hk
    rw [mu_o (by omega), a1 k hk, rup_ne (by omega)]
  · intro k hk
    rw [mu_o (by omega), a2 k hk, rup_ne (by omega)]
  · intro k hk
    rw [mu_o (by omega), a3 k hk, rup_ne (by omega)]
  · intro k hk
    rw [mu_o (by omega), a4 k hk, rup_ne (by omega)]
  · intro k hk
    by_cases e : k = i
    · subst e
      rw [mu_eq, rup_eq]
    · rw [mu_k (by omega), a5 k hk, rup_ne (by omega)]
  · intro k hk
    rw [mu_o (by omega), a6 k hk, rup_ne (by omega)]
  · intro k hk
    rw [mu_o (by omega), a7 k hk, rup_ne (by omega)]
  · intro p a s hp ha hs hb
    rw [rup_ne (by omega)] at hb
    obtain ⟨e1, e2⟩ := a8 p a s hp ha hs hb
    rw [mu_o (by omega), mu_o (by omega), rup_ne (by omega), rup_ne (by omega)]
    exact ⟨e1, e2⟩
  · intro k hk
    rw [mu_o (by omega), a10 k hk, rup_ne (by omega)]
  · intro k hk
    rw [mu_o (by omega), a11 k hk, rup_ne (by omega)]
theorem CR_7 {g : Mem} {o : Nat} {τ : Row} (hC : CR g o τ) {i : Nat} (hi : i < 48) (v : Nat) : CR (m_up g (o + 7) i (nI v)) o (rup τ (789 + i) v) := by
  obtain ⟨c0, c1, c2, c3, c4, a1, a2, a3, a4, a5, a6, a7, a8, a10, a11⟩ := hC
  refine ⟨?_, ?_, ?_, ?_, ?_, ?_, ?_, ?_, ?_, ?_, ?_, ?_, ?_, ?_, ?_⟩
  · rw [mu_o (by omega), c0]; congr 1; unfold upm; rw [rup_ne (by omega), rup_ne (by omega), rup_ne (by omega), rup_ne (by omega), rup_ne (by omega), rup_ne (by omega)]
  · rw [mu_o (by omega), c1, rup_ne (by omega)]
  · rw [mu_o (by omega), c2, rup_ne (by omega)]
  · rw [mu_o (by omega), c3, rup_ne (by omega)]
  · rw [mu_o (by omega), c4, rup_ne (by omega)]
  · intro k hk
    rw [mu_o (by omega), a1 k hk, rup_ne (by omega)]
  · intro k hk
    rw [mu_o (by omega), a2 k hk, rup_ne (by omega)]
  · intro k hk
    rw [mu_o (by omega), a3 k hk, rup_ne (by omega)]
  · intro k hk
    rw [mu_o (by omega), a4 k hk, rup_ne (by omega)]
  · intro k hk
    rw [mu_o (by omega), a5 k hk, rup_ne (by omega)]
  · intro k hk
    rw [mu_o (by omega), a6 k hk, rup_ne (by omega)]
  · intro k hk
    by_cases e : k = i
    · subst e
      rw [mu_eq, rup_eq]
    · rw [mu_k (by omega), a7 k hk, rup_ne (by omega)]
  · intro p a s hp ha hs hb
    rw [rup_ne (by omega)] at hb
    obtain ⟨e1, e2⟩ := a8 p a s hp ha hs hb
    rw [mu_o (by omega), mu_o (by omega), rup_ne (by omega), rup_ne (by omega)]
    exact ⟨e1, e2⟩
  · intro k hk
    rw [mu_o (by omega), a10 k hk, rup_ne (by omega)]
  · intro k hk
    rw [mu_o (by omega), a11 k hk, rup_ne (by omega)]
theorem CR_10 {g : Mem} {o : Nat} {τ : Row} (hC : CR g o τ) {i : Nat} (hi : i < 16) (v : Nat) : CR (m_up g (o + 10) (i + 1) (nI v)) o (rup τ (837 + i) v) := by
  obtain ⟨c0, c1, c2, c3, c4, a1, a2, a3, a4, a5, a6, a7, a8, a10, a11⟩ := hC
  refine ⟨?_, ?_, ?_, ?_, ?_, ?_, ?_, ?_, ?_, ?_, ?_, ?_, ?_, ?_, ?_⟩
  · rw [mu_o (by omega), c0]; congr 1; unfold upm; rw [rup_ne (by omega), rup_ne (by omega), rup_ne (by omega), rup_ne (by omega), rup_ne (by omega), rup_ne (by omega)]
  · rw [mu_o (by omega), c1, rup_ne (by omega)]
  · rw [mu_o (by omega), c2, rup_ne (by omega)]
  · rw [mu_o (by omega), c3, rup_ne (by omega)]
  · rw [mu_o (by omega), c4, rup_ne (by omega)]
  · intro k hk
    rw [mu_o (by omega), a1 k hk, rup_ne (by omega)]
  · intro k hk
    rw [mu_o (by omega), a2 k hk, rup_ne (by omega)]
  · intro k hk
    rw [mu_o (by omega), a3 k hk, rup_ne (by omega)]
  · intro k hk
    rw [mu_o (by omega), a4 k hk, rup_ne (by omega)]
  · intro k hk
    rw [mu_o (by omega), a5 k hk, rup_ne (by omega)]
  · intro k hk
    rw [mu_o (by omega), a6 k hk, rup_ne (by omega)]
  · intro k hk
    rw [mu_o (by omega), a7 k hk, rup_ne (by omega)]
  · intro p a s hp ha hs hb
    rw [rup_ne (by omega)] at hb
    obtain ⟨e1, e2⟩ := a8 p a s hp ha hs hb
    rw [mu_o (by omega), mu_o (by omega), rup_ne (by omega), rup_ne (by omega)]
    exact ⟨e1, e2⟩
  · intro k hk
    by_cases e : k = i
    · subst e
      rw [mu_eq, rup_eq]
    · rw [mu_k (by omega), a10 k hk, rup_ne (by omega)]
  · intro k hk
    rw [mu_o (by omega), a11 k hk, rup_ne (by omega)]
theorem CR_11 {g : Mem} {o : Nat} {τ : Row} (hC : CR g o τ) {i : Nat} (hi : i < 16) (v : Nat) : CR (m_up g (o + 11) (i + 1) (nI v)) o (rup τ (853 + i) v) := by
  obtain ⟨c0, c1, c2, c3, c4, a1, a2, a3, a4, a5, a6, a7, a8, a10, a11⟩ := hC
  refine ⟨?_, ?_, ?_, ?_, ?_, ?_, ?_, ?_, ?_, ?_, ?_, ?_, ?_, ?_, ?_⟩
  · rw [mu_o (by omega), c0]; congr 1; unfold upm; rw [rup_ne (by omega), rup_ne (by omega), rup_ne (by omega), rup_ne (by omega), rup_ne (by omega), rup_ne (by omega)]
  · rw [mu_o (by omega), c1, rup_ne (by omega)]
  · rw [mu_o (by omega), c2, rup_ne (by omega)]
  · rw [mu_o (by omega), c3, rup_ne (by omega)]
  · rw [mu_o (by omega), c4, rup_ne (by omega)]
  · intro k hk
    rw [mu_o (by omega), a1 k hk, rup_ne (by omega)]
  · intro k hk
    rw [mu_o (by omega), a2 k hk, rup_ne (by omega)]
  · intro k hk
    rw [mu_o (by omega), a3 k hk, rup_ne (by omega)]
  · intro k hk
    rw [mu_o (by omega), a4 k hk, rup_ne (by omega)]
  · intro k hk
    rw [mu_o (by omega), a5 k hk, rup_ne (by omega)]
  · intro k hk
    rw [mu_o (by omega), a6 k hk, rup_ne (by omega)]
  · intro k hk
    rw [mu_o (by omega), a7 k hk, rup_ne (by omega)]
  · intro p a s hp ha hs hb
    rw [rup_ne (by omega)] at hb
    obtain ⟨e1, e2⟩ := a8 p a s hp ha hs hb
    rw [mu_o (by omega), mu_o (by omega), rup_ne (by omega), rup_ne (by omega)]
    exact ⟨e1, e2⟩
  · intro k hk
    rw [mu_o (by omega), a10 k hk, rup_ne (by omega)]
  · intro k hk
    by_cases e : k = i
    · subst e
      rw [mu_eq, rup_eq]
    · rw [mu_k (by omega), a11 k hk, rup_ne (by omega)]
theorem CR_f1 {g : Mem} {o : Nat} {τ : Row} (hC : CR g o τ) (v : Nat) : CR (m_up g o 1 (nI v)) o (rup τ 870 v) := by
  obtain ⟨c0, c1, c2, c3, c4, a1, a2, a3, a4, a5, a6, a7, a8, a10, a11⟩ := hC
  refine ⟨?_, ?_, ?_, ?_, ?_, ?_, ?_, ?_, ?_, ?_, ?_, ?_, ?_, ?_, ?_⟩
  · rw [mu_k (by decide), c0]; congr 1
  · rw [mu_eq, rup_eq]
  · rw [mu_k (by decide), c2, rup_ne (by omega)]
  · rw [mu_k (by decide), c3, rup_ne (by omega)]
  · rw [mu_k (by decide), c4, rup_ne (by omega)]
  · intro k hk
    rw [mu_o (by omega), a1 k hk, rup_ne (by omega)]
  · intro k hk
    rw [mu_o (by omega), a2 k hk, rup_ne (by omega)]
  · intro k hk
    rw [mu_o (by omega), a3 k hk, rup_ne (by omega)]
  · intro k hk
    rw [mu_o (by omega), a4 k hk, rup_ne (by omega)]
  · intro k hk
    rw [mu_o (by omega), a5 k hk, rup_ne (by omega)]
  · intro k hk
    rw [mu_o (by omega), a6 k hk, rup_ne (by omega)]
  · intro k hk
    rw [mu_o (by omega), a7 k hk, rup_ne (by omega)]
  · intro p a s hp ha hs hb
    rw [rup_ne (by omega)] at hb
    obtain ⟨e1, e2⟩ := a8 p a s hp ha hs hb
    rw [mu_o (by omega), mu_o (by omega), rup_ne (by omega), rup_ne (by omega)]
    exact ⟨e1, e2⟩
  · intro k hk
    rw [mu_o (by omega), a10 k hk, rup_ne (by omega)]
  · intro k hk
    rw [mu_o (by omega), a11 k hk, rup_ne (by omega)]
theorem CR_f2 {g : Mem} {o : Nat} {τ : Row} (hC : CR g o τ) (v : Nat) : CR (m_up g o 2 (nI v)) o (rup τ 869 v) := by
  obtain ⟨c0, c1, c2, c3, c4, a1, a2, a3, a4, a5, a6, a7, a8, a10, a11⟩ := hC
  refine ⟨?_, ?_, ?_, ?_, ?_, ?_, ?_, ?_, ?_, ?_, ?_, ?_, ?_, ?_, ?_⟩
  · rw [mu_k (by decide), c0]; congr 1
  · rw [mu_k (by decide), c1, rup_ne (by omega)]
  · rw [mu_eq, rup_eq]
  · rw [mu_k (by decide), c3, rup_ne (by omega)]
  · rw [mu_k (by decide), c4, rup_ne (by omega)]
  · intro k hk
    rw [mu_o (by omega), a1 k hk, rup_ne (by omega)]
  · intro k hk
    rw [mu_o (by omega), a2 k hk, rup_ne (by omega)]
  · intro k hk
    rw [mu_o (by omega), a3 k hk, rup_ne (by omega)]
  · intro k hk
    rw [mu_o (by omega), a4 k hk, rup_ne (by omega)]
  · intro k hk
    rw [mu_o (by omega), a5 k hk, rup_ne (by omega)]
  · intro k hk
    rw [mu_o (by omega), a6 k hk, rup_ne (by omega)]
  · intro k hk
    rw [mu_o (by omega), a7 k hk, rup_ne (by omega)]
  · intro p a s hp ha hs hb
    rw [rup_ne (by omega)] at hb
    obtain ⟨e1, e2⟩ := a8 p a s hp ha hs hb
    rw [mu_o (by omega), mu_o (by omega), rup_ne (by omega), rup_ne (by omega)]
    exact ⟨e1, e2⟩
  · intro k hk
    rw [mu_o (by omega), a10 k hk, rup_ne (by omega)]
  · intro k hk
    rw [mu_o (by omega), a11 k hk, rup_ne (by omega)]
theorem CR_f3 {g : Mem} {o : Nat} {τ : Row} (hC : CR g o τ) (v : Nat) : CR (m_up g o 3 (nI v)) o (rup τ 871 v) := by
  obtain ⟨c0, c1, c2, c3, c4, a1, a2, a3, a4, a5, a6, a7, a8, a10, a11⟩ := hC
  refine ⟨?_, ?_, ?_, ?_, ?_, ?_, ?_, ?_, ?_, ?_, ?_, ?_, ?_, ?_, ?_⟩
  · rw [mu_k (by decide), c0]; congr 1
  · rw [mu_k (by decide), c1, rup_ne (by omega)]
  · rw [mu_k (by decide), c2, rup_ne (by omega)]
  · rw [mu_eq, rup_eq]
  · rw [mu_k (by decide), c4, rup_ne (by omega)]
  · intro k hk
    rw [mu_o (by omega), a1 k hk, rup_ne (by omega)]
  · intro k hk
    rw [mu_o (by omega), a2 k hk, rup_ne (by omega)]
  · intro k hk
    rw [mu_o (by omega), a3 k hk, rup_ne (by omega)]
  · intro k hk
    rw [mu_o (by omega), a4 k hk, rup_ne (by omega)]
  · intro k hk
    rw [mu_o (by omega), a5 k hk, rup_ne (by omega)]
  · intro k hk
    rw [mu_o (by omega), a6 k hk, rup_ne (by omega)]
  · intro k hk
    rw [mu_o (by omega), a7 k hk, rup_ne (by omega)]
  · intro p a s hp ha hs hb
    rw [rup_ne (by omega)] at hb
    obtain ⟨e1, e2⟩ := a8 p a s hp ha hs hb
    rw [mu_o (by omega), mu_o (by omega), rup_ne (by omega), rup_ne (by omega)]
    exact ⟨e1, e2⟩
  · intro k hk
    rw [mu_o (by omega), a10 k hk, rup_ne (by omega)]
  · intro k hk
    rw [mu_o (by omega), a11 k hk, rup_ne (by omega)]
theorem CR_f4 {g : Mem} {o : Nat} {τ : Row} (hC : CR g o τ) (v : Nat) : CR (m_up g o 4 (nI v)) o (rup τ 872 v) := by
  obtain ⟨c0, c1, c2, c3, c4, a1, a2, a3, a4, a5, a6, a7, a8, a10, a11⟩ := hC
  refine ⟨?_, ?_, ?_, ?_, ?_, ?_, ?_, ?_, ?_, ?_, ?_, ?_, ?_, ?_, ?_⟩
  · rw [mu_k (by decide), c0]; congr 1
  · rw [mu_k (by decide), c1, rup_ne (by omega)]
  · rw [mu_k (by decide), c2, rup_ne (by omega)]
  · rw [mu_k (by decide), c3, rup_ne (by omega)]
  · rw [mu_eq, rup_eq]
  · intro k hk
    rw [mu_o (by omega), a1 k hk, rup_ne (by omega)]
  · intro k hk
    rw [mu_o (by omega), a2 k hk, rup_ne (by omega)]
  · intro k hk
    rw [mu_o (by omega), a3 k hk, rup_ne (by omega)]
  · intro k hk
    rw [mu_o (by omega), a4 k hk, rup_ne (by omega)]
  · intro k hk
    rw [mu_o (by omega), a5 k hk, rup_ne (by omega)]
  · intro k hk
    rw [mu_o (by omega), a6 k hk, rup_ne (by omega)]
  · intro k hk
    rw [mu_o (by omega), a7 k hk, rup_ne (by omega)]
  · intro p a s hp ha hs hb
    rw [rup_ne (by omega)] at hb
    obtain ⟨e1, e2⟩ := a8 p a s hp ha hs hb
    rw [mu_o (by omega), mu_o (by omega), rup_ne (by omega), rup_ne (by omega)]
    exact ⟨e1, e2⟩
  · intro k hk
    rw [mu_o (by omega), a10 k hk, rup_ne (by omega)]
  · intro k hk
    rw [mu_o (by omega), a11 k hk, rup_ne (by omega)]
set_option maxRecDepth 100000 in
theorem xor_nI : ∀ k, k < 64 → ∀ a, a < 6 → nI k ^^^ ((1 : Int32) <<< (nI a &&& 31)) = nI (if hs k a then k - 2 ^ a else k + 2 ^ a) := by decide +kernel
theorem hs_upm {τ : Row} (h : RI τ) {a : Nat} (ha : a < 6) : hs (upm τ) a = decide (τ a = 1) := by
  have h0 := h.2.1 0 (by omega)
  have h1 := h.2.1 1 (by omega)
  have h2 := h.2.1 2 (by omega)
  have h3 := h.2.1 3 (by omega)
  have h4 := h.2.1 4 (by omega)
  have h5 := h.2.1 5 (by omega)
  have e : hs (upm τ) a = decide (upm τ / 2 ^ a % 2 = 1) := by unfold hs; exact (Bool.beq_eq_decide_eq _ _)
  rw [e]
  congr 1
  unfold upm
  rcases (show a = 0 ∨ a = 1 ∨ a = 2 ∨ a = 3 ∨ a = 4 ∨ a = 5 by omega) with rfl | rfl | rfl | rfl | rfl | rfl <;> simp only [Nat.pow_zero, Nat.reducePow, Nat.pow_one, eq_iff_iff] <;> omega
theorem upm_lt {τ : Row} (h : RI τ) : upm τ < 64 := by
  have h0 := h.2.1 0 (by omega)
  have h1 := h.2.1 1 (by omega)
  have h2 := h.2.1 2 (by omega)
  have h3 := h.2.1 3 (by omega)
  have h4 := h.2.1 4 (by omega)
  have h5 := h.2.1 5 (by omega)
  unfold upm
  omega
theorem upm_set {τ : Row} (h : RI τ) {a : Nat} (ha : a < 6) {v : Nat} (hv : v ≤ 1) (hne : τ a ≠ v) : upm (rup τ a v) = if hs (upm τ) a then upm τ - 2 ^ a else upm τ + 2 ^ a := by
  have h0 := h.2.1 0 (by omega)
  have h1 := h.2.1 1 (by omega)
  have h2 := h.2.1 2 (by omega)
  have h3 := h.2.1 3 (by omega)
  have h4 := h.2.1 4 (by omega)
  have h5 := h.2.1 5 (by omega)
  rw [hs_upm h ha]
  rcases (show a = 0 ∨ a = 1 ∨ a = 2 ∨ a = 3 ∨ a = 4 ∨ a = 5 by omega) with rfl | rfl | rfl | rfl | rfl | rfl <;> simp only [decide_eq_true_eq, upm, rup, Nat.reduceEqDiff, if_true, if_false, ↓reduceIte, Nat.pow_zero, Nat.reducePow, Nat.pow_one] <;> split <;> omega
theorem CR_f0 {g : Mem} {o : Nat} {τ : Row} (hC : CR g o τ) {a : Nat} (ha : a < 6) (v : Nat) : CR (m_up g o 0 (nI (upm (rup τ a v)))) o (rup τ a v) := by
  obtain ⟨c0, c1, c2, c3, c4, a1, a2, a3, a4, a5, a6, a7, a8, a10, a11⟩ := hC
  refine ⟨?_, ?_, ?_, ?_, ?_, ?_, ?_, ?_, ?_, ?_, ?_, ?_, ?_, ?_, ?_⟩
  · rw [mu_eq]
  · rw [mu_k (by decide), c1, rup_ne (by omega)]
  · rw [mu_k (by decide), c2, rup_ne (by omega)]
  · rw [mu_k (by decide), c3, rup_ne (by omega)]
  · rw [mu_k (by decide), c4, rup_ne (by omega)]
  · intro k hk
    rw [mu_o (by omega), a1 k hk, rup_ne (by omega)]
  · intro k hk
    rw [mu_o (by omega), a2 k hk, rup_ne (by omega)]
  · intro k hk
    rw [mu_o (by omega), a3 k hk, rup_ne (by omega)]
  · intro k hk
    rw [mu_o (by omega), a4 k hk, rup_ne (by omega)]
  · intro k hk
    rw [mu_o (by omega), a5 k hk, rup_ne (by omega)]
  · intro k hk
    rw [mu_o (by omega), a6 k hk, rup_ne (by omega)]
  · intro k hk
    rw [mu_o (by omega), a7 k hk, rup_ne (by omega)]
  · intro p a s hp ha hs hb
    rw [rup_ne (by omega)] at hb
    obtain ⟨e1, e2⟩ := a8 p a s hp ha hs hb
    rw [mu_o (by omega), mu_o (by omega), rup_ne (by omega), rup_ne (by omega)]
    exact ⟨e1, e2⟩
  · intro k hk
    rw [mu_o (by omega), a10 k hk, rup_ne (by omega)]
  · intro k hk
    rw [mu_o (by omega), a11 k hk, rup_ne (by omega)]
