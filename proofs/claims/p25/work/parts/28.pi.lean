/-! the class trims -/
theorem C_votesOf' {g : Mem} {o : Nat} {τ : Row} {a t : Nat} (hvb : ∀ j, j < 16 → g (o + 2) (16 * a + j) = nI (τ (12 + 2 * (16 * a + j)))) (h : RI τ) (ha : a < 6) (ht : t ≤ 16) : f_X2_votesOf o (nI a) (nI t) g = some (nI (votesN τ a t)) := by
  unfold f_X2_votesOf
  have key := cnt_loop (fun n v3 v4 => f_X2_votesOf_L5 (fun x8 => some x8) o (nI a) (nI t) g n v3 v4) (fun x => some x) (fun j => decide (τ (12 + 2 * (16 * a + j)) ≠ 0)) t ?_ ?_ fuel0 0 (by omega) (by have := fuel_gt; omega)
  · exact key
  · intro n acc
    show f_X2_votesOf_L5 _ _ _ _ _ _ _ _ = _
    rw [f_X2_votesOf_L5]
    by_cases h16 : t = 16
    · subst h16
      rw [if_pos (by rw [z16]; exact nI_lt (by omega) (by omega))]
    · rw [if_neg (by rw [z16]; exact nI_nlt (by omega) (by omega)), if_pos (nI_lt (by omega) (by omega))]
  · intro n acc j hj
    show f_X2_votesOf_L5 _ _ _ _ _ _ _ _ = f_X2_votesOf_L5 _ _ _ _ _ _ _ _
    have h1 := hvb j (by omega)
    have h2 := h.1 (12 + 2 * (16 * a + j)) (by omega)
    rw [f_X2_votesOf_L5, if_neg (by rw [z16]; exact nI_nlt (by omega) (by omega)), if_neg (nI_nlt (by omega) (by omega)), cell_nI (by omega), show 16 * a + (j + 1) - 1 = 16 * a + j from by omega, rd_nI (by omega) (by omega), bnd_some, h1]
    unfold lt1
    rw [nI_1]
    by_cases h3 : τ (12 + 2 * (16 * a + j)) = 0
    · rw [if_pos ((nI_z (by omega)).mpr h3), if_neg (by simp [h3])]
    · rw [if_neg (fun q => h3 ((nI_z (by omega)).mp q)), if_pos (by simp [h3])]
def fga (g : Mem) (o n t : Nat) : Mem := fun q k => if (q = o + 2 ∨ q = o + 3) ∧ k < 16 * n ∧ k % 16 < t then 0 else g q k
theorem fga_step (g : Mem) (o a t : Nat) (ht : t ≤ 16) : fgt (fga g o a t) o a 0 t = fga g o (a + 1) t := by
  funext q k
  unfold fgt fga
  by_cases e : q = o + 2 ∨ q = o + 3
  · by_cases e1 : 16 * a + 0 ≤ k ∧ k < 16 * a + t
    · rw [if_pos ⟨e, e1⟩, if_pos ⟨e, by omega, by omega⟩]
    · rw [if_neg (fun z => e1 z.2)]
      by_cases e2 : k < 16 * a ∧ k % 16 < t
      · rw [if_pos ⟨e, e2⟩, if_pos ⟨e, by omega, e2.2⟩]
      · rw [if_neg (fun z => e2 z.2), if_neg (fun z => by omega)]
  · rw [if_neg (fun z => e z.1), if_neg (fun z => e z.1), if_neg (fun z => e z.1)]
theorem fga_0 (g : Mem) (o t : Nat) : fga g o 0 t = g := by
  funext q k
  unfold fga
  rw [if_neg (fun z => by omega)]
theorem lp_C_trim (K : Int32 → Mem → Option (Int32 × Mem)) {g : Mem} {o : Nat} {τ : Row} (hC : CR g o τ) (h : RI τ) {t : Nat} (ht : t ≤ 16) : ∀ n a, a ≤ 6 → 6 - a < n → f_X2_forgetUpTo_L35 K o (nI t) n (nI (allN τ t a)) (nI a) (fga g o a t) = K (nI (allN τ t 6)) (fga g o 6 t) := by
  intro n
  induction n with
  | zero => intro a _ h; omega
  | succ n ih =>
    intro a ha hn
    rw [f_X2_forgetUpTo_L35]
    by_cases h6 : a = 6
    · subst h6
      rw [if_pos (by rw [z6]; exact nI_le (by omega) (by omega))]
    · have hv := C_votesOf' (g := fga g o a t) (o := o) (τ := τ) (a := a) (t := t) (fun j hj => by
        unfold fga
        rw [if_neg (fun z => by omega)]
        exact hC.2.2.2.2.2.2.1 _ (by omega)) h (by omega) ht
      rw [if_neg (by rw [z6]; exact nI_ge (by omega) (by omega)), hv, bnd_some, lt1, nI_add, C_forget (by omega) ht, bnd_some, lt1, nI_1, fga_step _ _ _ _ ht]
      exact ih (a + 1) (by omega) (by omega)
theorem trR_ne {τ : Row} {s k : Nat} (h1 : k ≠ 869) (h2 : ¬ (12 ≤ k ∧ k < 204 ∧ (k - 12) / 2 % 16 < s)) : trR τ s k = τ k := by unfold trR; rw [if_neg h1, if_neg h2]
theorem CR_trim {g : Mem} {o : Nat} {τ : Row} (hC : CR g o τ) (s : Nat) : CR (m_up (fga g o 6 s) o 2 (nI s)) o (trR τ s) := by
  obtain ⟨c0, c1, c2, c3, c4, a1, a2, a3, a4, a5, a6, a7, a8, a10, a11⟩ := hC
  have hof : ∀ q k, q ≠ o + 2 → q ≠ o + 3 → fga g o 6 s q k = g q k := fun q k h1 h2 => by unfold fga; rw [if_neg (fun z => z.1.elim h1 h2)]
  refine ⟨?_, ?_, ?_, ?_, ?_, ?_, ?_, ?_, ?_, ?_, ?_, ?_, ?_, ?_, ?_⟩
  · rw [mu_k (by decide), hof _ _ (by omega) (by omega), c0]
    unfold upm
    rw [trR_ne (by omega) (by omega), trR_ne (by omega) (by omega), trR_ne (by omega) (by omega), trR_ne (by omega) (by omega), trR_ne (by omega) (by omega), trR_ne (by omega) (by omega)]
  · rw [mu_k (by decide), hof _ _ (by omega) (by omega), c1, trR_ne (by omega) (by omega)]
  · rw [mu_eq]
    unfold trR
    rw [if_pos rfl]
  · rw [mu_k (by decide), hof _ _ (by omega) (by omega), c3, trR_ne (by omega) (by omega)]
  · rw [mu_k (by decide), hof _ _ (by omega) (by omega), c4, trR_ne (by omega) (by omega)]
  · intro k hk
    rw [mu_o (by omega), hof _ _ (by omega) (by omega), a1 k hk, trR_ne (by omega) (by omega)]
  · intro k hk
    rw [mu_o (by omega)]
    unfold fga trR
    rw [if_neg (c := 12 + 2 * k = 869) (by omega)]
    by_cases e : k % 16 < s
    · rw [if_pos ⟨Or.inl rfl, by omega, e⟩, if_pos ⟨by omega, by omega, by rw [show (12 + 2 * k - 12) / 2 = k from by omega]; exact e⟩]
      rfl
    · rw [if_neg (fun z => e z.2.2), if_neg (fun z => e (by have := z.2.2; rw [show (12 + 2 * k - 12) / 2 = k from by omega] at this; exact this)), a2 k hk]
  · intro k hk
    rw [mu_o (by omega)]
    unfold fga trR
    rw [if_neg (c := 13 + 2 * k = 869) (by omega)]
    by_cases e : k % 16 < s
    · rw [if_pos ⟨Or.inr rfl, by omega, e⟩, if_pos ⟨by omega, by omega, by rw [show (13 + 2 * k - 12) / 2 = k from by omega]; exact e⟩]
      rfl
    · rw [if_neg (fun z => e z.2.2), if_neg (fun z => e (by have := z.2.2; rw [show (13 + 2 * k - 12) / 2 = k from by omega] at this; exact this)), a3 k hk]
  · intro k hk
    rw [mu_o (by omega), hof _ _ (by omega) (by omega), a4 k hk, trR_ne (by omega) (by omega)]
  · intro k hk
    rw [mu_o (by omega), hof _ _ (by omega) (by omega), a5 k hk, trR_ne (by omega) (by omega)]
  · intro k hk
    rw [mu_o (by omega), hof _ _ (by omega) (by omega), a6 k hk, trR_ne (by omega) (by omega)]
  · intro k hk
    rw [mu_o (by omega), hof _ _ (by omega) (by omega), a7 k hk, trR_ne (by omega) (by omega)]
  · intro p a s' hp ha hs' hb
    rw [trR_ne (by omega) (by omega)] at hb
    obtain ⟨e1, e2⟩ := a8 p a s' hp ha hs' hb
    rw [mu_o (by omega), mu_o (by omega), hof _ _ (by omega) (by omega), hof _ _ (by omega) (by omega), trR_ne (by omega) (by omega), trR_ne (by omega) (by omega)]
    exact ⟨e1, e2⟩
  · intro k hk
    rw [mu_o (by omega), hof _ _ (by omega) (by omega), a10 k hk, trR_ne (by omega) (by omega)]
  · intro k hk
    rw [mu_o (by omega), hof _ _ (by omega) (by omega), a11 k hk, trR_ne (by omega) (by omega)]
theorem Fr_fga {o n t : Nat} {g : Mem} : Fr o g (fga g o n t) := fun q hq => by
  funext k
  unfold fga
  rw [if_neg (fun z => by omega)]
theorem C_trim {g : Mem} {o : Nat} {τ : Row} (hC : CR g o τ) (h : RI τ) (a1 : Int32) : ∃ g', f_X2_forgetUpTo o a1 g = some ((s_trim a1 τ).1, g') ∧ CR g' o (s_trim a1 τ).2 ∧ Fr o g g' := by
  unfold f_X2_forgetUpTo s_trim
  cases hv : f_X4_isSlot a1 with
  | false => exact ⟨g, rfl, hC, Fr.rf⟩
  | true =>
    obtain ⟨s, hs1, hs2, rfl⟩ := isS_of hv
    have hp := pre_le τ
    have b2 := h.2.2.2.2.2.2.2
    rw [if_pos rfl, if_pos rfl, nI_clamp (by omega), C_prefix hC h, bnd_some]
    unfold s_trimN
    by_cases e1 : pre τ < s
    · rw [if_neg (nI_ge e1 (by omega)), if_pos e1]
      exact ⟨g, rfl, hC, Fr.rf⟩
    · rw [if_pos (nI_le (by omega) (by omega)), if_neg e1, hC.2.2.1]
      by_cases e2 : s ≤ τ 869
      · rw [if_neg (nI_nlt e2 (by omega)), if_pos e2]
        exact ⟨g, rfl, hC, Fr.rf⟩
      · rw [if_pos (nI_lt (by omega) (by omega)), if_neg e2]
        have key := lp_C_trim (fun x10 g11 => lt1 (m_up g11 o 2 (nI s)) fun g12 => (some (x10, g12))) hC h hs2 fuel0 0 (by omega) (by have := fuel_gt; omega)
        rw [fga_0] at key
        exact ⟨_, key, CR_trim hC s, Fr.tr Fr_fga Fr.up0⟩
