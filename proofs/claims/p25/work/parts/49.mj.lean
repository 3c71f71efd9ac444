def NC (g' : Mem) (s w : Nat) (R : PR) : Prop := g' 92 (3 * s) = nI R.2.2.1 ∧ (2 ≤ w → g' 92 (3 * s + 1) = nI R.2.2.2.1) ∧ (3 ≤ w → g' 92 (3 * s + 2) = nI R.2.2.2.2)
/-- what reading the rest of an order comes to -/
def QO (g : Mem) (s w : Nat) (F : Option (Bool × Mem)) (R : PR) : Prop := ∃ g', F = some (R.1, g') ∧ (∀ q, q ≠ 89 → q ≠ 92 → g' q = g q) ∧ (∀ k, k < 3 * s → g' 92 k = g 92 k) ∧ g' 89 3 = nI R.2.1 ∧ (R.1 = false → g' 89 5 = nI s) ∧ (R.1 = true → g' 89 5 = nI (s + 1) ∧ NC g' s w R)
theorem bd2_eta {α : Type} (F : Option (α × Mem)) : (bd2 F fun x g => some (x, g)) = F := by
  cases F with
  | none => rfl
  | some q => rfl
section UNR
variable {g : Mem} (K : Mem → Option (Bool × Mem))
theorem unr {idx n v : Nat} {c : Int32} (h1 : ¬ (sLen idx >>> ((0 : Int32) &&& 31)) ≤ nI v) (h2 : ¬ nI v < 0) (h3 : sCh idx (nI v) = c) : f_X1_readOrder_L73 K idx (n + 1) (nI v) g = bd2 (f_X1_readPart c g) fun x1 g1 => (if x1 then f_X1_readOrder_L73 K idx n (nI (v + 1)) g1 else some (false, g1)) := by
  rw [f_X1_readOrder_L73, if_neg h1, if_neg h2, h3]
  simp only [lt1, nI_1]
theorem fin {idx n v : Nat} (h1 : (sLen idx >>> ((0 : Int32) &&& 31)) ≤ nI v) : f_X1_readOrder_L73 K idx (n + 1) (nI v) g = K g := by
  rw [f_X1_readOrder_L73, if_pos h1]
end UNR
theorem rp_p (g : Mem) : f_X1_readPart 112 g = f_X1_readDigit (nI 3) g := by
  unfold f_X1_readPart
  rw [if_neg (by decide), if_neg (by decide), if_pos (by decide), bd2_eta]
  rfl
theorem rp_a (g : Mem) : f_X1_readPart 97 g = f_X1_readDigit (nI 6) g := by
  unfold f_X1_readPart
  rw [if_neg (by decide), if_pos (by decide), bd2_eta]
  rfl
theorem rp_n (g : Mem) : f_X1_readPart 35 g = f_X1_readNumber g := by
  unfold f_X1_readPart
  rw [if_pos (by decide), bd2_eta]
theorem rp_c (g : Mem) : f_X1_readPart 44 g = f_X1_readComma g := by
  unfold f_X1_readPart
  rw [if_neg (by decide), if_neg (by decide), if_neg (by decide), bd2_eta]
section STEPS
variable {g g1 : Mem} {tn : Nat} {txt : Nat → Nat} {s i t w : Nat} {N : Nat → Nat} {J : Mem → Option (Bool × Mem)}
theorem QO_no (h : RD g g1 s i t N) (hg : g 89 5 = nI s) : QO g s w (some (false, g1)) (p_no i) :=
  ⟨g1, rfl, h.1, h.2.2.2.2.1, h.2.2.1, fun _ => (h.2.1 5 (by decide) (by decide)).trans hg, fun q => absurd q (by show ¬ (false = true); decide)⟩
theorem st_dg (hT : TC g tn txt) (h : RD g g1 s i t N) (hs : s < 20) (hg : g 89 5 = nI s) (ht : t < 3) (hi : i ≤ tn) {m : Nat} (hm : m ≤ 10) {k : Nat → Nat → PR} (hk : ∀ g2 v, i + 1 ≤ tn → RD g g2 s (i + 1) (t + 1) (nup N t v) → QO g s w (J g2) (k v (i + 1))) : QO g s w (bd2 (f_X1_readDigit (nI m) g1) fun x g' => (if x then J g' else some (false, g'))) (P_dg (tx tn txt) m i k) := by
  have h60 := hT.2.1
  unfold P_dg
  by_cases hd : 48 ≤ tx tn txt i ∧ tx tn txt i < 48 + m
  · obtain ⟨g2, e, r⟩ := C_dg hT h hs hg ht (by omega) hm hd
    rw [e, bd2_some, if_pos rfl, if_pos hd]
    have := tx_in (tn := tn) (txt := txt) (i := i) (by omega)
    exact hk g2 _ (by omega) r
  · rw [C_dg_no hT h (by omega) hm hd, bd2_some, if_neg (by decide), if_neg hd]
    exact QO_no h hg
theorem st_cm (hT : TC g tn txt) (h : RD g g1 s i t N) (hg : g 89 5 = nI s) (hi : i ≤ tn) {k : Nat → PR} (hk : ∀ g2, i + 1 ≤ tn → RD g g2 s (i + 1) t N → QO g s w (J g2) (k (i + 1))) : QO g s w (bd2 (f_X1_readComma g1) fun x g' => (if x then J g' else some (false, g'))) (P_cm (tx tn txt) i k) := by
  have h60 := hT.2.1
  unfold P_cm
  by_cases hd : tx tn txt i = 44
  · obtain ⟨g2, e, r⟩ := C_cm hT h (by omega) hd
    rw [e, bd2_some, if_pos rfl, if_pos hd]
    have := tx_in (tn := tn) (txt := txt) (i := i) (by omega)
    exact hk g2 (by omega) r
  · rw [C_cm_no hT h (by omega) hd, bd2_some, if_neg (by decide), if_neg hd]
    exact QO_no h hg
theorem nmE_in {T : Nat → Nat} {i : Nat} : ∀ f c, ∀ d, c ≤ d → d < nmE T i f c → isD (T (i + d)) = true := by
  intro f
  induction f with
  | zero => intro c d h1 h2; rw [nmE] at h2; omega
  | succ f ih =>
    intro c d h1 h2
    rw [nmE] at h2
    cases e : isD (T (i + c)) with
    | false => rw [e, if_neg (by decide)] at h2; omega
    | true =>
      rw [e, if_pos rfl] at h2
      by_cases q : d = c
      · subst q; exact e
      · exact ih (c + 1) d (by omega) h2
theorem nmL_in {tn : Nat} {txt : Nat → Nat} {i : Nat} (h : ¬ nmL (tx tn txt) i = 0) : i + nmL (tx tn txt) i ≤ tn := by
  have h48 : ¬ tx tn txt i = 48 := fun e => h (if_pos e)
  have hL : nmL (tx tn txt) i = nmE (tx tn txt) i 3 0 := if_neg h48
  rw [hL] at h ⊢
  have hq := nmE_in (T := tx tn txt) (i := i) 3 0 (nmE (tx tn txt) i 3 0 - 1) (by omega) (by omega)
  have := tx_in (tn := tn) (txt := txt) (i := i + (nmE (tx tn txt) i 3 0 - 1)) (fun z => by rw [z] at hq; exact absurd hq (by decide))
  omega
theorem st_nm (hT : TC g tn txt) (h : RD g g1 s i t N) (hs : s < 20) (hg : g 89 5 = nI s) (ht : t < 3) (hi : i ≤ tn) {k : Nat → Nat → PR} (hk : ∀ g2 v j, j ≤ tn → RD g g2 s j (t + 1) (nup N t v) → QO g s w (J g2) (k v j)) : QO g s w (bd2 (f_X1_readNumber g1) fun x g' => (if x then J g' else some (false, g'))) (P_nm (tx tn txt) i k) := by
  have h60 := hT.2.1
  unfold P_nm
  by_cases hd : nmL (tx tn txt) i = 0
  · rw [C_nm_no hT h (by omega) hd, bd2_some, if_neg (by decide), if_pos hd]
    exact QO_no h hg
  · obtain ⟨g2, e, r⟩ := C_nm hT h hs hg ht (by omega) hd
    rw [e, bd2_some, if_pos rfl, if_neg hd]
    exact hk g2 _ _ (nmL_in hd) r
theorem QO_ok (h : RD g g1 s i t N) (hg : g 89 5 = nI s) (hw : w ≤ t) (hw1 : 1 ≤ w) {a b c : Nat} (ha : N 0 = a) (hb : 2 ≤ w → N 1 = b) (hc : 3 ≤ w → N 2 = c) : QO g s w (lt1 (m_up g1 89 5 (g1 89 5 + 1)) fun g6 => (some (true, g6))) (true, i, a, b, c) := by
  obtain ⟨h1, h2, h3, h4, h5, h6⟩ := h
  rw [lt1]
  refine ⟨_, rfl, fun q a b => (mu_q a).trans (h1 q a b), fun k hk => (mu_o (by decide)).trans (h5 k hk), (mu_k (by decide)).trans h3, fun q => absurd q (by show ¬ (true = false); decide), fun _ => ⟨?_, ?_, fun q => ?_, fun q => ?_⟩⟩
  · rw [mu_eq, h2 5 (by decide) (by decide), hg, nI_1]
  · rw [mu_o (by decide)]
    have := h6 0 (by omega)
    rw [ha] at this
    exact this
  · rw [mu_o (by decide), h6 1 (by omega), hb q]
  · rw [mu_o (by decide), h6 2 (by omega), hc q]
def wd (c : Nat) : Nat := if c = 121 then 2 else if c = 118 ∨ c = 97 then 3 else 1
abbrev KO (g5 : Mem) : Option (Bool × Mem) := lt1 (m_up g5 89 5 (g5 89 5 + 1)) fun g6 => (some (true, g6))
theorem bo_n (hT : TC g tn txt) (h : RD g g s i 0 N) (hs : s < 20) (hg : g 89 5 = nI s) (hi : i ≤ tn) : QO g s 1 (f_X1_readOrder_L73 KO 0 fuel0 0 g) (P_dg (tx tn txt) 3 i fun a j => (true, j, a, 0, 0)) := by
  obtain ⟨n, hn⟩ : ∃ n, fuel0 = n + 1 + 1 + 1 + 1 + 1 + 1 := ⟨fuel0 - 6, by have := fuel_gt; omega⟩
  rw [hn, z0, unr KO (by decide) (by decide) (show sCh 0 (nI 0) = 112 by decide), rp_p]
  refine st_dg hT h hs hg (by decide) hi (by decide) (fun g2 v hi2 r => ?_)
  rw [fin KO (by decide)]
  exact QO_ok r hg (by decide) (by decide) rfl (fun q => absurd q (by decide)) (fun q => absurd q (by decide))
theorem bo_u (hT : TC g tn txt) (h : RD g g s i 0 N) (hs : s < 20) (hg : g 89 5 = nI s) (hi : i ≤ tn) : QO g s 1 (f_X1_readOrder_L73 KO 4 fuel0 0 g) (P_dg (tx tn txt) 6 i fun a j => (true, j, a, 0, 0)) := by
  obtain ⟨n, hn⟩ : ∃ n, fuel0 = n + 1 + 1 + 1 + 1 + 1 + 1 := ⟨fuel0 - 6, by have := fuel_gt; omega⟩
  rw [hn, z0, unr KO (by decide) (by decide) (show sCh 4 (nI 0) = 97 by decide), rp_a]
  refine st_dg hT h hs hg (by decide) hi (by decide) (fun g2 v hi2 r => ?_)
  rw [fin KO (by decide)]
  exact QO_ok r hg (by decide) (by decide) rfl (fun q => absurd q (by decide)) (fun q => absurd q (by decide))
theorem bo_y (hT : TC g tn txt) (h : RD g g s i 0 N) (hs : s < 20) (hg : g 89 5 = nI s) (hi : i ≤ tn) : QO g s 2 (f_X1_readOrder_L73 KO 1 fuel0 0 g) (P_dg (tx tn txt) 3 i fun a j => P_cm (tx tn txt) j fun j => P_dg (tx tn txt) 6 j fun b j => (true, j, a, b, 0)) := by
  obtain ⟨n, hn⟩ : ∃ n, fuel0 = n + 1 + 1 + 1 + 1 + 1 + 1 := ⟨fuel0 - 6, by have := fuel_gt; omega⟩
  rw [hn, z0, unr KO (by decide) (by decide) (show sCh 1 (nI 0) = 112 by decide), rp_p]
  refine st_dg hT h hs hg (by decide) hi (by decide) (fun g2 v hi2 r => ?_)
  rw [unr KO (by decide) (by decide) (show sCh 1 (nI (0 + 1)) = 44 by decide), rp_c]
  refine st_cm hT r hg hi2 (fun g3 hi3 r3 => ?_)
  rw [unr KO (by decide) (by decide) (show sCh 1 (nI (0 + 1 + 1)) = 97 by decide), rp_a]
  refine st_dg hT r3 hs hg (by decide) hi3 (by decide) (fun g4 v4 hi4 r4 => ?_)
  rw [fin KO (by decide)]
  exact QO_ok r4 hg (by decide) (by decide) rfl (fun q => rfl) (fun q => absurd q (by decide))
theorem bo_v (hT : TC g tn txt) (h : RD g g s i 0 N) (hs : s < 20) (hg : g 89 5 = nI s) (hi : i ≤ tn) : QO g s 3 (f_X1_readOrder_L73 KO 2 fuel0 0 g) (P_dg (tx tn txt) 3 i fun a j => P_cm (tx tn txt) j fun j => P_nm (tx tn txt) j fun b j => P_cm (tx tn txt) j fun j => P_nm (tx tn txt) j fun c j => (true, j, a, b, c)) := by
  obtain ⟨n, hn⟩ : ∃ n, fuel0 = n + 1 + 1 + 1 + 1 + 1 + 1 := ⟨fuel0 - 6, by have := fuel_gt; omega⟩
  rw [hn, z0, unr KO (by decide) (by decide) (show sCh 2 (nI 0) = 112 by decide), rp_p]
  refine st_dg hT h hs hg (by decide) hi (by decide) (fun g2 v hi2 r => ?_)
  rw [unr KO (by decide) (by decide) (show sCh 2 (nI (0 + 1)) = 44 by decide), rp_c]
  refine st_cm hT r hg hi2 (fun g3 hi3 r3 => ?_)
  rw [unr KO (by decide) (by decide) (show sCh 2 (nI (0 + 1 + 1)) = 35 by decide), rp_n]
  refine st_nm hT r3 hs hg (by decide) hi3 (fun g4 v4 j4 hi4 r4 => ?_)
  rw [unr KO (by decide) (by decide) (show sCh 2 (nI (0 + 1 + 1 + 1)) = 44 by decide), rp_c]
  refine st_cm hT r4 hg hi4 (fun g5 hi5 r5 => ?_)
  rw [unr KO (by decide) (by decide) (show sCh 2 (nI (0 + 1 + 1 + 1 + 1)) = 35 by decide), rp_n]
  refine st_nm hT r5 hs hg (by decide) hi5 (fun g6 v6 j6 hi6 r6 => ?_)
  rw [fin KO (by decide)]
  exact QO_ok r6 hg (by decide) (by decide) rfl (fun q => rfl) (fun q => rfl)
theorem bo_a (hT : TC g tn txt) (h : RD g g s i 0 N) (hs : s < 20) (hg : g 89 5 = nI s) (hi : i ≤ tn) : QO g s 3 (f_X1_readOrder_L73 KO 3 fuel0 0 g) (P_dg (tx tn txt) 3 i fun a j => P_cm (tx tn txt) j fun j => P_nm (tx tn txt) j fun b j => P_cm (tx tn txt) j fun j => P_dg (tx tn txt) 6 j fun c j => (true, j, a, b, c)) := by
  obtain ⟨n, hn⟩ : ∃ n, fuel0 = n + 1 + 1 + 1 + 1 + 1 + 1 := ⟨fuel0 - 6, by have := fuel_gt; omega⟩
  rw [hn, z0, unr KO (by decide) (by decide) (show sCh 3 (nI 0) = 112 by decide), rp_p]
  refine st_dg hT h hs hg (by decide) hi (by decide) (fun g2 v hi2 r => ?_)
  rw [unr KO (by decide) (by decide) (show sCh 3 (nI (0 + 1)) = 44 by decide), rp_c]
  refine st_cm hT r hg hi2 (fun g3 hi3 r3 => ?_)
  rw [unr KO (by decide) (by decide) (show sCh 3 (nI (0 + 1 + 1)) = 35 by decide), rp_n]
  refine st_nm hT r3 hs hg (by decide) hi3 (fun g4 v4 j4 hi4 r4 => ?_)
  rw [unr KO (by decide) (by decide) (show sCh 3 (nI (0 + 1 + 1 + 1)) = 44 by decide), rp_c]
  refine st_cm hT r4 hg hi4 (fun g5 hi5 r5 => ?_)
  rw [unr KO (by decide) (by decide) (show sCh 3 (nI (0 + 1 + 1 + 1 + 1)) = 97 by decide), rp_a]
  refine st_dg hT r5 hs hg (by decide) hi5 (by decide) (fun g6 v6 hi6 r6 => ?_)
  rw [fin KO (by decide)]
  exact QO_ok r6 hg (by decide) (by decide) rfl (fun q => rfl) (fun q => rfl)
end STEPS
