/-! the law's switch and its loop -/
section LOOP
variable {p : Program} {l : Launch} {e : Env} {s : State} {m : MethodId} {below : List Frame} {meth : Method} {c : Code} {b L : Nat} {xs : Nat → Int32} {G : GG} {ac am : Nat → Nat} {g h : Mem} {S : St} {i : Nat}
theorem la_sw (X : LX p s m c b L xs G ac am) (hJ : JS g h S) (hi : i + 5 ≤ L) (kk : ∀ g h S, JS g h S → JL p l e s m b below meth c G ac am 780 (LL b (ac 0) (am 0) i) [] g h) : JL p l e s m b below meth c G ac am 26 (LL b (ac 0) (am 0) i) [] g h := by
  intro H locs ls hC hM hS hl
  have hL := X.2.2.2.1
  have hbA : ¬ AX s b := Nat.not_le.mpr X.2.2.1
  refine lv_aload_n X.1.1 X.1.2.1 dL_law_26 rfl (lv_at hl 3 rfl) ?_
  refine lv_iload_n X.1.1 X.1.2.1 dL_law_27 rfl (lv_at hl 0 rfl) ?_
  refine va_sld X.1.1 X.1.2.1 X.2.1 X.2.2.1 hbA hS (vp_in_nI (n := i) (by omega) (by omega)) dL_law_28 ?_
  refine lv_bipush (v := 31) X.1.1 X.1.2.1 dL_law_29 rfl ?_
  refine lv_iand X.1.1 X.1.2.1 dL_law_31 ?_
  generalize xs (nI i).toNatClampNeg &&& 31 = v
  by_cases ho : v.toInt < 0 ∨ 21 < v.toInt
  · exact lv_tableOut (tgt := 780) X.1.1 X.1.2.1 dL_law_32 ho (by decide) (kk g h S hJ H locs ls hC hM hS hl)
  · have h1 : ¬ v.toInt < 0 := fun q => ho (Or.inl q)
    have h2 : ¬ 21 < v.toInt := fun q => ho (Or.inr q)
    obtain ⟨k, hk⟩ : ∃ k : Nat, v.toInt = (k : Int) := ⟨v.toInt.toNat, by omega⟩
    have hk2 : k < 22 := by omega
    have hz : (v.toInt - 0).toNat = k := by omega
    match k, hk2, hz with
    | 0, _, hz => exact lv_tableIn (off := 104) (tgt := 136) X.1.1 X.1.2.1 dL_law_32 h1 h2 (by rw [hz]; rfl) (by decide) (la_0 X hJ hi kk H locs ls hC hM hS hl)
    | 1, _, hz => exact lv_tableIn (off := 153) (tgt := 185) X.1.1 X.1.2.1 dL_law_32 h1 h2 (by rw [hz]; rfl) (by decide) (la_1 X hJ hi kk H locs ls hC hM hS hl)
    | 2, _, hz => exact lv_tableIn (off := 176) (tgt := 208) X.1.1 X.1.2.1 dL_law_32 h1 h2 (by rw [hz]; rfl) (by decide) (la_2 X hJ hi kk H locs ls hC hM hS hl)
    | 3, _, hz => exact lv_tableIn (off := 199) (tgt := 231) X.1.1 X.1.2.1 dL_law_32 h1 h2 (by rw [hz]; rfl) (by decide) (la_3 X hJ hi kk H locs ls hC hM hS hl)
    | 4, _, hz => exact lv_tableIn (off := 232) (tgt := 264) X.1.1 X.1.2.1 dL_law_32 h1 h2 (by rw [hz]; rfl) (by decide) (la_4 X hJ hi kk H locs ls hC hM hS hl)
    | 5, _, hz => exact lv_tableIn (off := 275) (tgt := 307) X.1.1 X.1.2.1 dL_law_32 h1 h2 (by rw [hz]; rfl) (by decide) (la_5 X hJ hi kk H locs ls hC hM hS hl)
    | 6, _, hz => exact lv_tableIn (off := 318) (tgt := 350) X.1.1 X.1.2.1 dL_law_32 h1 h2 (by rw [hz]; rfl) (by decide) (la_6 X hJ hi kk H locs ls hC hM hS hl)
    | 7, _, hz => exact lv_tableIn (off := 341) (tgt := 373) X.1.1 X.1.2.1 dL_law_32 h1 h2 (by rw [hz]; rfl) (by decide) (la_7 X hJ hi kk H locs ls hC hM hS hl)
    | 8, _, hz => exact lv_tableIn (off := 366) (tgt := 398) X.1.1 X.1.2.1 dL_law_32 h1 h2 (by rw [hz]; rfl) (by decide) (la_8 X hJ hi kk H locs ls hC hM hS hl)
    | 9, _, hz => exact lv_tableIn (off := 379) (tgt := 411) X.1.1 X.1.2.1 dL_law_32 h1 h2 (by rw [hz]; rfl) (by decide) (la_9 X hJ hi kk H locs ls hC hM hS hl)
    | 10, _, hz => exact lv_tableIn (off := 392) (tgt := 424) X.1.1 X.1.2.1 dL_law_32 h1 h2 (by rw [hz]; rfl) (by decide) (la_10 X hJ hi kk H locs ls hC hM hS hl)
    | 11, _, hz => exact lv_tableIn (off := 415) (tgt := 447) X.1.1 X.1.2.1 dL_law_32 h1 h2 (by rw [hz]; rfl) (by decide) (la_11 X hJ hi kk H locs ls hC hM hS hl)
    | 12, _, hz => exact lv_tableIn (off := 428) (tgt := 460) X.1.1 X.1.2.1 dL_law_32 h1 h2 (by rw [hz]; rfl) (by decide) (la_12 X hJ hi kk H locs ls hC hM hS hl)
    | 13, _, hz => exact lv_tableIn (off := 441) (tgt := 473) X.1.1 X.1.2.1 dL_law_32 h1 h2 (by rw [hz]; rfl) (by decide) (la_13 X hJ hi kk H locs ls hC hM hS hl)
    | 14, _, hz => exact lv_tableIn (off := 454) (tgt := 486) X.1.1 X.1.2.1 dL_law_32 h1 h2 (by rw [hz]; rfl) (by decide) (la_14 X hJ hi kk H locs ls hC hM hS hl)
    | 15, _, hz => exact lv_tableIn (off := 487) (tgt := 519) X.1.1 X.1.2.1 dL_law_32 h1 h2 (by rw [hz]; rfl) (by decide) (la_15 X hJ hi kk H locs ls hC hM hS hl)
    | 16, _, hz => exact lv_tableIn (off := 530) (tgt := 562) X.1.1 X.1.2.1 dL_law_32 h1 h2 (by rw [hz]; rfl) (by decide) (la_16 X hJ hi kk H locs ls hC hM hS hl)
    | 17, _, hz => exact lv_tableIn (off := 563) (tgt := 595) X.1.1 X.1.2.1 dL_law_32 h1 h2 (by rw [hz]; rfl) (by decide) (la_17 X hJ hi kk H locs ls hC hM hS hl)
    | 18, _, hz => exact lv_tableIn (off := 606) (tgt := 638) X.1.1 X.1.2.1 dL_law_32 h1 h2 (by rw [hz]; rfl) (by decide) (la_18 X hJ hi kk H locs ls hC hM hS hl)
    | 19, _, hz => exact lv_tableIn (off := 639) (tgt := 671) X.1.1 X.1.2.1 dL_law_32 h1 h2 (by rw [hz]; rfl) (by decide) (la_19 X hJ hi kk H locs ls hC hM hS hl)
    | 20, _, hz => exact lv_tableIn (off := 672) (tgt := 704) X.1.1 X.1.2.1 dL_law_32 h1 h2 (by rw [hz]; rfl) (by decide) (la_20 X hJ hi kk H locs ls hC hM hS hl)
    | 21, _, hz => exact lv_tableIn (off := 725) (tgt := 757) X.1.1 X.1.2.1 dL_law_32 h1 h2 (by rw [hz]; rfl) (by decide) (la_21 X hJ hi kk H locs ls hC hM hS hl)
    | k + 22, hk2, _ => exact absurd hk2 (by omega)
/-- FROM THE LOOP'S HEAD -/
theorem law_loop (X : LX p s m c b L xs G ac am) (hr : meth.sig.returnType = ret) (hlocks : meth.locks = false) : ∀ (n i : Nat) (g h : Mem) (S : St), JS g h S → L < i + 5 * n + 5 → i ≤ L → JL p l e s m b below meth c G ac am 18 (LL b (ac 0) (am 0) i) [] g h := by
  intro n
  have hL := X.2.2.2.1
  have hbA : ¬ AX s b := Nat.not_le.mpr X.2.2.1
  induction n with
  | zero =>
    intro i g h S hJ hin hiL H locs ls hC hM hS hl
    refine lv_iload_n X.1.1 X.1.2.1 dL_law_18 rfl (lv_at hl 0 rfl) ?_
    refine lv_aload_n X.1.1 X.1.2.1 dL_law_19 rfl (lv_at hl 3 rfl) ?_
    refine va_slen X.1.1 X.1.2.1 X.2.1 X.2.2.1 hbA hS dL_law_20 ?_
    refine lv_iconst (v := 5) X.1.1 X.1.2.1 dL_law_21 rfl ?_
    refine lv_isub X.1.1 X.1.2.1 dL_law_22 ?_
    refine lv_icmp_gt (tgt := 786) X.1.1 X.1.2.1 dL_law_23 (by decide) (fun _ => ?_) (fun w => absurd ((lw_cmp (i := i) (by omega) hL).mpr (by omega)) w)
    refine lv_iconst (v := 1) X.1.1 X.1.2.1 dL_law_786 rfl ?_
    refine va_forget (fun q hq => hS.2.2 q hq) ?_
    exact lw_ret X.1.1 X.1.2.1 hr hlocks dL_law_787
  | succ n ih =>
    intro i g h S hJ hin hiL H locs ls hC hM hS hl
    refine lv_iload_n X.1.1 X.1.2.1 dL_law_18 rfl (lv_at hl 0 rfl) ?_
    refine lv_aload_n X.1.1 X.1.2.1 dL_law_19 rfl (lv_at hl 3 rfl) ?_
    refine va_slen X.1.1 X.1.2.1 X.2.1 X.2.2.1 hbA hS dL_law_20 ?_
    refine lv_iconst (v := 5) X.1.1 X.1.2.1 dL_law_21 rfl ?_
    refine lv_isub X.1.1 X.1.2.1 dL_law_22 ?_
    refine lv_icmp_gt (tgt := 786) X.1.1 X.1.2.1 dL_law_23 (by decide) (fun _ => ?_) (fun w => ?_)
    · refine lv_iconst (v := 1) X.1.1 X.1.2.1 dL_law_786 rfl ?_
      refine va_forget (fun q hq => hS.2.2 q hq) ?_
      exact lw_ret X.1.1 X.1.2.1 hr hlocks dL_law_787
    · have hi : i + 5 ≤ L := by
        rcases Nat.lt_or_ge L (i + 5) with q | q
        · exact absurd ((lw_cmp (i := i) (by omega) hL).mpr q) w
        · exact q
      refine la_sw X hJ hi (fun g1 h1 S1 hJ1 => ?_) H locs ls hC hM hS hl
      intro H locs ls hC hM hS hl
      refine lv_iinc (v := nI (i + 5)) X.1.1 X.1.2.1 dL_law_780 hl (show (LL b (ac 0) (am 0) i)[0]? = some (3, .int (nI i)) from rfl) (nI_add i 5) (by decide) (lv' := LL b (ac 0) (am 0) (i + 5)) rfl (fun ls hl => ?_)
      refine lv_goto (tgt := 18) X.1.1 X.1.2.1 dL_law_783 (by decide) ?_
      exact ih (i + 5) g1 h1 S1 hJ1 (by omega) hi H locs ls hC hM hS hl
end LOOP
