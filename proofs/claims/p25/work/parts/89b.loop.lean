/-! p25: the law's loop, stage by stage -/
section LOOP
variable {p : Program} {l : Launch} {e : Env} {s : State} {m : MethodId} {below : List Frame} {meth : Method} {c : Code} {b L : Nat} {xs : Nat → Int32} {G : GG} {ac : Nat → Nat} {g : Mem} {τ : Row} {hn : Nat} {hist : Nat → Row} {kf : Bool} {sn : Row} {tn : Nat} {txt : Nat → Nat} {rf : Option (Nat × Int32 × Nat)}
abbrev L0 (b a0 i : Nat) : List (Nat × Value) := [(2, .int (nI i)), (1, .ref a0), (0, .ref b)]
abbrev L9 (b a0 i : Nat) (gs hs : Int32) (k q a sl hn : Nat) (d : Int64) : List (Nat × Value) := [(10, .long d), (9, .int (nI hn)), (8, .int (nI sl)), (7, .int (nI a)), (6, .int (nI q)), (5, .int (nI k)), (4, .int hs), (3, .int gs), (2, .int (nI i)), (1, .ref a0), (0, .ref b)]
set_option maxHeartbeats 4000000 in
theorem law_1 (X : LX p s m c b L xs G ac) (hRC : RC g (τ, hn, hist, kf, sn, tn, txt, rf)) (hK : RK τ) {i : Nat} (hi : i < 32) (kk : ∀ (gs hs : Int32) (k q a sl : Nat) (d : Int64), k < 14 → q < 3 → a < 6 → 1 ≤ sl → sl < 20 → (∀ g, DG g τ → f_L_digest g = some d) → JL p l e s m b below meth c G ac 208 (L9 b (ac 0) i gs hs k q a sl hn d) [] g) : JL p l e s m b below meth c G ac 87 (L0 b (ac 0) i) [] g := by
  have hpl := pre_le τ
  refine l_aload_n 88 X 2 dL_law_87 rfl rfl ?_
  refine l_iconst (v := 2) 89 X dL_law_88 rfl (by decide) ?_
  refine l_iload_n 90 X 0 dL_law_89 rfl rfl ?_
  refine l_imul 91 X dL_law_90 rfl ?_
  rw [z2, pk_mul]
  refine l_cell 94 X (by omega) rfl (Nat.le_of_ble_eq_true rfl) dL_law_91 rfl (fun gs => ?_)
  refine l_istore_n 95 X [(3, .int gs), (2, .int (nI i)), (1, .ref (ac 0)), (0, .ref b)] dL_law_94 rfl rfl (by decide) rfl ?_
  refine l_aload_n 96 X 3 dL_law_95 rfl rfl ?_
  refine l_iconst (v := 2) 97 X dL_law_96 rfl (by decide) ?_
  refine l_iload_n 98 X 1 dL_law_97 rfl rfl ?_
  refine l_imul 99 X dL_law_98 rfl ?_
  refine l_iconst (v := 1) 100 X dL_law_99 rfl (by decide) ?_
  refine l_iadd 101 X dL_law_100 rfl ?_
  rw [z2, pk_mul, nI_1]
  refine l_cell 104 X (by omega) rfl (Nat.le_of_ble_eq_true rfl) dL_law_101 rfl (fun hs => ?_)
  refine l_istore 106 X [(4, .int hs), (3, .int gs), (2, .int (nI i)), (1, .ref (ac 0)), (0, .ref b)] dL_law_104 rfl rfl (by decide) rfl ?_
  have k1 : ∀ k, k < 14 → JL p l e s m b below meth c G ac 124 [(4, .int hs), (3, .int gs), (2, .int (nI i)), (1, .ref (ac 0)), (0, .ref b)] [.int (nI k)] g := by
    intro k hk
    refine l_istore 126 X [(5, .int (nI k)), (4, .int hs), (3, .int gs), (2, .int (nI i)), (1, .ref (ac 0)), (0, .ref b)] dL_law_124 rfl rfl (by decide) rfl ?_
    have k2 : ∀ q, q < 3 → JL p l e s m b below meth c G ac 147 [(5, .int (nI k)), (4, .int hs), (3, .int gs), (2, .int (nI i)), (1, .ref (ac 0)), (0, .ref b)] [.int (nI q)] g := by
      intro q hq
      refine l_istore 149 X [(6, .int (nI q)), (5, .int (nI k)), (4, .int hs), (3, .int gs), (2, .int (nI i)), (1, .ref (ac 0)), (0, .ref b)] dL_law_147 rfl rfl (by decide) rfl ?_
      refine l_iload 151 X 2 dL_law_149 rfl rfl ?_
      refine l_bipush (v := 9) 153 X dL_law_151 rfl (by decide) ?_
      refine l_ishr 154 X dL_law_153 rfl ?_
      refine l_iload 156 X 2 dL_law_154 rfl rfl ?_
      refine l_bipush (v := 14) 158 X dL_law_156 rfl (by decide) ?_
      refine l_ishr 159 X dL_law_158 rfl ?_
      refine l_iconst (v := 3) 160 X dL_law_159 rfl (by decide) ?_
      refine l_iand 161 X dL_law_160 rfl ?_
      have k3 : ∀ n, 0 < n → n < 7 → JL p l e s m b below meth c G ac 170 [(6, .int (nI q)), (5, .int (nI k)), (4, .int hs), (3, .int gs), (2, .int (nI i)), (1, .ref (ac 0)), (0, .ref b)] [.int (nI n), .int (hs >>> (9 &&& 31))] g := by
        intro n hn0 hn7
        obtain ⟨a, ha, ea⟩ := R_low (hs >>> (9 &&& 31)) hn0 (Nat.lt_trans hn7 (by decide))
        have ha6 : a < 6 := by omega
        refine l_S (As := [.int (hs >>> (9 &&& 31)), .int (nI n)]) 173 X (c_L_low l (wA G ac) (aof (wC G ac gZ)) (hs >>> (9 &&& 31)) (nI n) g _ ea) (va_cwS 2 X.1.2.2.2.2 gL_law_L_low rfl rfl rfl hd_L_low ⟨Nat.le_of_ble_eq_true rfl, Nat.le_of_ble_eq_true rfl⟩) rfl rfl (Nat.le_of_ble_eq_true rfl) dL_law_170 rfl ?_
        refine l_istore 175 X [(7, .int (nI a)), (6, .int (nI q)), (5, .int (nI k)), (4, .int hs), (3, .int gs), (2, .int (nI i)), (1, .ref (ac 0)), (0, .ref b)] dL_law_173 rfl rfl (by decide) rfl ?_
        refine l_iconst (v := 1) 176 X dL_law_175 rfl (by decide) ?_
        refine l_iload 178 X 3 dL_law_176 rfl rfl ?_
        refine l_bipush (v := 17) 180 X dL_law_178 rfl (by decide) ?_
        refine l_ishr 181 X dL_law_180 rfl ?_
        refine l_aload_n 182 X 6 dL_law_181 rfl rfl ?_
        refine l_iconst (v := 0) 183 X dL_law_182 rfl (by decide) ?_
        refine l_V (As := [.int 0]) 186 X (c_X4_count l (wA G ac) (aof (wC G ac gZ)) 0 g _ (R_c0 hRC.1 hK.1 hRC.2.2.1 hRC.2.2.2.2.2.1)) (cwV 1 X.1.2.2.2.2 gL_law_X4_count rfl rfl rfl hd_X4_count ⟨Nat.le_of_ble_eq_true rfl, Nat.le_of_ble_eq_true rfl⟩) rfl rfl (Nat.le_of_ble_eq_true rfl) dL_law_183 rfl ?_
        refine l_iconst (v := 2) 187 X dL_law_186 rfl (by decide) ?_
        refine l_iadd 188 X dL_law_187 rfl ?_
        rw [z2, nI_add]
        obtain ⟨r, hr2, er⟩ := R_low (hs >>> (17 &&& 31)) (n := pre τ + 2) (by omega) (by omega)
        refine l_S (As := [.int (hs >>> (17 &&& 31)), .int (nI (pre τ + 2))]) 191 X (c_L_low l (wA G ac) (aof (wC G ac gZ)) (hs >>> (17 &&& 31)) (nI (pre τ + 2)) g _ er) (va_cwS 2 X.1.2.2.2.2 gL_law_L_low rfl rfl rfl hd_L_low ⟨Nat.le_of_ble_eq_true rfl, Nat.le_of_ble_eq_true rfl⟩) rfl rfl (Nat.le_of_ble_eq_true rfl) dL_law_188 rfl ?_
        refine l_iadd 192 X dL_law_191 rfl ?_
        rw [z1, nI_add]
        refine l_istore 194 X [(8, .int (nI (1 + r))), (7, .int (nI a)), (6, .int (nI q)), (5, .int (nI k)), (4, .int hs), (3, .int gs), (2, .int (nI i)), (1, .ref (ac 0)), (0, .ref b)] dL_law_192 rfl rfl (by decide) rfl ?_
        refine l_aload_n 195 X 7 dL_law_194 rfl rfl ?_
        refine l_bipush (v := 9) 197 X dL_law_195 rfl (by decide) ?_
        refine l_V (As := [.int 9]) 200 X (c_X4_count l (wA G ac) (aof (wC G ac gZ)) 9 g _ (R_c9 hRC.1 hK.1 hRC.2.2.1 hRC.2.2.2.2.2.1)) (cwV 1 X.1.2.2.2.2 gL_law_X4_count rfl rfl rfl hd_X4_count ⟨Nat.le_of_ble_eq_true rfl, Nat.le_of_ble_eq_true rfl⟩) rfl rfl (Nat.le_of_ble_eq_true rfl) dL_law_197 rfl ?_
        refine l_istore 202 X [(9, .int (nI hn)), (8, .int (nI (1 + r))), (7, .int (nI a)), (6, .int (nI q)), (5, .int (nI k)), (4, .int hs), (3, .int gs), (2, .int (nI i)), (1, .ref (ac 0)), (0, .ref b)] dL_law_200 rfl rfl (by decide) rfl ?_
        refine l_aload_n 203 X 8 dL_law_202 rfl rfl ?_
        obtain ⟨d, hd⟩ := L_digest_of hK.1
        refine l_L (As := [.ref (ac 0)]) 206 X (c_L_digest l (wA G ac) (aof (wC G ac gZ)) g _ (hd g (RC_DG hRC))) (va_cwS 1 X.1.2.2.2.2 gL_law_L_digest rfl rfl rfl hd_L_digest ⟨Nat.le_of_ble_eq_true rfl, Nat.le_of_ble_eq_true rfl⟩) rfl rfl (Nat.le_of_ble_eq_true rfl) dL_law_203 rfl ?_
        refine l_lstore 208 X [(10, .long d), (9, .int (nI hn)), (8, .int (nI (1 + r))), (7, .int (nI a)), (6, .int (nI q)), (5, .int (nI k)), (4, .int hs), (3, .int gs), (2, .int (nI i)), (1, .ref (ac 0)), (0, .ref b)] dL_law_206 rfl rfl (by decide) rfl ?_
        exact kk gs hs k q a (1 + r) d hk hq ha6 (by omega) (by omega) hd
      refine l_if_le 168 164 X dL_law_161 rfl rfl (fun _ => ?_) (fun _ => ?_)
      · refine l_bipush (v := 6) 170 X dL_law_168 rfl (by decide) ?_
        exact k3 6 (by decide) (by decide)
      · refine l_iconst (v := 3) 165 X dL_law_164 rfl (by decide) ?_
        refine l_goto 170 X dL_law_165 rfl ?_
        exact k3 3 (by decide) (by decide)
    refine l_iload_n 127 X 2 dL_law_126 rfl rfl ?_
    refine l_bipush (v := 20) 129 X dL_law_127 rfl (by decide) ?_
    refine l_ishr 130 X dL_law_129 rfl ?_
    refine l_iconst (v := 3) 131 X dL_law_130 rfl (by decide) ?_
    refine l_iand 132 X dL_law_131 rfl ?_
    refine l_if_le 139 135 X dL_law_132 rfl rfl (fun _ => ?_) (fun _ => ?_)
    · refine l_iload_n 140 X 2 dL_law_139 rfl rfl ?_
      refine l_bipush (v := 22) 142 X dL_law_140 rfl (by decide) ?_
      refine l_ishr 143 X dL_law_142 rfl ?_
      refine l_iconst (v := 3) 144 X dL_law_143 rfl (by decide) ?_
      obtain ⟨q, hq, eq⟩ := R_low (gs >>> (22 &&& 31)) (n := 3) (by decide) (by decide)
      refine l_S (As := [.int (gs >>> (22 &&& 31)), .int 3]) 147 X (c_L_low l (wA G ac) (aof (wC G ac gZ)) (gs >>> (22 &&& 31)) 3 g _ eq) (va_cwS 2 X.1.2.2.2.2 gL_law_L_low rfl rfl rfl hd_L_low ⟨Nat.le_of_ble_eq_true rfl, Nat.le_of_ble_eq_true rfl⟩) rfl rfl (Nat.le_of_ble_eq_true rfl) dL_law_144 rfl ?_
      exact k2 q hq
    · refine l_iconst (v := 0) 136 X dL_law_135 rfl (by decide) ?_
      refine l_goto 147 X dL_law_136 rfl ?_
      exact k2 0 (by decide)
  refine l_iload_n 107 X 2 dL_law_106 rfl rfl ?_
  refine l_iconst (v := 2) 108 X dL_law_107 rfl (by decide) ?_
  refine l_icmp_ge 115 111 X dL_law_108 rfl rfl (fun _ => ?_) (fun _ => ?_)
  · refine l_iload_n 116 X 1 dL_law_115 rfl rfl ?_
    refine l_bipush (v := 9) 118 X dL_law_116 rfl (by decide) ?_
    refine l_ishr 119 X dL_law_118 rfl ?_
    refine l_bipush (v := 14) 121 X dL_law_119 rfl (by decide) ?_
    obtain ⟨k, hk, ek⟩ := R_low (gs >>> (9 &&& 31)) (n := 14) (by decide) (by decide)
    refine l_S (As := [.int (gs >>> (9 &&& 31)), .int 14]) 124 X (c_L_low l (wA G ac) (aof (wC G ac gZ)) (gs >>> (9 &&& 31)) 14 g _ ek) (va_cwS 2 X.1.2.2.2.2 gL_law_L_low rfl rfl rfl hd_L_low ⟨Nat.le_of_ble_eq_true rfl, Nat.le_of_ble_eq_true rfl⟩) rfl rfl (Nat.le_of_ble_eq_true rfl) dL_law_121 rfl ?_
    exact k1 k hk
  · refine l_iconst (v := 0) 112 X dL_law_111 rfl (by decide) ?_
    refine l_goto 124 X dL_law_112 rfl ?_
    exact k1 0 (by decide)
set_option maxHeartbeats 4000000 in
theorem law_2 (X : LX p s m c b L xs G ac) (hRC : RC g (τ, hn, hist, kf, sn, tn, txt, rf)) (hS : SV (τ, hn, hist, kf, sn, tn, txt, rf)) {i : Nat} {gs hs : Int32} {k q a sl : Nat} {d : Int64} (hk : k < 14) (hq : q < 3) (ha : a < 6) (hsl : 1 ≤ sl) (hsl2 : sl < 20) (kk : ∀ (g' : Mem) (S' : St), RC g' S' → SV S' → (k < 13 → S' = (τ, hn, hist, kf, sn, tn, txt, rf) ∨ ∃ ρ, S' = acted ρ (τ, hn, hist, kf, sn, tn, txt, rf)) → JL p l e s m b below meth c G ac 287 (L9 b (ac 0) i gs hs k q a sl hn d) [.int 1] g') : JL p l e s m b below meth c G ac 208 (L9 b (ac 0) i gs hs k q a sl hn d) [] g := by
  refine l_iload 210 X 5 dL_law_208 rfl rfl ?_
  refine l_bipush (v := 10) 212 X dL_law_210 rfl (by decide) ?_
  refine l_icmp_ge 244 215 X dL_law_212 rfl rfl (fun w => ?_) (fun w => ?_)
  · rw [show (10 : Int32) = nI 10 from rfl, nI_leI (by omega) (by omega)] at w
    refine l_iload 246 X 5 dL_law_244 rfl rfl ?_
    refine l_bipush (v := 13) 248 X dL_law_246 rfl (by decide) ?_
    refine l_icmp_ge 279 251 X dL_law_248 rfl rfl (fun w2 => ?_) (fun w2 => ?_)
    · refine l_aload_n 280 X 9 dL_law_279 rfl rfl ?_
      refine l_iload 282 X 4 dL_law_280 rfl rfl ?_
      refine l_iload 284 X 3 dL_law_282 rfl rfl ?_
      obtain ⟨g1, S1, e1, r1, v1⟩ := EV_performs hRC hS hq ha
      refine l_S (r := bI true) (As := [.ref (ac 0), .int (nI q), .int (nI a)]) 287 X (c_L_performs l (wA G ac) (aof (wC G ac gZ)) (nI q) (nI a) g _ e1) (va_cwS 3 X.1.2.2.2.2 gL_law_L_performs rfl rfl rfl hd_L_performs ⟨Nat.le_of_ble_eq_true rfl, Nat.le_of_ble_eq_true rfl⟩) rfl rfl (Nat.le_of_ble_eq_true rfl) dL_law_284 rfl ?_
      rw [show (13 : Int32) = nI 13 from rfl, nI_leI (by omega) (by omega)] at w2
      exact kk g1 S1 r1 v1 (fun h => absurd h (by omega))
    · rw [show (13 : Int32) = nI 13 from rfl, nI_leI (by omega) (by omega)] at w2
      refine l_aload_n 252 X 9 dL_law_251 rfl rfl ?_
      refine l_iload 254 X 5 dL_law_252 rfl rfl ?_
      refine l_iload 256 X 3 dL_law_254 rfl rfl ?_
      have kc : ∀ v, 1 ≤ v → v ≤ 16 → JL p l e s m b below meth c G ac 270 (L9 b (ac 0) i gs hs k q a sl hn d) (.int (nI v) :: [.int (nI a), .int (nI k), .ref (ac 0)]) g := by
        intro v hv1 hv2
        refine l_iload_n 271 X 7 dL_law_270 rfl rfl ?_
        refine l_iload 273 X 6 dL_law_271 rfl rfl ?_
        obtain ⟨v, rfl⟩ : ∃ u, v = u + 1 := ⟨v - 1, by omega⟩
        obtain ⟨g1, S1, e1, r1, v1, h1⟩ := EV_others hRC hS (k := k) w (by omega) ha (show v < 16 by omega) gs hs
        refine l_S (r := bI true) (As := [.ref (ac 0), .int (nI k), .int (nI a), .int (nI (v + 1)), .int gs, .int hs]) 276 X (c_L_others l (wA G ac) (aof (wC G ac gZ)) (nI k) (nI a) (nI (v + 1)) gs hs g _ e1) (va_cwS 6 X.1.2.2.2.2 gL_law_L_others rfl rfl rfl hd_L_others ⟨Nat.le_of_ble_eq_true rfl, Nat.le_of_ble_eq_true rfl⟩) rfl rfl (Nat.le_of_ble_eq_true rfl) dL_law_273 rfl ?_
        refine l_goto 287 X dL_law_276 rfl ?_
        exact kk g1 S1 r1 v1 (fun _ => h1)
      refine l_iload 258 X 2 dL_law_256 rfl rfl ?_
      refine l_bipush (v := 16) 260 X dL_law_258 rfl (by decide) ?_
      refine l_icmp_le 268 263 X dL_law_260 rfl rfl (fun w => ?_) (fun w => ?_)
      · refine l_iload 270 X 2 dL_law_268 rfl rfl ?_
        rw [z16, nI_leI (by omega) (by omega)] at w
        exact kc sl hsl w
      · refine l_bipush (v := 16) 265 X dL_law_263 rfl (by decide) ?_
        refine l_goto 270 X dL_law_265 rfl ?_
        exact kc 16 (by decide) (by decide)
  · rw [show (10 : Int32) = nI 10 from rfl, nI_leI (by omega) (by omega)] at w
    refine l_aload_n 216 X 9 dL_law_215 rfl rfl ?_
    refine l_iload 218 X 5 dL_law_216 rfl rfl ?_
    refine l_iload 220 X 4 dL_law_218 rfl rfl ?_
    refine l_iload 222 X 3 dL_law_220 rfl rfl ?_
    have kc : ∀ v, 1 ≤ v → v ≤ 16 → JL p l e s m b below meth c G ac 236 (L9 b (ac 0) i gs hs k q a sl hn d) (.int (nI v) :: [.int (nI a), .int (nI q), .int (nI k), .ref (ac 0)]) g := by
      intro v hv1 hv2
      refine l_iload 238 X 6 dL_law_236 rfl rfl ?_
      obtain ⟨v, rfl⟩ : ∃ u, v = u + 1 := ⟨v - 1, by omega⟩
      obtain ⟨g1, S1, e1, r1, v1, h1⟩ := EV_ballots hRC hS (k := k) hq ha (show v < 16 by omega) (by omega) hs
      refine l_S (r := bI true) (As := [.ref (ac 0), .int (nI k), .int (nI q), .int (nI a), .int (nI (v + 1)), .int hs]) 241 X (c_L_ballots l (wA G ac) (aof (wC G ac gZ)) (nI k) (nI q) (nI a) (nI (v + 1)) hs g _ e1) (va_cwS 6 X.1.2.2.2.2 gL_law_L_ballots rfl rfl rfl hd_L_ballots ⟨Nat.le_of_ble_eq_true rfl, Nat.le_of_ble_eq_true rfl⟩) rfl rfl (Nat.le_of_ble_eq_true rfl) dL_law_238 rfl ?_
      refine l_goto 287 X dL_law_241 rfl ?_
      exact kk g1 S1 r1 v1 (fun _ => h1)
    refine l_iload 224 X 2 dL_law_222 rfl rfl ?_
    refine l_bipush (v := 16) 226 X dL_law_224 rfl (by decide) ?_
    refine l_icmp_le 234 229 X dL_law_226 rfl rfl (fun w => ?_) (fun w => ?_)
    · refine l_iload 236 X 2 dL_law_234 rfl rfl ?_
      rw [z16, nI_leI (by omega) (by omega)] at w
      exact kc sl hsl w
    · refine l_bipush (v := 16) 231 X dL_law_229 rfl (by decide) ?_
      refine l_goto 236 X dL_law_231 rfl ?_
      exact kc 16 (by decide) (by decide)
set_option maxHeartbeats 4000000 in
theorem law_4 (X : LX p s m c b L xs G ac) (hRC : RC g (τ, hn, hist, kf, sn, tn, txt, rf)) (hS : SV (τ, hn, hist, kf, sn, tn, txt, rf)) {i : Nat} {Ls : List (Nat × Value)} (h1 : lv_pick Ls [0, 1, 2, 3] = [(12, .int 1), (2, .int (nI i)), (1, .ref (ac 0)), (0, .ref b)]) (kk : JL p l e s m b below meth c G ac 81 (L0 b (ac 0) (i + 1)) [] g) : JL p l e s m b below meth c G ac 377 Ls [] g := by
  have hK : RK τ := hS.1.1
  refine l_sub _ _ h1 ?_
  refine l_iload 379 X 0 dL_law_377 rfl rfl ?_
  refine l_if_eq 396 382 X dL_law_379 rfl rfl (fun w => absurd w (by decide)) (fun _ => ?_)
  refine l_aload_n 383 X 2 dL_law_382 rfl rfl ?_
  refine l_S (r := bI true) (As := [.ref (ac 0)]) 386 X (c_L_slots l (wA G ac) (aof (wC G ac gZ)) g _ (L_slots_ok hRC.1 hK hRC.2.2.1 hRC.2.2.2.2.2.1 hS.2.1)) (va_cwS 1 X.1.2.2.2.2 gL_law_L_slots rfl rfl rfl hd_L_slots ⟨Nat.le_of_ble_eq_true rfl, Nat.le_of_ble_eq_true rfl⟩) rfl rfl (Nat.le_of_ble_eq_true rfl) dL_law_383 rfl ?_
  refine l_if_eq 396 389 X dL_law_386 rfl rfl (fun w => absurd w (by decide)) (fun _ => ?_)
  refine l_aload_n 390 X 2 dL_law_389 rfl rfl ?_
  refine l_S (r := bI true) (As := [.ref (ac 0)]) 393 X (c_L_proposers l (wA G ac) (aof (wC G ac gZ)) g _ (L_proposers_ok hRC.1 hK hRC.2.2.1 hRC.2.2.2.2.2.1 hS.2.1)) (va_cwS 1 X.1.2.2.2.2 gL_law_L_proposers rfl rfl rfl hd_L_proposers ⟨Nat.le_of_ble_eq_true rfl, Nat.le_of_ble_eq_true rfl⟩) rfl rfl (Nat.le_of_ble_eq_true rfl) dL_law_390 rfl ?_
  refine l_if_ne 398 396 X dL_law_393 rfl rfl (fun _ => ?_) (fun w => absurd w (by decide))
  refine l_iinc 401 X 1 (nI (i + 1)) [(2, .int (nI (i + 1))), (12, .int 1), (1, .ref (ac 0)), (0, .ref b)] dL_law_398 rfl rfl (nI_1 i) (by decide) rfl ?_
  refine l_goto 81 X dL_law_401 rfl ?_
  refine l_sub (L0 b (ac 0) (i + 1)) [0, 2, 3] rfl ?_
  exact kk
set_option maxHeartbeats 4000000 in
theorem law_3 (X : LX p s m c b L xs G ac) {g' : Mem} {τ' : Row} {hn' : Nat} {hist' : Nat → Row} {kf' : Bool} {sn' : Row} {tn' : Nat} {txt' : Nat → Nat} {rf' : Option (Nat × Int32 × Nat)} (hS : SV (τ, hn, hist, kf, sn, tn, txt, rf)) (hRC' : RC g' (τ', hn', hist', kf', sn', tn', txt', rf')) (hS' : SV (τ', hn', hist', kf', sn', tn', txt', rf')) {i : Nat} {gs hs : Int32} {k q a sl : Nat} {d : Int64} (hk : k < 14) (hd : ∀ g, DG g τ → f_L_digest g = some d) (h1 : k < 13 → (τ', hn', hist', kf', sn', tn', txt', rf') = (τ, hn, hist, kf, sn, tn, txt, rf) ∨ ∃ ρ, (τ', hn', hist', kf', sn', tn', txt', rf') = acted ρ (τ, hn, hist, kf, sn, tn, txt, rf)) (kk : ∀ (g2 : Mem) (S2 : St), RC g2 S2 → SV S2 → JL p l e s m b below meth c G ac 377 [(12, .int 1), (2, .int (nI i)), (1, .ref (ac 0)), (0, .ref b)] [] g2) : JL p l e s m b below meth c G ac 287 (L9 b (ac 0) i gs hs k q a sl hn d) [.int 1] g' := by
  have hh := hS.1.2.1
  have hh' := hS'.1.2.1
  have hK' : RK τ' := hS'.1.1
  refine l_istore 289 X [(12, .int 1), (10, .long d), (9, .int (nI hn)), (8, .int (nI sl)), (7, .int (nI a)), (6, .int (nI q)), (5, .int (nI k)), (4, .int hs), (3, .int gs), (2, .int (nI i)), (1, .ref (ac 0)), (0, .ref b)] dL_law_287 rfl rfl (by decide) rfl ?_
  refine l_iload 291 X 2 dL_law_289 rfl rfl ?_
  refine l_iconst (v := 4) 292 X dL_law_291 rfl (by decide) ?_
  have k4 : JL p l e s m b below meth c G ac 301 [(12, .int 1), (10, .long d), (9, .int (nI hn)), (8, .int (nI sl)), (7, .int (nI a)), (6, .int (nI q)), (5, .int (nI k)), (4, .int hs), (3, .int gs), (2, .int (nI i)), (1, .ref (ac 0)), (0, .ref b)] [.int (nI (if hn = 4 then 3 else hn))] g' := by
    refine l_istore 303 X [(13, .int (nI (if hn = 4 then 3 else hn))), (12, .int 1), (10, .long d), (9, .int (nI hn)), (8, .int (nI sl)), (7, .int (nI a)), (6, .int (nI q)), (5, .int (nI k)), (4, .int hs), (3, .int gs), (2, .int (nI i)), (1, .ref (ac 0)), (0, .ref b)] dL_law_301 rfl rfl (by decide) rfl ?_
    refine l_iload 305 X 1 dL_law_303 rfl rfl ?_
    have out : ∀ (g2 : Mem) (S2 : St), RC g2 S2 → SV S2 → JL p l e s m b below meth c G ac 377 [(13, .int (nI (if hn = 4 then 3 else hn))), (12, .int 1), (10, .long d), (9, .int (nI hn)), (8, .int (nI sl)), (7, .int (nI a)), (6, .int (nI q)), (5, .int (nI k)), (4, .int hs), (3, .int gs), (2, .int (nI i)), (1, .ref (ac 0)), (0, .ref b)] [] g2 := fun g2 S2 r v => l_sub [(12, .int 1), (2, .int (nI i)), (1, .ref (ac 0)), (0, .ref b)] [1, 10, 11, 12] rfl (kk g2 S2 r v)
    refine l_if_eq 377 308 X dL_law_305 rfl rfl (fun w => absurd w (by decide)) (fun _ => ?_)
    refine l_iload 310 X 7 dL_law_308 rfl rfl ?_
    refine l_bipush (v := 13) 312 X dL_law_310 rfl (by decide) ?_
    refine l_icmp_ge 377 315 X dL_law_312 rfl rfl (fun _ => out g' _ hRC' hS') (fun w => ?_)
    rw [show (13 : Int32) = nI 13 from rfl, nI_leI (by omega) (by omega)] at w
    refine l_iload 317 X 8 dL_law_315 rfl rfl ?_
    refine l_sipush (v := 448) 320 X dL_law_317 rfl (by decide) ?_
    refine l_iand 321 X dL_law_320 rfl ?_
    refine l_if_ne 377 324 X dL_law_321 rfl rfl (fun _ => out g' _ hRC' hS') (fun _ => ?_)
    refine l_aload_n 325 X 11 dL_law_324 rfl rfl ?_
    refine l_bipush (v := 9) 327 X dL_law_325 rfl (by decide) ?_
    refine l_V (As := [.int 9]) 330 X (c_X4_count l (wA G ac) (aof (wC G ac gZ)) 9 g' _ (R_c9 hRC'.1 hK'.1 hRC'.2.2.1 hRC'.2.2.2.2.2.1)) (cwV 1 X.1.2.2.2.2 gL_law_X4_count rfl rfl rfl hd_X4_count ⟨Nat.le_of_ble_eq_true rfl, Nat.le_of_ble_eq_true rfl⟩) rfl rfl (Nat.le_of_ble_eq_true rfl) dL_law_327 rfl ?_
    refine l_iload 332 X 3 dL_law_330 rfl rfl ?_
    have und : (∃ ρ, (τ', hn', hist', kf', sn', tn', txt', rf') = acted ρ (τ, hn, hist, kf, sn, tn, txt, rf)) → JL p l e s m b below meth c G ac 351 [(13, .int (nI (if hn = 4 then 3 else hn))), (12, .int 1), (10, .long d), (9, .int (nI hn)), (8, .int (nI sl)), (7, .int (nI a)), (6, .int (nI q)), (5, .int (nI k)), (4, .int hs), (3, .int gs), (2, .int (nI i)), (1, .ref (ac 0)), (0, .ref b)] [] g' := by
      rintro ⟨ρ, hρ⟩
      unfold acted at hρ
      obtain ⟨rfl, rfl, rfl, rfl, rfl, rfl, rfl, rfl⟩ := by simpa only [Prod.mk.injEq] using hρ
      obtain ⟨g2, e2, r2, v2⟩ := A_undo hRC' hS' (by omega)
      refine l_aload_n 352 X 11 dL_law_351 rfl rfl ?_
      refine l_V (As := []) 355 X (c_X4_undo l (wA G ac) (aof (wC G ac gZ)) g' _ e2) (cwV 0 X.1.2.2.2.2 gL_law_X4_undo rfl rfl rfl hd_X4_undo ⟨Nat.le_of_ble_eq_true rfl, Nat.le_of_ble_eq_true rfl⟩) rfl rfl (Nat.le_of_ble_eq_true rfl) dL_law_352 rfl ?_
      refine l_iload 357 X 0 dL_law_355 rfl rfl ?_
      refine l_icmp_ne 374 360 X dL_law_357 rfl rfl (fun w => absurd (congrArg nI (by split <;> omega)) w) (fun _ => ?_)
      refine l_aload_n 361 X 11 dL_law_360 rfl rfl ?_
      refine l_L (As := [.ref (ac 0)]) 364 X (c_L_digest l (wA G ac) (aof (wC G ac gZ)) g2 _ (hd g2 (RC_DG r2))) (va_cwS 1 X.1.2.2.2.2 gL_law_L_digest rfl rfl rfl hd_L_digest ⟨Nat.le_of_ble_eq_true rfl, Nat.le_of_ble_eq_true rfl⟩) rfl rfl (Nat.le_of_ble_eq_true rfl) dL_law_361 rfl ?_
      refine l_lload 366 X 2 dL_law_364 rfl rfl ?_
      refine l_lcmp 367 X dL_law_366 rfl ?_
      rw [lg_cmp_rf]
      refine l_if_ne 374 370 X dL_law_367 rfl rfl (fun w => absurd rfl w) (fun _ => ?_)
      refine l_iconst (v := 1) 371 X dL_law_370 rfl (by decide) ?_
      refine l_goto 375 X dL_law_371 rfl ?_
      refine l_istore 377 X [(12, .int 1), (13, .int (nI (if hn = 4 then 3 else hn))), (10, .long d), (9, .int (nI hn)), (8, .int (nI sl)), (7, .int (nI a)), (6, .int (nI q)), (5, .int (nI k)), (4, .int hs), (3, .int gs), (2, .int (nI i)), (1, .ref (ac 0)), (0, .ref b)] dL_law_375 rfl rfl (by decide) rfl ?_
      exact l_sub [(12, .int 1), (2, .int (nI i)), (1, .ref (ac 0)), (0, .ref b)] [0, 10, 11, 12] rfl (kk g2 _ r2 v2)
    rcases h1 (by omega) with h1 | h1
    · obtain ⟨rfl, rfl, rfl, rfl, rfl, rfl, rfl, rfl⟩ := by simpa only [Prod.mk.injEq] using h1
      refine l_icmp_ne 351 335 X dL_law_332 rfl rfl (fun w => absurd rfl w) (fun _ => ?_)
      refine l_iload 337 X 3 dL_law_335 rfl rfl ?_
      refine l_iconst (v := 4) 338 X dL_law_337 rfl (by decide) ?_
      refine l_icmp_ne 377 341 X dL_law_338 rfl rfl (fun _ => out g' _ hRC' hS') (fun _ => ?_)
      refine l_aload_n 342 X 11 dL_law_341 rfl rfl ?_
      refine l_L (As := [.ref (ac 0)]) 345 X (c_L_digest l (wA G ac) (aof (wC G ac gZ)) g' _ (hd g' (RC_DG hRC'))) (va_cwS 1 X.1.2.2.2.2 gL_law_L_digest rfl rfl rfl hd_L_digest ⟨Nat.le_of_ble_eq_true rfl, Nat.le_of_ble_eq_true rfl⟩) rfl rfl (Nat.le_of_ble_eq_true rfl) dL_law_342 rfl ?_
      refine l_lload 347 X 2 dL_law_345 rfl rfl ?_
      refine l_lcmp 348 X dL_law_347 rfl ?_
      refine l_if_eq 377 351 X dL_law_348 rfl rfl (fun _ => out g' _ hRC' hS') (fun w => absurd (lg_cmp_rf d) w)
    · obtain ⟨dd, hdd⟩ := L_digest_of hK'.1
      refine l_icmp_ne 351 335 X dL_law_332 rfl rfl (fun _ => und h1) (fun _ => ?_)
      refine l_iload 337 X 3 dL_law_335 rfl rfl ?_
      refine l_iconst (v := 4) 338 X dL_law_337 rfl (by decide) ?_
      refine l_icmp_ne 377 341 X dL_law_338 rfl rfl (fun _ => out g' _ hRC' hS') (fun _ => ?_)
      refine l_aload_n 342 X 11 dL_law_341 rfl rfl ?_
      refine l_L (As := [.ref (ac 0)]) 345 X (c_L_digest l (wA G ac) (aof (wC G ac gZ)) g' _ (hdd g' (RC_DG hRC'))) (va_cwS 1 X.1.2.2.2.2 gL_law_L_digest rfl rfl rfl hd_L_digest ⟨Nat.le_of_ble_eq_true rfl, Nat.le_of_ble_eq_true rfl⟩) rfl rfl (Nat.le_of_ble_eq_true rfl) dL_law_342 rfl ?_
      refine l_lload 347 X 2 dL_law_345 rfl rfl ?_
      refine l_lcmp 348 X dL_law_347 rfl ?_
      refine l_if_eq 377 351 X dL_law_348 rfl rfl (fun _ => out g' _ hRC' hS') (fun w => und h1)
  refine l_icmp_ne 299 295 X dL_law_292 rfl rfl (fun w => ?_) (fun w => ?_)
  · rw [z4, nI_eq (by omega) (by omega)] at w
    refine l_iload 301 X 2 dL_law_299 rfl (by rfl) ?_
    rw [if_neg w] at k4
    exact k4
  · rw [z4, nI_eq (by omega) (by omega)] at w
    refine l_iconst (v := 3) 296 X dL_law_295 rfl (by decide) ?_
    refine l_goto 301 X dL_law_296 rfl ?_
    rw [if_pos w] at k4
    exact k4
theorem law_loop (X : LX p s m c b L xs G ac) (hr : meth.sig.returnType = ret) (hlocks : meth.locks = false) : ∀ (n i : Nat), i + n = 32 → ∀ (g : Mem) (S : St), RC g S → SV S → JL p l e s m b below meth c G ac 81 (L0 b (ac 0) i) [] g := by
  intro n
  induction n with
  | zero =>
    intro i hi g S hRC hS
    obtain rfl : i = 32 := by omega
    refine l_iload_n 82 X 0 dL_law_81 rfl rfl ?_
    refine l_bipush (v := 32) 84 X dL_law_82 rfl (by decide) ?_
    refine l_icmp_ge 404 87 X dL_law_84 rfl rfl (fun _ => ?_) (fun w => absurd (show (32 : Int32) ≤ nI 32 by decide) w)
    refine l_iconst (v := 1) 405 X dL_law_404 rfl (by decide) ?_
    exact l_ret X hr hlocks dL_law_405
  | succ n ih =>
    intro i hi g S hRC hS
    obtain ⟨τ, hn, hist, kf, sn, tn, txt, rf⟩ := S
    refine l_iload_n 82 X 0 dL_law_81 rfl rfl ?_
    refine l_bipush (v := 32) 84 X dL_law_82 rfl (by decide) ?_
    refine l_icmp_ge 404 87 X dL_law_84 rfl rfl (fun w => absurd w (by rw [show (32 : Int32) = nI 32 from rfl]; exact nI_ge (by omega) (by omega))) (fun _ => ?_)
    refine law_1 X hRC hS.1.1 (by omega) (fun gs hs k q a sl d hk hq ha h1 h2 hd => ?_)
    refine law_2 X hRC hS hk hq ha h1 h2 (fun g' S' r' v' hA => ?_)
    obtain ⟨τ', hn', hist', kf', sn', tn', txt', rf'⟩ := S'
    refine law_3 X hS r' v' hk hd hA (fun g2 S2 r2 v2 => ?_)
    obtain ⟨τ2, hn2, hist2, kf2, sn2, tn2, txt2, rf2⟩ := S2
    exact law_4 X r2 v2 rfl (ih (i + 1) (by omega) g2 _ r2 v2)
end LOOP
