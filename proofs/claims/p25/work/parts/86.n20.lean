/-! names of the law -/
set_option maxRecDepth 20000 in
theorem gq_ballots_wsL_ballots_r8 : GoodIn wsL_law wsL_ballots_r8 := goodIn_r _ [270, 271, 276, 277, 278, 279, 280, 281, 282, 283, 284, 285, 286, 287, 288, 289, 290, 438, 439, 440, 441, 442, 252, 253] (by decide +kernel) (by decide +kernel)
set_option maxRecDepth 20000 in
theorem gq_ballots_wsL_ballots_r9 : GoodIn wsL_law wsL_ballots_r9 := goodIn_r _ [254, 257, 258, 259, 260, 261, 262, 263, 268, 291, 346, 347, 348, 349, 350, 351, 358, 359, 360, 404, 405, 406, 407, 408] (by decide +kernel) (by decide +kernel)
set_option maxRecDepth 20000 in
theorem gq_ballots_wsL_ballots_r10 : GoodIn wsL_law wsL_ballots_r10 := goodIn_r _ [409, 443, 444, 445, 446, 447, 296, 297, 298, 299, 300, 301, 302, 303, 304, 305, 306] (by decide +kernel) (by decide +kernel)
set_option maxRecDepth 20000 in
theorem gq_ballots_wsX40 : GoodIn wsL_law wsX40 := goodIn_r _ [495, 496, 497, 498, 499, 500, 501, 502, 503, 504] (by decide +kernel) (by decide +kernel)
set_option maxRecDepth 20000 in
theorem gq_ballots_wsX20 : GoodIn wsL_law wsX20 := goodIn_r _ [505, 506, 507, 508, 509, 510, 511, 512, 513, 514, 515, 516, 517, 518, 519, 520] (by decide +kernel) (by decide +kernel)
set_option maxRecDepth 20000 in
theorem gq_ballots_wsX00 : GoodIn wsL_law wsX00 := goodIn_r _ [521, 522, 523] (by decide +kernel) (by decide +kernel)
set_option maxRecDepth 20000 in
theorem gq_ballots_wsX30 : GoodIn wsL_law wsX30 := goodIn_r _ [524, 525] (by decide +kernel) (by decide +kernel)
set_option maxRecDepth 20000 in
theorem ggL_law_L_ballots : GoodIn wsL_law wsL_ballots := List.forall_mem_cons.mpr ⟨⟨(show Cond.code yL_ballots cL_ballots 19 (some .boolean) ∈ wsL_law from (List.mem_append_left _ (List.mem_append_left _ (List.mem_append_left _ (List.mem_append_left _ (List.mem_append_left _ (List.mem_append_left _ (List.mem_append_right _ (List.mem_append_right _ (List.mem_append_right _ (List.mem_append_right _ (List.mem_append_right _ (List.mem_append_right _ (List.mem_append_right _ (List.mem_append_right _ (List.mem_append_right _ (List.mem_append_right _ (List.mem_append_right _ (List.mem_append_right _ (List.mem_append_right _ (List.mem_append_right _ (List.mem_append_right _ (List.mem_append_right _ (List.mem_append_right _ (List.mem_append_right _ (List.mem_append_left _ (List.mem_of_getElem? (i := 0) rfl))))))))))))))))))))))))))), Or.inl rfl⟩, (goodIn_app (goodIn_app (goodIn_app (goodIn_app (goodIn_app (gq_ballots_wsL_ballots_r1) (goodIn_app (gq_ballots_wsL_ballots_r2) (goodIn_app (gq_ballots_wsL_ballots_r3) (goodIn_app (gq_ballots_wsL_ballots_r4) (goodIn_app (gq_ballots_wsL_ballots_r5) (goodIn_app (gq_ballots_wsL_ballots_r6) (goodIn_app (gq_ballots_wsL_ballots_r7) (goodIn_app (gq_ballots_wsL_ballots_r8) (goodIn_app (gq_ballots_wsL_ballots_r9) (gq_ballots_wsL_ballots_r10)))))))))) (gq_ballots_wsX40)) (gq_ballots_wsX20)) (gq_ballots_wsX00)) (gq_ballots_wsX30))⟩
