/-! names of the law -/
set_option maxRecDepth 20000 in
theorem gq_others_wsX30 : GoodIn wsL_law wsX30 := goodIn_r _ [524, 525] (by decide +kernel) (by decide +kernel)
set_option maxRecDepth 20000 in
theorem ggL_law_L_others : GoodIn wsL_law wsL_others := List.forall_mem_cons.mpr ⟨⟨(show Cond.code yL_others cL_others 11 (some .boolean) ∈ wsL_law from (List.mem_append_left _ (List.mem_append_left _ (List.mem_append_left _ (List.mem_append_left _ (List.mem_append_left _ (List.mem_append_left _ (List.mem_append_right _ (List.mem_append_right _ (List.mem_append_right _ (List.mem_append_right _ (List.mem_append_right _ (List.mem_append_right _ (List.mem_append_right _ (List.mem_append_right _ (List.mem_append_right _ (List.mem_append_right _ (List.mem_append_right _ (List.mem_append_right _ (List.mem_append_right _ (List.mem_append_right _ (List.mem_append_right _ (List.mem_append_right _ (List.mem_append_right _ (List.mem_append_right _ (List.mem_append_left _ (List.mem_of_getElem? (i := 18) rfl))))))))))))))))))))))))))), Or.inl rfl⟩, (goodIn_app (goodIn_app (goodIn_app (goodIn_app (goodIn_app (gq_others_wsL_others_r1) (goodIn_app (gq_others_wsL_others_r2) (goodIn_app (gq_others_wsL_others_r3) (goodIn_app (gq_others_wsL_others_r4) (goodIn_app (gq_others_wsL_others_r5) (goodIn_app (gq_others_wsL_others_r6) (gq_others_wsL_others_r7))))))) (gq_others_wsX40)) (gq_others_wsX20)) (gq_others_wsX00)) (gq_others_wsX30))⟩
set_option maxRecDepth 20000 in
theorem gL_law_L_others : GoodIn wsL_law (va_wsS RL 102 yL_others wsL_others) := goodIn_app (goodIn_of _ (by decide +kernel)) ggL_law_L_others
set_option maxRecDepth 20000 in
theorem gq_performs_wsL_performs_r1 : GoodIn wsL_law wsL_performs_r1 := goodIn_r _ [473, 474, 475, 2, 476, 21, 477, 478, 479, 20, 480, 132, 481, 482, 483, 484, 485, 486, 487, 488, 53, 411, 412, 413] (by decide +kernel) (by decide +kernel)
set_option maxRecDepth 20000 in
theorem gq_performs_wsL_performs_r2 : GoodIn wsL_law wsL_performs_r2 := goodIn_r _ [414, 12, 415, 416, 417, 418, 220, 221, 419, 420, 421, 11, 422, 38, 229, 230, 396, 397, 398, 399, 380, 400, 401, 235] (by decide +kernel) (by decide +kernel)
set_option maxRecDepth 20000 in
theorem gq_performs_wsL_performs_r3 : GoodIn wsL_law wsL_performs_r3 := goodIn_r _ [236, 402, 237, 238, 403, 248, 249, 250, 33, 375, 376, 377, 378, 352, 379, 381, 81, 82, 83, 382, 383, 17, 384, 385] (by decide +kernel) (by decide +kernel)
set_option maxRecDepth 20000 in
theorem gq_performs_wsL_performs_r4 : GoodIn wsL_law wsL_performs_r4 := goodIn_r _ [98, 99, 100, 101, 41, 386, 387, 388, 389, 111, 112, 113, 114, 25, 115, 116, 117, 118, 24, 119, 120, 121, 122, 123] (by decide +kernel) (by decide +kernel)
set_option maxRecDepth 20000 in
theorem gq_performs_wsL_performs_r5 : GoodIn wsL_law wsL_performs_r5 := goodIn_r _ [124, 125, 126, 57, 58, 127, 128, 129, 130, 131, 133, 134, 135, 136, 137, 138, 139, 140, 141, 142, 143, 144, 145, 146] (by decide +kernel) (by decide +kernel)
set_option maxRecDepth 20000 in
theorem gq_performs_wsL_performs_r6 : GoodIn wsL_law wsL_performs_r6 := goodIn_r _ [147, 148, 149, 150, 151, 152, 153, 154, 155, 156, 157, 158, 159, 160, 161, 162, 163, 164, 165, 166, 167, 168, 169, 170] (by decide +kernel) (by decide +kernel)
