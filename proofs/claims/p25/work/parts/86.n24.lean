/-! names of the law -/
set_option maxRecDepth 20000 in
theorem gq_performs_wsL_performs_r17 : GoodIn wsL_law wsL_performs_r17 := goodIn_r _ [103, 104, 105] (by decide +kernel) (by decide +kernel)
set_option maxRecDepth 20000 in
theorem gq_performs_wsX40 : GoodIn wsL_law wsX40 := goodIn_r _ [495, 496, 497, 498, 499, 500, 501, 502, 503, 504] (by decide +kernel) (by decide +kernel)
set_option maxRecDepth 20000 in
theorem gq_performs_wsX30 : GoodIn wsL_law wsX30 := goodIn_r _ [524, 525] (by decide +kernel) (by decide +kernel)
set_option maxRecDepth 20000 in
theorem gq_performs_wsX20 : GoodIn wsL_law wsX20 := goodIn_r _ [505, 506, 507, 508, 509, 510, 511, 512, 513, 514, 515, 516, 517, 518, 519, 520] (by decide +kernel) (by decide +kernel)
set_option maxRecDepth 20000 in
theorem gq_performs_wsX00 : GoodIn wsL_law wsX00 := goodIn_r _ [521, 522, 523] (by decide +kernel) (by decide +kernel)
set_option maxRecDepth 20000 in
theorem gq_performs_wsX10 : GoodIn wsL_law wsX10 := goodIn_r _ [526, 527, 528, 529, 530, 531] (by decide +kernel) (by decide +kernel)
set_option maxRecDepth 20000 in
theorem ggL_law_L_performs : GoodIn wsL_law wsL_performs := List.forall_mem_cons.mpr ⟨⟨(show Cond.code yL_performs cL_performs 10 (some .boolean) ∈ wsL_law from (List.mem_append_left _ (List.mem_append_left _ (List.mem_append_left _ (List.mem_append_left _ (List.mem_append_left _ (List.mem_append_left _ (List.mem_append_right _ (List.mem_append_right _ (List.mem_append_right _ (List.mem_append_right _ (List.mem_append_right _ (List.mem_append_right _ (List.mem_append_right _ (List.mem_append_right _ (List.mem_append_right _ (List.mem_append_right _ (List.mem_append_right _ (List.mem_append_right _ (List.mem_append_right _ (List.mem_append_right _ (List.mem_append_right _ (List.mem_append_right _ (List.mem_append_right _ (List.mem_append_right _ (List.mem_append_right _ (List.mem_append_left _ (List.mem_of_getElem? (i := 16) rfl)))))))))))))))))))))))))))), Or.inl rfl⟩, (goodIn_app (goodIn_app (goodIn_app (goodIn_app (goodIn_app (goodIn_app (gq_performs_wsL_performs_r1) (goodIn_app (gq_performs_wsL_performs_r2) (goodIn_app (gq_performs_wsL_performs_r3) (goodIn_app (gq_performs_wsL_performs_r4) (goodIn_app (gq_performs_wsL_performs_r5) (goodIn_app (gq_performs_wsL_performs_r6) (goodIn_app (gq_performs_wsL_performs_r7) (goodIn_app (gq_performs_wsL_performs_r8) (goodIn_app (gq_performs_wsL_performs_r9) (goodIn_app (gq_performs_wsL_performs_r10) (goodIn_app (gq_performs_wsL_performs_r11) (goodIn_app (gq_performs_wsL_performs_r12) (goodIn_app (gq_performs_wsL_performs_r13) (goodIn_app (gq_performs_wsL_performs_r14) (goodIn_app (gq_performs_wsL_performs_r15) (goodIn_app (gq_performs_wsL_performs_r16) (gq_performs_wsL_performs_r17))))))))))))))))) (gq_performs_wsX40)) (gq_performs_wsX30)) (gq_performs_wsX20)) (gq_performs_wsX00)) (gq_performs_wsX10))⟩
set_option maxRecDepth 20000 in
theorem gL_law_L_performs : GoodIn wsL_law (va_wsS RL 105 yL_performs wsL_performs) := goodIn_app (goodIn_of _ (by decide +kernel)) ggL_law_L_performs
set_option maxRecDepth 20000 in
theorem gq_slots_wsL_slots_r1 : GoodIn wsL_law wsL_slots_r1 := goodIn_r _ [375, 376, 377, 2, 378, 12, 352, 379, 380, 381, 81, 82, 83, 382, 383, 17, 384, 21, 385, 98, 99, 100, 11, 101] (by decide +kernel) (by decide +kernel)
