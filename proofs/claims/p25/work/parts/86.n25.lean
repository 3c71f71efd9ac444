/-! names of the law -/
set_option maxRecDepth 20000 in
theorem gq_slots_wsL_slots_r2 : GoodIn wsL_law wsL_slots_r2 := goodIn_r _ [41, 386, 387, 388, 389, 346, 347, 348, 349, 350, 351, 353, 255, 256, 354, 355, 356, 357, 264, 265, 266, 267, 358, 273] (by decide +kernel) (by decide +kernel)
set_option maxRecDepth 20000 in
theorem gq_slots_wsL_slots_r3 : GoodIn wsL_law wsL_slots_r3 := goodIn_r _ [274, 275, 359, 277, 278, 279, 280, 281, 282, 283, 284, 285, 286, 287, 288, 289, 290, 30, 80, 360, 456, 457, 368, 458] (by decide +kernel) (by decide +kernel)
set_option maxRecDepth 20000 in
theorem gq_slots_wsL_slots_r4 : GoodIn wsL_law wsL_slots_r4 := goodIn_r _ [404, 405, 406, 407, 408, 409, 401, 235, 236, 410, 229, 230, 396, 397, 398, 399, 400, 402, 237, 238, 403, 248, 249, 250] (by decide +kernel) (by decide +kernel)
set_option maxRecDepth 20000 in
theorem gq_slots_wsL_slots_r5 : GoodIn wsL_law wsL_slots_r5 := goodIn_r _ [33] (by decide +kernel) (by decide +kernel)
set_option maxRecDepth 20000 in
theorem gq_slots_wsX40 : GoodIn wsL_law wsX40 := goodIn_r _ [495, 496, 497, 498, 499, 500, 501, 502, 503, 504] (by decide +kernel) (by decide +kernel)
set_option maxRecDepth 20000 in
theorem gq_slots_wsX20 : GoodIn wsL_law wsX20 := goodIn_r _ [505, 506, 507, 508, 509, 510, 511, 512, 513, 514, 515, 516, 517, 518, 519, 520] (by decide +kernel) (by decide +kernel)
set_option maxRecDepth 20000 in
theorem gq_slots_wsX00 : GoodIn wsL_law wsX00 := goodIn_r _ [521, 522, 523] (by decide +kernel) (by decide +kernel)
set_option maxRecDepth 20000 in
theorem gq_slots_wsX30 : GoodIn wsL_law wsX30 := goodIn_r _ [524, 525] (by decide +kernel) (by decide +kernel)
set_option maxRecDepth 20000 in
theorem ggL_law_L_slots : GoodIn wsL_law wsL_slots := List.forall_mem_cons.mpr ⟨⟨(show Cond.code yL_slots cL_slots 14 (some .boolean) ∈ wsL_law from (List.mem_append_left _ (List.mem_append_left _ (List.mem_append_left _ (List.mem_append_left _ (List.mem_append_left _ (List.mem_append_left _ (List.mem_append_right _ (List.mem_append_right _ (List.mem_append_right _ (List.mem_append_right _ (List.mem_append_right _ (List.mem_append_right _ (List.mem_append_right _ (List.mem_append_right _ (List.mem_append_right _ (List.mem_append_right _ (List.mem_append_right _ (List.mem_append_right _ (List.mem_append_right _ (List.mem_append_right _ (List.mem_append_right _ (List.mem_append_right _ (List.mem_append_right _ (List.mem_append_right _ (List.mem_append_right _ (List.mem_append_right _ (List.mem_of_getElem? (i := 11) rfl)))))))))))))))))))))))))))), Or.inl rfl⟩, (goodIn_app (goodIn_app (goodIn_app (goodIn_app (goodIn_app (gq_slots_wsL_slots_r1) (goodIn_app (gq_slots_wsL_slots_r2) (goodIn_app (gq_slots_wsL_slots_r3) (goodIn_app (gq_slots_wsL_slots_r4) (gq_slots_wsL_slots_r5))))) (gq_slots_wsX40)) (gq_slots_wsX20)) (gq_slots_wsX00)) (gq_slots_wsX30))⟩
