set_option maxRecDepth 20000 in
theorem gm_areFactors : Cond.code yL_areFactors cL_areFactors 12 (some .boolean) ∈ wsL_law_r18 := by
  unfold wsL_law_r18
  apply List.Mem.tail
  apply List.Mem.tail
  apply List.Mem.tail
  apply List.Mem.tail
  apply List.Mem.tail
  apply List.Mem.tail
  apply List.Mem.tail
  apply List.Mem.tail
  apply List.Mem.tail
  apply List.Mem.tail
  apply List.Mem.tail
  apply List.Mem.tail
  exact List.Mem.head _
theorem gp_areFactors_c : GoodIn wsL_law [.code yL_areFactors cL_areFactors 12 (some .boolean)] := goodIn_sub (fun w hw => by
  rw [List.mem_singleton.mp hw]
  exact List.mem_append_left _ (List.mem_append_left _ (List.mem_append_left _ (List.mem_append_left _ (List.mem_append_left _ (List.mem_append_left _ (List.mem_append_left _ (List.mem_append_left _ (List.mem_append_right _ (List.mem_append_right _ (List.mem_append_right _ (List.mem_append_right _ (List.mem_append_right _ (List.mem_append_right _ (List.mem_append_right _ (List.mem_append_right _ (List.mem_append_right _ (List.mem_append_right _ (List.mem_append_right _ (List.mem_append_right _ (List.mem_append_right _ (List.mem_append_right _ (List.mem_append_right _ (List.mem_append_right _ (List.mem_append_right _ (List.mem_append_left _ (gm_areFactors))))))))))))))))))))))))))) rfl
set_option maxRecDepth 20000 in
theorem gp_areFactors_wsL_areFactors_r1 : GoodIn wsL_law wsL_areFactors_r1 := goodIn_r _ [98, 99, 77, 100, 421, 422, 423, 2, 424, 14, 304, 201, 202, 13, 203, 119, 305, 205, 206, 207, 37, 425, 426, 158] (by decide +kernel) (by decide +kernel)
set_option maxRecDepth 20000 in
theorem gp_areFactors_wsL_areFactors_r2 : GoodIn wsL_law wsL_areFactors_r2 := goodIn_r _ [427, 268, 167, 168, 169, 170, 171, 232, 183, 184, 300, 301, 302, 303, 28, 306, 307, 308, 309, 310, 311, 312, 313, 120] (by decide +kernel) (by decide +kernel)
set_option maxRecDepth 20000 in
theorem gp_areFactors_wsL_areFactors_r3 : GoodIn wsL_law wsL_areFactors_r3 := goodIn_r _ [204, 233, 230, 231, 248, 314, 315, 316, 27, 317, 318, 66, 319, 130, 124, 131, 320, 321, 322, 323, 324, 325, 127, 128] (by decide +kernel) (by decide +kernel)
set_option maxRecDepth 20000 in
theorem gp_areFactors_wsL_areFactors_r4 : GoodIn wsL_law wsL_areFactors_r4 := goodIn_r _ [326, 327, 328, 329, 330, 146, 143, 147, 331, 332, 333, 334, 335, 336, 337, 338, 339, 340, 341, 342, 343, 344, 345, 346] (by decide +kernel) (by decide +kernel)
set_option maxRecDepth 20000 in
theorem gp_areFactors_wsL_areFactors_r5 : GoodIn wsL_law wsL_areFactors_r5 := goodIn_r _ [347, 348, 349, 350, 351, 352, 353, 354, 355, 356, 357, 358, 359, 360, 361, 362, 42, 428, 429, 430, 431, 432, 433, 434] (by decide +kernel) (by decide +kernel)
set_option maxRecDepth 20000 in
theorem gp_areFactors_wsL_areFactors_r6 : GoodIn wsL_law wsL_areFactors_r6 := goodIn_r _ [435, 215, 216, 217] (by decide +kernel) (by decide +kernel)
set_option maxRecDepth 20000 in
theorem gp_areFactors_wsX80 : GoodIn wsL_law wsX80 := goodIn_r _ [466, 467, 468, 469, 470, 471, 472, 473, 474, 475, 476] (by decide +kernel) (by decide +kernel)
set_option maxRecDepth 20000 in
theorem gp_areFactors_wsX60 : GoodIn wsL_law wsX60 := goodIn_r _ [477, 478, 479, 480, 481, 482] (by decide +kernel) (by decide +kernel)
set_option maxRecDepth 20000 in
theorem gp_areFactors_wsX20 : GoodIn wsL_law wsX20 := goodIn_r _ [495, 496] (by decide +kernel) (by decide +kernel)
theorem ggL_law_L_areFactors : GoodIn wsL_law wsL_areFactors := goodIn_app gp_areFactors_c (goodIn_app (goodIn_app (goodIn_app (goodIn_app gp_areFactors_wsL_areFactors_r1 (goodIn_app gp_areFactors_wsL_areFactors_r2 (goodIn_app gp_areFactors_wsL_areFactors_r3 (goodIn_app gp_areFactors_wsL_areFactors_r4 (goodIn_app gp_areFactors_wsL_areFactors_r5 gp_areFactors_wsL_areFactors_r6))))) gp_areFactors_wsX80) gp_areFactors_wsX60) gp_areFactors_wsX20)
set_option maxRecDepth 20000 in
theorem gL_law_L_areFactors : GoodIn wsL_law (va_wsS RL 126 yL_areFactors wsL_areFactors) := goodIn_app (goodIn_of _ (by decide +kernel)) ggL_law_L_areFactors
