set_option maxRecDepth 20000 in
theorem gm_areSteps : Cond.code yL_areSteps cL_areSteps 17 (some .boolean) ∈ wsL_law_r13 := by
  unfold wsL_law_r13
  apply List.Mem.tail
  apply List.Mem.tail
  apply List.Mem.tail
  apply List.Mem.tail
  apply List.Mem.tail
  apply List.Mem.tail
  apply List.Mem.tail
  apply List.Mem.tail
  apply List.Mem.tail
  apply List.Mem.tail
  apply List.Mem.tail
  exact List.Mem.head _
theorem gp_areSteps_c : GoodIn wsL_law [.code yL_areSteps cL_areSteps 17 (some .boolean)] := goodIn_sub (fun w hw => by
  rw [List.mem_singleton.mp hw]
  exact List.mem_append_left _ (List.mem_append_left _ (List.mem_append_left _ (List.mem_append_left _ (List.mem_append_left _ (List.mem_append_left _ (List.mem_append_left _ (List.mem_append_left _ (List.mem_append_right _ (List.mem_append_right _ (List.mem_append_right _ (List.mem_append_right _ (List.mem_append_right _ (List.mem_append_right _ (List.mem_append_right _ (List.mem_append_right _ (List.mem_append_right _ (List.mem_append_right _ (List.mem_append_right _ (List.mem_append_right _ (List.mem_append_left _ (gm_areSteps)))))))))))))))))))))) rfl
set_option maxRecDepth 20000 in
theorem gp_areSteps_wsL_areSteps_r1 : GoodIn wsL_law wsL_areSteps_r1 := goodIn_r _ [300, 301, 302, 2, 303, 14, 28, 304, 201, 202, 13, 203, 119, 305, 205, 206, 207, 37, 306, 307, 308, 309, 310, 311] (by decide +kernel) (by decide +kernel)
set_option maxRecDepth 20000 in
theorem gp_areSteps_wsL_areSteps_r2 : GoodIn wsL_law wsL_areSteps_r2 := goodIn_r _ [312, 313, 120, 204, 233, 230, 158, 231, 248, 170, 171, 314, 315, 316, 27, 317, 318, 66, 319, 130, 124, 131, 320, 321] (by decide +kernel) (by decide +kernel)
set_option maxRecDepth 20000 in
theorem gp_areSteps_wsL_areSteps_r3 : GoodIn wsL_law wsL_areSteps_r3 := goodIn_r _ [322, 323, 324, 325, 127, 128, 326, 327, 328, 329, 330, 146, 143, 147, 331, 332, 333, 334, 335, 336, 337, 338, 268, 167] (by decide +kernel) (by decide +kernel)
set_option maxRecDepth 20000 in
theorem gp_areSteps_wsL_areSteps_r4 : GoodIn wsL_law wsL_areSteps_r4 := goodIn_r _ [168, 169, 232, 183, 184, 339, 340, 341, 342, 343, 344, 345, 346, 347, 348, 349, 350, 351, 352, 353, 354, 355, 356, 357] (by decide +kernel) (by decide +kernel)
set_option maxRecDepth 20000 in
theorem gp_areSteps_wsL_areSteps_r5 : GoodIn wsL_law wsL_areSteps_r5 := goodIn_r _ [358, 359, 360, 361, 362, 42, 363, 364, 77, 365, 366, 367, 368, 215, 216, 217, 369, 370, 371, 372, 24, 20, 373, 374] (by decide +kernel) (by decide +kernel)
set_option maxRecDepth 20000 in
theorem gp_areSteps_wsL_areSteps_r6 : GoodIn wsL_law wsL_areSteps_r6 := goodIn_r _ [375, 376, 377, 378, 379, 380, 381, 382, 383, 384, 385, 142, 144, 386, 387, 285, 286, 287, 388, 389, 390, 40, 391, 136] (by decide +kernel) (by decide +kernel)
set_option maxRecDepth 20000 in
theorem gp_areSteps_wsL_areSteps_r7 : GoodIn wsL_law wsL_areSteps_r7 := goodIn_r _ [48, 176, 392, 393, 394, 395, 396, 397, 398, 399, 400, 401, 402, 403, 404, 405, 406, 407, 408, 409, 410, 411, 412, 413] (by decide +kernel) (by decide +kernel)
set_option maxRecDepth 20000 in
theorem gp_areSteps_wsL_areSteps_r8 : GoodIn wsL_law wsL_areSteps_r8 := goodIn_r _ [272, 273, 274, 414, 415, 416, 417] (by decide +kernel) (by decide +kernel)
set_option maxRecDepth 20000 in
theorem gp_areSteps_wsX80 : GoodIn wsL_law wsX80 := goodIn_r _ [466, 467, 468, 469, 470, 471, 472, 473, 474, 475, 476] (by decide +kernel) (by decide +kernel)
set_option maxRecDepth 20000 in
theorem gp_areSteps_wsX60 : GoodIn wsL_law wsX60 := goodIn_r _ [477, 478, 479, 480, 481, 482] (by decide +kernel) (by decide +kernel)
set_option maxRecDepth 20000 in
theorem gp_areSteps_wsX20 : GoodIn wsL_law wsX20 := goodIn_r _ [495, 496] (by decide +kernel) (by decide +kernel)
set_option maxRecDepth 20000 in
theorem gp_areSteps_wsX40 : GoodIn wsL_law wsX40 := goodIn_r _ [486, 487, 488, 489, 490, 491, 492, 493, 494] (by decide +kernel) (by decide +kernel)
set_option maxRecDepth 20000 in
theorem gp_areSteps_wsX30 : GoodIn wsL_law wsX30 := goodIn_r _ [483, 484, 485] (by decide +kernel) (by decide +kernel)
set_option maxRecDepth 20000 in
theorem gp_areSteps_wsX00 : GoodIn wsL_law wsX00 := goodIn_r _ [505, 506, 507, 508] (by decide +kernel) (by decide +kernel)
theorem ggL_law_L_areSteps : GoodIn wsL_law wsL_areSteps := goodIn_app gp_areSteps_c (goodIn_app (goodIn_app (goodIn_app (goodIn_app (goodIn_app (goodIn_app (goodIn_app gp_areSteps_wsL_areSteps_r1 (goodIn_app gp_areSteps_wsL_areSteps_r2 (goodIn_app gp_areSteps_wsL_areSteps_r3 (goodIn_app gp_areSteps_wsL_areSteps_r4 (goodIn_app gp_areSteps_wsL_areSteps_r5 (goodIn_app gp_areSteps_wsL_areSteps_r6 (goodIn_app gp_areSteps_wsL_areSteps_r7 gp_areSteps_wsL_areSteps_r8))))))) gp_areSteps_wsX80) gp_areSteps_wsX60) gp_areSteps_wsX20) gp_areSteps_wsX40) gp_areSteps_wsX30) gp_areSteps_wsX00)
set_option maxRecDepth 20000 in
theorem gL_law_L_areSteps : GoodIn wsL_law (va_wsS RL 122 yL_areSteps wsL_areSteps) := goodIn_app (goodIn_of _ (by decide +kernel)) ggL_law_L_areSteps
