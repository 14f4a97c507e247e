set_option maxRecDepth 20000 in
theorem gm_areAccounts : Cond.code yL_areAccounts cL_areAccounts 16 (some .boolean) ∈ wsL_law_r19 := by
  unfold wsL_law_r19
  apply List.Mem.tail
  apply List.Mem.tail
  apply List.Mem.tail
  apply List.Mem.tail
  apply List.Mem.tail
  apply List.Mem.tail
  exact List.Mem.head _
theorem gp_areAccounts_c : GoodIn wsL_law [.code yL_areAccounts cL_areAccounts 16 (some .boolean)] := goodIn_sub (fun w hw => by
  rw [List.mem_singleton.mp hw]
  exact List.mem_append_left _ (List.mem_append_left _ (List.mem_append_left _ (List.mem_append_left _ (List.mem_append_left _ (List.mem_append_left _ (List.mem_append_left _ (List.mem_append_left _ (List.mem_append_right _ (List.mem_append_right _ (List.mem_append_right _ (List.mem_append_right _ (List.mem_append_right _ (List.mem_append_right _ (List.mem_append_right _ (List.mem_append_right _ (List.mem_append_right _ (List.mem_append_right _ (List.mem_append_right _ (List.mem_append_right _ (List.mem_append_right _ (List.mem_append_right _ (List.mem_append_right _ (List.mem_append_right _ (List.mem_append_right _ (List.mem_append_right _ (List.mem_append_left _ (gm_areAccounts)))))))))))))))))))))))))))) rfl
set_option maxRecDepth 20000 in
theorem gp_areAccounts_wsL_areAccounts_r1 : GoodIn wsL_law wsL_areAccounts_r1 := goodIn_r _ [439, 440, 441, 2, 442, 14, 443, 266, 158, 267, 268, 167, 168, 169, 170, 171, 444, 445, 446, 40, 447, 48, 172, 173] (by decide +kernel) (by decide +kernel)
set_option maxRecDepth 20000 in
theorem gp_areAccounts_wsL_areAccounts_r2 : GoodIn wsL_law wsL_areAccounts_r2 := goodIn_r _ [174, 175, 136, 47, 176, 127, 124, 128, 448, 449, 450, 451, 49, 452, 453, 454, 13, 455, 119, 204, 205, 206, 207, 37] (by decide +kernel) (by decide +kernel)
set_option maxRecDepth 20000 in
theorem gp_areAccounts_wsL_areAccounts_r3 : GoodIn wsL_law wsL_areAccounts_r3 := goodIn_r _ [456, 346, 347, 232, 183, 184, 457, 458, 459, 460, 461, 142, 143, 144, 462, 463, 464, 465, 248, 98, 99, 77, 100, 369] (by decide +kernel) (by decide +kernel)
set_option maxRecDepth 20000 in
theorem gp_areAccounts_wsL_areAccounts_r4 : GoodIn wsL_law wsL_areAccounts_r4 := goodIn_r _ [370, 371, 372, 28, 24, 20, 373, 374, 375, 376, 310, 311, 312, 313, 120, 233, 230, 231, 314, 315, 316, 27, 317, 318] (by decide +kernel) (by decide +kernel)
set_option maxRecDepth 20000 in
theorem gp_areAccounts_wsL_areAccounts_r5 : GoodIn wsL_law wsL_areAccounts_r5 := goodIn_r _ [66, 319, 130, 131, 320, 321, 322, 323, 324, 325, 326, 327, 328, 329, 330, 146, 147, 377, 378, 379, 380, 381, 382, 383] (by decide +kernel) (by decide +kernel)
set_option maxRecDepth 20000 in
theorem gp_areAccounts_wsL_areAccounts_r6 : GoodIn wsL_law wsL_areAccounts_r6 := goodIn_r _ [384, 385, 386, 333, 334, 335, 387, 285, 286, 287, 388, 389, 390, 391, 392, 393, 394, 395, 396, 397, 398, 399, 400, 401] (by decide +kernel) (by decide +kernel)
set_option maxRecDepth 20000 in
theorem gp_areAccounts_wsL_areAccounts_r7 : GoodIn wsL_law wsL_areAccounts_r7 := goodIn_r _ [402, 403, 404, 405, 343, 344, 345, 406, 407, 408, 409] (by decide +kernel) (by decide +kernel)
set_option maxRecDepth 20000 in
theorem gp_areAccounts_wsX80 : GoodIn wsL_law wsX80 := goodIn_r _ [466, 467, 468, 469, 470, 471, 472, 473, 474, 475, 476] (by decide +kernel) (by decide +kernel)
set_option maxRecDepth 20000 in
theorem gp_areAccounts_wsX60 : GoodIn wsL_law wsX60 := goodIn_r _ [477, 478, 479, 480, 481, 482] (by decide +kernel) (by decide +kernel)
set_option maxRecDepth 20000 in
theorem gp_areAccounts_wsX00 : GoodIn wsL_law wsX00 := goodIn_r _ [505, 506, 507, 508] (by decide +kernel) (by decide +kernel)
set_option maxRecDepth 20000 in
theorem gp_areAccounts_wsX40 : GoodIn wsL_law wsX40 := goodIn_r _ [486, 487, 488, 489, 490, 491, 492, 493, 494] (by decide +kernel) (by decide +kernel)
set_option maxRecDepth 20000 in
theorem gp_areAccounts_wsX30 : GoodIn wsL_law wsX30 := goodIn_r _ [483, 484, 485] (by decide +kernel) (by decide +kernel)
set_option maxRecDepth 20000 in
theorem gp_areAccounts_wsX20 : GoodIn wsL_law wsX20 := goodIn_r _ [495, 496] (by decide +kernel) (by decide +kernel)
theorem ggL_law_L_areAccounts : GoodIn wsL_law wsL_areAccounts := goodIn_app gp_areAccounts_c (goodIn_app (goodIn_app (goodIn_app (goodIn_app (goodIn_app (goodIn_app (goodIn_app gp_areAccounts_wsL_areAccounts_r1 (goodIn_app gp_areAccounts_wsL_areAccounts_r2 (goodIn_app gp_areAccounts_wsL_areAccounts_r3 (goodIn_app gp_areAccounts_wsL_areAccounts_r4 (goodIn_app gp_areAccounts_wsL_areAccounts_r5 (goodIn_app gp_areAccounts_wsL_areAccounts_r6 gp_areAccounts_wsL_areAccounts_r7)))))) gp_areAccounts_wsX80) gp_areAccounts_wsX60) gp_areAccounts_wsX00) gp_areAccounts_wsX40) gp_areAccounts_wsX30) gp_areAccounts_wsX20)
set_option maxRecDepth 20000 in
theorem gL_law_L_areAccounts : GoodIn wsL_law (va_wsS RL 130 yL_areAccounts wsL_areAccounts) := goodIn_app (goodIn_of _ (by decide +kernel)) ggL_law_L_areAccounts
