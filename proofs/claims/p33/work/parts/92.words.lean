/-! the law's words stand in the tables (own work), in pieces, by their places -/
theorem wl_ix {l t : List Cond} (ks : List Nat) (h : ks.map (fun k => t[k]?) = l.map some) : ∀ w ∈ l, w ∈ t := by
  intro w hw
  have h1 : some w ∈ l.map some := List.mem_map.mpr ⟨w, hw, rfl⟩
  rw [← h] at h1
  obtain ⟨k, -, e⟩ := List.mem_map.mp h1
  exact List.mem_of_getElem? e
theorem wl_app {a b t : List Cond} (h : ∀ w ∈ a, w ∈ t) (k : ∀ w ∈ b, w ∈ t) : ∀ w ∈ a ++ b, w ∈ t := List.forall_mem_append.mpr ⟨h, k⟩
theorem wl_cons {c : Cond} {b t : List Cond} (h : c ∈ t) (k : ∀ w ∈ b, w ∈ t) : ∀ w ∈ c :: b, w ∈ t := List.forall_mem_cons.mpr ⟨h, k⟩
theorem wl_r1 : ∀ w ∈ wsL_law_r1, w ∈ lw_tbl := wl_ix [19, 20, 9, 52, 575, 21, 22, 23, 24, 25, 26, 27, 28, 10, 165, 166, 167, 78, 79, 12, 168, 98, 99, 13] (by decide +kernel)
theorem wl_r2 : ∀ w ∈ wsL_law_r2, w ∈ lw_tbl := wl_ix [169, 125, 126, 14, 170, 138, 139, 15, 171, 29, 30, 31, 32, 53, 33, 34, 11, 54, 61, 35, 36, 37, 38, 39] (by decide +kernel)
theorem wl_r3 : ∀ w ∈ wsL_law_r3, w ∈ lw_tbl := wl_ix [40, 41, 80, 81, 82, 83, 84, 87, 86, 100, 101, 102, 103, 104, 127, 128, 129, 130, 131, 140, 141, 142, 143, 144] (by decide +kernel)
theorem wl_r4_0 : ∀ w ∈ ([Cond.fieldLink RX1 15 "StairKin$Climbs" "worth" "[I", Cond.fieldLink RX1 18 "StairKin$Climbs" "next" "[I", Cond.fieldLink RX1 21 "StairKin$Climbs" "end" "[I", Cond.methodLink RL 111 yL_primeAt, Cond.static yL_primeAt, Cond.initialized RL, Cond.code yL_primeAt cL_primeAt 3 (some .int), Cond.methodLink RL 9 yL_isPrime, Cond.static yL_isPrime, Cond.code yL_isPrime cL_isPrime 2 (some .boolean), Cond.methodLink RL 114 yL_cell, Cond.static yL_cell, Cond.code yL_cell cL_cell 2 (some .int), Cond.constant RL 7 (40503), Cond.methodLink RL 118 yL_isActed, Cond.static yL_isActed] : List Cond), w ∈ lw_tbl := wl_ix [145, 146, 147, 199, 200, 8, 201, 202, 203, 204, 195, 196, 197, 198, 420, 421] (by decide +kernel)
theorem wl_r4_1 : Cond.code yL_isActed cL_isActed 13 (some .boolean) ∈ lw_tbl := List.mem_of_getElem? (i := 422) rfl
theorem wl_r4_2 : ∀ w ∈ ([Cond.methodLink RL 74 yL_number, Cond.static yL_number, Cond.code yL_number cL_number 6 (some .int), Cond.methodLink RL 78 yL_put, Cond.static yL_put, Cond.code yL_put cL_put 5 none, Cond.methodLink RL 30 yL_account] : List Cond), w ∈ lw_tbl := wl_ix [423, 424, 425, 426, 427, 428, 429] (by decide +kernel)
theorem wl_r4 : ∀ w ∈ wsL_law_r4, w ∈ lw_tbl := (wl_app wl_r4_0 (wl_cons wl_r4_1 (wl_app wl_r4_2 (fun w h => absurd h List.not_mem_nil))))
theorem wl_r5 : ∀ w ∈ wsL_law_r5, w ∈ lw_tbl := wl_ix [430, 431, 366, 367, 368, 432, 433, 434, 435, 436, 437, 438, 439, 89, 440, 442, 3, 443, 88, 444, 445, 446, 447, 56] (by decide +kernel)
theorem wl_r6 : ∀ w ∈ wsL_law_r6, w ∈ lw_tbl := wl_ix [59, 63, 448, 449, 16, 450, 451, 248, 249, 452, 240, 241, 453, 454, 455, 456, 42, 457, 459, 4, 460, 461, 323, 17] (by decide +kernel)
theorem wl_r7 : ∀ w ∈ wsL_law_r7, w ∈ lw_tbl := wl_ix [324, 462, 255, 256, 463, 464, 465, 466, 467, 468, 469, 470, 471, 472, 18, 473, 474, 475, 476, 477, 478, 479, 480, 266] (by decide +kernel)
theorem wl_r8 : ∀ w ∈ wsL_law_r8, w ∈ lw_tbl := wl_ix [267, 268, 233, 234, 398, 400, 2, 401, 333, 481, 483, 5, 484, 485, 486, 270, 271, 487, 488, 489, 490, 491, 492, 493] (by decide +kernel)
theorem wl_r9 : ∀ w ∈ wsL_law_r9, w ∈ lw_tbl := wl_ix [494, 495, 496, 497, 498, 499, 500, 501, 502, 213, 214, 215, 228, 217, 218, 219, 503, 505, 6, 506, 507, 508, 509, 302] (by decide +kernel)
theorem wl_r10 : ∀ w ∈ wsL_law_r10, w ∈ lw_tbl := wl_ix [303, 304, 510, 511, 512, 513, 514, 515, 516, 517, 518, 519, 520, 521, 230, 231, 269, 229, 522, 523, 524, 525, 526, 527] (by decide +kernel)
theorem wl_r11 : ∀ w ∈ wsL_law_r11, w ∈ lw_tbl := wl_ix [528, 529, 530, 531, 532, 533, 534, 535, 232, 536, 538, 7, 539, 540, 541, 542, 543, 544, 545, 546, 547, 548, 549, 550] (by decide +kernel)
theorem wl_r12 : ∀ w ∈ wsL_law_r12, w ∈ lw_tbl := wl_ix [551, 552, 392, 393, 265, 553, 554, 555, 356, 357, 358, 556, 557, 558, 559, 560, 561, 562, 563, 564, 565, 326, 327, 328] (by decide +kernel)
theorem wl_r13_0 : ∀ w ∈ ([Cond.methodLink RX6 74 yX6_shareAt, Cond.methodLink RL 107 yX8_set, Cond.instanceMethod yX8_set, Cond.selects RX8 yX8_set yX8_set, Cond.code yX8_set cX8_set 3 (some .int), Cond.methodLink RX8 81 yX6_changeSetting, Cond.instanceMethod yX6_changeSetting, Cond.selects RX6 yX6_changeSetting yX6_changeSetting, Cond.code yX6_changeSetting cX6_changeSetting 4 (some .int), Cond.methodLink RL 122 yL_areSteps, Cond.static yL_areSteps] : List Cond), w ∈ lw_tbl := wl_ix [566, 567, 568, 569, 570, 571, 572, 573, 574, 205, 206] (by decide +kernel)
theorem wl_r13_1 : Cond.code yL_areSteps cL_areSteps 17 (some .boolean) ∈ lw_tbl := List.mem_of_getElem? (i := 207) rfl
theorem wl_r13_2 : ∀ w ∈ ([Cond.methodLink RL 45 yX8_step, Cond.instanceMethod yX8_step, Cond.selects RX8 yX8_step yX8_step, Cond.code yX8_step cX8_step 4 (some .int), Cond.methodLink RX8 138 yX6_has, Cond.methodLink RX8 141 yX6_numberOf, Cond.methodLink RX8 144 yX6_kinOf, Cond.instanceMethod yX6_kinOf, Cond.selects RX6 yX6_kinOf yX6_kinOf, Cond.code yX6_kinOf cX6_kinOf 4 (some .int), Cond.methodLink RX6 104 yX6_isKin, Cond.instanceMethod yX6_isKin] : List Cond), w ∈ lw_tbl := wl_ix [208, 209, 210, 211, 212, 216, 220, 221, 222, 223, 224, 225] (by decide +kernel)
theorem wl_r13 : ∀ w ∈ wsL_law_r13, w ∈ lw_tbl := (wl_app wl_r13_0 (wl_cons wl_r13_1 (wl_app wl_r13_2 (fun w h => absurd h List.not_mem_nil))))
theorem wl_r14 : ∀ w ∈ wsL_law_r14, w ∈ lw_tbl := wl_ix [226, 227, 235, 236, 237, 238, 132, 239, 242, 243, 244, 245, 246, 247, 250, 252, 0, 253, 254, 257, 258, 259, 260, 261] (by decide +kernel)
theorem wl_r15 : ∀ w ∈ wsL_law_r15, w ∈ lw_tbl := wl_ix [262, 263, 264, 272, 273, 274, 275, 276, 277, 278, 279, 280, 281, 282, 283, 284, 285, 286, 287, 288, 289, 290, 291, 292] (by decide +kernel)
theorem wl_r16 : ∀ w ∈ wsL_law_r16, w ∈ lw_tbl := wl_ix [293, 294, 295, 296, 297, 298, 299, 300, 301, 305, 306, 307, 308, 309, 310, 311, 312, 313, 314, 315, 316, 317, 318, 319] (by decide +kernel)
theorem wl_r17 : ∀ w ∈ wsL_law_r17, w ∈ lw_tbl := wl_ix [320, 322, 321, 325, 329, 330, 331, 332, 334, 335, 336, 337, 338, 339, 340, 341, 342, 343, 345, 1, 346, 347, 348, 349] (by decide +kernel)
theorem wl_r18_0 : ∀ w ∈ ([Cond.selects RX6 yX6_ones yX6_ones, Cond.code yX6_ones cX6_ones 3 (some .int), Cond.methodLink RL 57 yX8_crown, Cond.instanceMethod yX8_crown, Cond.selects RX8 yX8_crown yX8_crown, Cond.code yX8_crown cX8_crown 5 (some .int), Cond.methodLink RL 61 yX8_mean, Cond.instanceMethod yX8_mean, Cond.selects RX8 yX8_mean yX8_mean, Cond.code yX8_mean cX8_mean 3 (some .double), Cond.methodLink RL 126 yL_areFactors, Cond.static yL_areFactors] : List Cond), w ∈ lw_tbl := wl_ix [350, 351, 352, 353, 354, 355, 359, 360, 361, 362, 363, 364] (by decide +kernel)
theorem wl_r18_1 : Cond.code yL_areFactors cL_areFactors 12 (some .boolean) ∈ lw_tbl := List.mem_of_getElem? (i := 365) rfl
theorem wl_r18_2 : ∀ w ∈ ([Cond.methodLink RL 65 yX8_factor, Cond.instanceMethod yX8_factor, Cond.selects RX8 yX8_factor yX8_factor, Cond.code yX8_factor cX8_factor 4 (some .int), Cond.methodLink RX8 170 yX7_factorAt, Cond.static yX7_factorAt, Cond.code yX7_factorAt cX7_factorAt 5 (some .int), Cond.methodLink RL 68 yX8_common, Cond.instanceMethod yX8_common, Cond.selects RX8 yX8_common yX8_common, Cond.code yX8_common cX8_common 6 (some .int)] : List Cond), w ∈ lw_tbl := wl_ix [369, 370, 371, 372, 373, 374, 375, 376, 377, 378, 379] (by decide +kernel)
theorem wl_r18 : ∀ w ∈ wsL_law_r18, w ∈ lw_tbl := (wl_app wl_r18_0 (wl_cons wl_r18_1 (wl_app wl_r18_2 (fun w h => absurd h List.not_mem_nil))))
theorem wl_r19_0 : ∀ w ∈ ([Cond.methodLink RX8 173 yX7_divisorByRemainders, Cond.methodLink RX8 176 yX7_divisorByFactors, Cond.static yX7_divisorByFactors, Cond.code yX7_divisorByFactors cX7_divisorByFactors 7 (some .int), Cond.methodLink RL 130 yL_areAccounts, Cond.static yL_areAccounts] : List Cond), w ∈ lw_tbl := wl_ix [380, 381, 382, 383, 384, 385] (by decide +kernel)
theorem wl_r19_1 : Cond.code yL_areAccounts cL_areAccounts 16 (some .boolean) ∈ lw_tbl := List.mem_of_getElem? (i := 386) rfl
theorem wl_r19_2 : ∀ w ∈ ([Cond.methodLink RL 71 yX8_prime, Cond.instanceMethod yX8_prime, Cond.selects RX8 yX8_prime yX8_prime, Cond.code yX8_prime cX8_prime 3 (some .int), Cond.methodLink RX8 218 yX7_isPrime, Cond.methodLink RX8 225 yX0_chipsOf, Cond.instanceMethod yX0_chipsOf, Cond.selects RX0 yX0_chipsOf yX0_chipsOf, Cond.code yX0_chipsOf cX0_chipsOf 2 (some .int), Cond.methodLink RX8 230 yX0_cameOf, Cond.instanceMethod yX0_cameOf, Cond.selects RX0 yX0_cameOf yX0_cameOf, Cond.code yX0_cameOf cX0_cameOf 2 (some .int), Cond.methodLink RX8 233 yX6_sumOfExponents, Cond.instanceMethod yX6_sumOfExponents, Cond.selects RX6 yX6_sumOfExponents yX6_sumOfExponents, Cond.code yX6_sumOfExponents cX6_sumOfExponents 4 (some .int)] : List Cond), w ∈ lw_tbl := wl_ix [387, 388, 389, 390, 391, 394, 395, 396, 397, 402, 403, 404, 405, 406, 407, 408, 409] (by decide +kernel)
theorem wl_r19 : ∀ w ∈ wsL_law_r19, w ∈ lw_tbl := (wl_app wl_r19_0 (wl_cons wl_r19_1 (wl_app wl_r19_2 (fun w h => absurd h List.not_mem_nil))))
theorem wl_r20 : ∀ w ∈ wsL_law_r20, w ∈ lw_tbl := wl_ix [410, 411, 412, 413, 414, 415, 416, 417, 418, 419] (by decide +kernel)
theorem eT_X8 : ∀ w ∈ u_ws RX8 TX8 11, w ∈ lw_tbl := wl_ix [172, 174, 176, 178, 180, 182, 184, 186, 188, 190, 192] (by decide +kernel)
theorem eT_X6 : ∀ w ∈ u_ws RX6 TX6 6, w ∈ lw_tbl := wl_ix [65, 67, 69, 71, 73, 75] (by decide +kernel)
theorem eT_X3 : ∀ w ∈ u_ws RX3 TX3 3, w ∈ lw_tbl := wl_ix [91, 93, 95] (by decide +kernel)
theorem eT_X4 : ∀ w ∈ u_ws RX4 TX4 9, w ∈ lw_tbl := wl_ix [106, 108, 110, 112, 114, 116, 118, 120, 122] (by decide +kernel)
theorem eT_X2 : ∀ w ∈ u_ws RX2 TX2 2, w ∈ lw_tbl := wl_ix [133, 135] (by decide +kernel)
theorem eT_X1 : ∀ w ∈ u_ws RX1 TX1 8, w ∈ lw_tbl := wl_ix [148, 150, 152, 154, 156, 158, 160, 162] (by decide +kernel)
theorem eT_X0 : ∀ w ∈ u_ws RX0 TX0 4, w ∈ lw_tbl := wl_ix [43, 45, 47, 49] (by decide +kernel)
theorem wl_law : ∀ w ∈ wsL_law, w ∈ lw_tbl := (wl_app (wl_app (wl_app (wl_app (wl_app (wl_app (wl_app (wl_app (wl_app wl_r1 (wl_app wl_r2 (wl_app wl_r3 (wl_app wl_r4 (wl_app wl_r5 (wl_app wl_r6 (wl_app wl_r7 (wl_app wl_r8 (wl_app wl_r9 (wl_app wl_r10 (wl_app wl_r11 (wl_app wl_r12 (wl_app wl_r13 (wl_app wl_r14 (wl_app wl_r15 (wl_app wl_r16 (wl_app wl_r17 (wl_app wl_r18 (wl_app wl_r19 wl_r20))))))))))))))))))) eT_X8) eT_X6) eT_X3) eT_X4) eT_X2) eT_X1) eT_X0) (fun w h => absurd h List.not_mem_nil))
theorem in_L_8 : ∀ w ∈ u_ws RX8 TX8 11, w ∈ wsL_law := by
  intro w hw
  have hw : w ∈ wsX80 := hw
  unfold wsL_law
  simp only [List.mem_append, hw, true_or, or_true]
