/-! the law's words stand in the tables (own work), in pieces, by their places -/
theorem wl_ix {l t : List Cond} (ks : List Nat) (h : ks.map (fun k => t[k]?) = l.map some) : ∀ w ∈ l, w ∈ t := by
  intro w hw
  have h1 : some w ∈ l.map some := List.mem_map.mpr ⟨w, hw, rfl⟩
  rw [← h] at h1
  obtain ⟨k, -, e⟩ := List.mem_map.mp h1
  exact List.mem_of_getElem? e
theorem wl_r1 : ∀ w ∈ wsL_law_r1, w ∈ lw_tbl := wl_ix [73, 74, 62, 766, 767, 69, 75, 76, 77, 78, 79, 80, 81, 82, 63, 243, 244, 245, 133, 134, 65, 247, 153, 154] (by decide +kernel)
theorem wl_r2 : ∀ w ∈ wsL_law_r2, w ∈ lw_tbl := wl_ix [66, 248, 194, 195, 67, 249, 207, 208, 68, 250, 83, 84, 85, 86, 106, 107, 87, 88, 64, 108, 116, 89, 90, 91] (by decide +kernel)
theorem wl_r3 : ∀ w ∈ wsL_law_r3, w ∈ lw_tbl := wl_ix [92, 93, 94, 95, 135, 136, 137, 138, 139, 142, 141, 155, 156, 157, 158, 159, 196, 197, 198, 199, 200, 209, 210, 211] (by decide +kernel)
theorem wl_r4 : ∀ w ∈ wsL_law_r4, w ∈ lw_tbl := wl_ix [212, 213, 223, 224, 225, 768, 769, 770, 771, 772, 773, 774, 775, 776, 780, 783, 784, 787, 788, 789, 277, 278, 279, 280] (by decide +kernel)
theorem wl_r5 : ∀ w ∈ wsL_law_r5, w ∈ lw_tbl := wl_ix [281, 282, 283, 284, 144, 285, 287, 0, 288, 143, 289, 290, 291, 292, 110, 114, 118, 293, 294, 70, 295, 296, 297, 298] (by decide +kernel)
theorem wl_r6 : ∀ w ∈ wsL_law_r6, w ∈ lw_tbl := wl_ix [299, 300, 301, 302, 303, 304, 305, 96, 306, 308, 1, 309, 310, 311, 71, 312, 313, 314, 315, 316, 317, 318, 319, 320] (by decide +kernel)
theorem wl_r7 : ∀ w ∈ wsL_law_r7, w ∈ lw_tbl := wl_ix [321, 322, 323, 324, 325, 72, 326, 327, 328, 329, 330, 331, 332, 333, 334, 335, 336, 337, 338, 339, 341, 2, 342, 343] (by decide +kernel)
theorem wl_r8 : ∀ w ∈ wsL_law_r8, w ∈ lw_tbl := wl_ix [344, 346, 3, 347, 348, 349, 350, 351, 352, 353, 354, 355, 827, 828, 829, 830, 831, 832, 833, 834, 836, 16, 837, 779] (by decide +kernel)
theorem wl_r9 : ∀ w ∈ wsL_law_r9, w ∈ lw_tbl := wl_ix [778, 838, 840, 17, 841, 356, 357, 358, 359, 360, 361, 362, 363, 364, 365, 366, 367, 368, 369, 370, 371, 372, 374, 4] (by decide +kernel)
theorem wl_r10 : ∀ w ∈ wsL_law_r10, w ∈ lw_tbl := wl_ix [375, 842, 843, 844, 845, 846, 848, 18, 849, 850, 852, 19, 853, 854, 856, 20, 857, 376, 377, 378, 379, 380, 381, 382] (by decide +kernel)
theorem wl_r11 : ∀ w ∈ wsL_law_r11, w ∈ lw_tbl := wl_ix [383, 384, 385, 386, 387, 388, 389, 390, 391, 858, 859, 860, 861, 862, 864, 21, 865, 866, 868, 22, 869, 870, 871, 872] (by decide +kernel)
theorem wl_r12 : ∀ w ∈ wsL_law_r12, w ∈ lw_tbl := wl_ix [873, 875, 23, 876, 392, 393, 394, 395, 396, 397, 398, 399, 400, 401, 403, 5, 404, 405, 877, 878, 879, 880, 881, 883] (by decide +kernel)
theorem wl_r13 : ∀ w ∈ wsL_law_r13, w ∈ lw_tbl := wl_ix [24, 884, 885, 887, 25, 888, 889, 890, 891, 892, 894, 26, 895, 896, 898, 27, 899, 406, 407, 408, 409, 410, 411, 412] (by decide +kernel)
theorem wl_r14 : ∀ w ∈ wsL_law_r14, w ∈ lw_tbl := wl_ix [413, 414, 415, 416, 417, 900, 901, 902, 903, 904, 906, 28, 907, 418, 419, 420, 421, 422, 423, 424, 425, 426, 427, 428] (by decide +kernel)
theorem wl_r15 : ∀ w ∈ wsL_law_r15, w ∈ lw_tbl := wl_ix [429, 430, 431, 908, 909, 910, 911, 912, 914, 29, 915, 916, 918, 30, 919, 920, 922, 31, 923, 924, 926, 32, 927, 432] (by decide +kernel)
theorem wl_r16 : ∀ w ∈ wsL_law_r16, w ∈ lw_tbl := wl_ix [433, 434, 435, 436, 437, 438, 439, 928, 929, 930, 931, 440, 441, 442, 443, 444, 445, 446, 447, 160, 448, 932, 933, 934] (by decide +kernel)
theorem wl_r17 : ∀ w ∈ wsL_law_r17, w ∈ lw_tbl := wl_ix [935, 781, 449, 450, 451, 452, 453, 454, 455, 456, 936, 937, 938, 939, 457, 458, 459, 460, 461, 462, 463, 464, 163, 162] (by decide +kernel)
theorem wl_r18 : ∀ w ∈ wsL_law_r18, w ∈ lw_tbl := wl_ix [465, 466, 467, 468, 469, 470, 471, 472, 473, 475, 6, 476, 165, 477, 479, 7, 480, 481, 483, 8, 484, 485, 487, 9] (by decide +kernel)
theorem wl_r19 : ∀ w ∈ wsL_law_r19, w ∈ lw_tbl := wl_ix [488, 173, 171, 167, 169, 489, 490, 491, 492, 493, 494, 495, 940, 941, 942, 943, 785, 786, 944, 946, 33, 947, 948, 950] (by decide +kernel)
theorem wl_r20 : ∀ w ∈ wsL_law_r20, w ∈ lw_tbl := wl_ix [34, 951, 952, 954, 35, 955, 956, 958, 36, 959, 496, 497, 498, 499, 500, 501, 502, 960, 961, 962, 963, 964, 503, 504] (by decide +kernel)
theorem wl_r21 : ∀ w ∈ wsL_law_r21, w ∈ lw_tbl := wl_ix [505, 506, 251, 252, 253, 507, 508, 509, 510, 511, 512, 965, 966, 967, 968, 782, 969, 971, 37, 972, 973, 974, 975, 513] (by decide +kernel)
theorem wl_r22 : ∀ w ∈ wsL_law_r22, w ∈ lw_tbl := wl_ix [514, 515, 516, 976, 977, 978, 979, 517, 518, 519, 520, 521, 522, 523, 524, 525, 526, 527, 528, 529, 530, 531, 532, 533] (by decide +kernel)
theorem wl_r23 : ∀ w ∈ wsL_law_r23, w ∈ lw_tbl := wl_ix [534, 201, 535, 536, 537, 538, 539, 540, 541, 542, 544, 10, 545, 546, 547, 548, 549, 550, 551, 552, 553, 554, 555, 556] (by decide +kernel)
theorem wl_r24 : ∀ w ∈ wsL_law_r24, w ∈ lw_tbl := wl_ix [557, 558, 559, 560, 561, 562, 563, 564, 565, 566, 567, 568, 569, 570, 571, 572, 573, 574, 575, 576, 577, 578, 980, 981] (by decide +kernel)
theorem wl_r25 : ∀ w ∈ wsL_law_r25, w ∈ lw_tbl := wl_ix [982, 983, 984, 986, 38, 987, 988, 990, 39, 991, 992, 994, 40, 995, 996, 998, 41, 999, 1000, 1001, 1002, 1003, 1004, 1005] (by decide +kernel)
theorem wl_r26 : ∀ w ∈ wsL_law_r26, w ∈ lw_tbl := wl_ix [1006, 1008, 42, 1009, 579, 580, 581, 582, 583, 584, 585, 1010, 1011, 1012, 1013, 586, 587, 588, 589, 590, 591, 592, 593, 1014] (by decide +kernel)
theorem wl_r27 : ∀ w ∈ wsL_law_r27, w ∈ lw_tbl := wl_ix [1015, 1016, 1017, 1018, 1019, 1020, 594, 595, 596, 597, 598, 1021, 1022, 1023, 1024, 599, 600, 601, 602, 603, 605, 11, 606, 607] (by decide +kernel)
theorem wl_r28 : ∀ w ∈ wsL_law_r28, w ∈ lw_tbl := wl_ix [608, 609, 610, 611, 612, 613, 615, 616, 617, 1025, 1026, 1027, 1028, 1029, 1031, 43, 1032, 1033, 1035, 44, 1036, 1037, 1039, 45] (by decide +kernel)
theorem wl_r29 : ∀ w ∈ wsL_law_r29, w ∈ lw_tbl := wl_ix [1040, 1041, 1043, 46, 1044, 618, 619, 620, 621, 622, 623, 624, 625, 215, 626, 628, 12, 629, 630, 631, 632, 633, 634, 635] (by decide +kernel)
theorem wl_r30 : ∀ w ∈ wsL_law_r30, w ∈ lw_tbl := wl_ix [636, 637, 638, 639, 640, 641, 642, 1045, 1046, 1047, 1048, 1049, 1051, 47, 1052, 1053, 1055, 48, 1056, 643, 644, 645, 646, 647] (by decide +kernel)
theorem wl_r31 : ∀ w ∈ wsL_law_r31, w ∈ lw_tbl := wl_ix [1057, 1058, 1059, 1060, 648, 649, 650, 651, 1061, 1062, 1063, 1064, 652, 653, 654, 655, 656, 657, 658, 659, 660, 661, 662, 663] (by decide +kernel)
theorem wl_r32 : ∀ w ∈ wsL_law_r32, w ∈ lw_tbl := wl_ix [664, 665, 666, 667, 668, 669, 670, 671, 672, 673, 674, 675, 676, 677, 678, 1065, 1066, 1067, 1068, 1069, 1071, 49, 1072, 1073] (by decide +kernel)
theorem wl_r33 : ∀ w ∈ wsL_law_r33, w ∈ lw_tbl := wl_ix [1074, 1075, 1076, 1078, 50, 1079, 1080, 1082, 51, 1083, 679, 680, 681, 682, 683, 684, 685, 686, 687, 688, 689, 690, 691, 692] (by decide +kernel)
theorem wl_r34 : ∀ w ∈ wsL_law_r34, w ∈ lw_tbl := wl_ix [693, 694, 696, 695, 697, 698, 699, 700, 701, 702, 703, 704, 705, 706, 707, 708, 709, 710, 711, 713, 13, 714, 715, 716] (by decide +kernel)
theorem wl_r35 : ∀ w ∈ wsL_law_r35, w ∈ lw_tbl := wl_ix [717, 718, 719, 1084, 1085, 1086, 1087, 1088, 1090, 52, 1091, 1092, 1094, 53, 1095, 1096, 1098, 54, 1099, 1100, 1102, 55, 1103, 1104] (by decide +kernel)
theorem wl_r36 : ∀ w ∈ wsL_law_r36, w ∈ lw_tbl := wl_ix [1106, 56, 1107, 720, 721, 722, 723, 1108, 1109, 1110, 1111, 724, 725, 726, 727, 728, 729, 730, 731, 217, 219, 221, 732, 734] (by decide +kernel)
theorem wl_r37 : ∀ w ∈ wsL_law_r37, w ∈ lw_tbl := wl_ix [14, 735, 1112, 1113, 1114, 1115, 1116, 1118, 57, 1119, 1120, 1122, 58, 1123, 1124, 1126, 59, 1127, 736, 737, 738, 739, 1128, 1129] (by decide +kernel)
theorem wl_r38 : ∀ w ∈ wsL_law_r38, w ∈ lw_tbl := wl_ix [1130, 1131, 740, 741, 742, 743, 744, 745, 747, 15, 748, 749, 1132, 1133, 1134, 1135, 1136, 1138, 60, 1139, 750, 751, 752, 753] (by decide +kernel)
theorem wl_r39 : ∀ w ∈ wsL_law_r39, w ∈ lw_tbl := wl_ix [754, 755, 756, 757, 1140, 1141, 1142, 1143, 758, 759, 760, 761, 246, 1144, 1145, 1146, 1147, 777, 762, 763, 764, 765, 1148, 1149] (by decide +kernel)
theorem wl_r40 : ∀ w ∈ wsL_law_r40, w ∈ lw_tbl := wl_ix [1150, 1151] (by decide +kernel)
theorem eT_X8 : ∀ w ∈ u_ws RX8 TX8 11, w ∈ lw_tbl := wl_ix [254, 256, 258, 260, 262, 264, 266, 268, 270, 272, 274] (by decide +kernel)
theorem eT_X9 : ∀ w ∈ u_ws RX9 TX9 18, w ∈ lw_tbl := wl_ix [790, 792, 794, 796, 798, 800, 802, 804, 806, 808, 810, 812, 814, 816, 818, 820, 822, 824] (by decide +kernel)
theorem eT_X6 : ∀ w ∈ u_ws RX6 TX6 6, w ∈ lw_tbl := wl_ix [120, 122, 124, 126, 128, 130] (by decide +kernel)
theorem eT_X3 : ∀ w ∈ u_ws RX3 TX3 3, w ∈ lw_tbl := wl_ix [146, 148, 150] (by decide +kernel)
theorem eT_X4 : ∀ w ∈ u_ws RX4 TX4 9, w ∈ lw_tbl := wl_ix [175, 177, 179, 181, 183, 185, 187, 189, 191] (by decide +kernel)
theorem eT_X2 : ∀ w ∈ u_ws RX2 TX2 2, w ∈ lw_tbl := wl_ix [202, 204] (by decide +kernel)
theorem eT_X1 : ∀ w ∈ u_ws RX1 TX1 8, w ∈ lw_tbl := wl_ix [226, 228, 230, 232, 234, 236, 238, 240] (by decide +kernel)
theorem eT_X0 : ∀ w ∈ u_ws RX0 TX0 4, w ∈ lw_tbl := wl_ix [97, 99, 101, 103] (by decide +kernel)
theorem wl_app {a b t : List Cond} (h : ∀ w ∈ a, w ∈ t) (k : ∀ w ∈ b, w ∈ t) : ∀ w ∈ a ++ b, w ∈ t := List.forall_mem_append.mpr ⟨h, k⟩
theorem wl_law : ∀ w ∈ wsL_law, w ∈ lw_tbl := (wl_app (wl_app (wl_app (wl_app (wl_app (wl_app (wl_app (wl_app (wl_app (wl_app wl_r1 (wl_app wl_r2 (wl_app wl_r3 (wl_app wl_r4 (wl_app wl_r5 (wl_app wl_r6 (wl_app wl_r7 (wl_app wl_r8 (wl_app wl_r9 (wl_app wl_r10 (wl_app wl_r11 (wl_app wl_r12 (wl_app wl_r13 (wl_app wl_r14 (wl_app wl_r15 (wl_app wl_r16 (wl_app wl_r17 (wl_app wl_r18 (wl_app wl_r19 (wl_app wl_r20 (wl_app wl_r21 (wl_app wl_r22 (wl_app wl_r23 (wl_app wl_r24 (wl_app wl_r25 (wl_app wl_r26 (wl_app wl_r27 (wl_app wl_r28 (wl_app wl_r29 (wl_app wl_r30 (wl_app wl_r31 (wl_app wl_r32 (wl_app wl_r33 (wl_app wl_r34 (wl_app wl_r35 (wl_app wl_r36 (wl_app wl_r37 (wl_app wl_r38 (wl_app wl_r39 wl_r40))))))))))))))))))))))))))))))))))))))) eT_X8) eT_X9) eT_X6) eT_X3) eT_X4) eT_X2) eT_X1) eT_X0) (fun w h => absurd h List.not_mem_nil))
theorem in_L_X8 : ∀ w ∈ u_ws RX8 TX8 11, w ∈ wsL_law := by
  intro w hw
  have hw : w ∈ wsX80 := hw
  unfold wsL_law
  simp only [List.mem_append, hw, true_or, or_true]
theorem in_L_X9 : ∀ w ∈ u_ws RX9 TX9 18, w ∈ wsL_law := by
  intro w hw
  have hw : w ∈ wsX90 := hw
  unfold wsL_law
  simp only [List.mem_append, hw, true_or, or_true]
