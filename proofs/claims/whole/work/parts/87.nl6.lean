set_option maxRecDepth 20000 in
theorem ggL_law_X8_climbAt : GoodIn wsL_law wsX8_climbAt := goodIn_r _ [718, 33, 15, 643, 644, 645, 2, 646, 515, 206, 207, 14, 208, 110, 681, 682, 683, 32, 684, 74, 75, 685, 73, 686, 687, 688, 689, 653, 118, 115, 119, 652, 567, 568, 569, 570, 571, 572, 573, 44, 521, 522, 523, 524, 111, 209, 210, 211, 212, 39, 248, 245, 149, 246, 276, 161, 162, 651, 121, 122, 690, 691, 692, 693, 719, 938, 939, 940, 941, 942, 943, 944, 945, 946, 947, 948, 987, 988, 989, 990, 991, 992, 993, 994, 967, 968, 969, 970, 971, 972] (by decide +kernel) (by decide +kernel)
set_option maxRecDepth 20000 in
theorem gL_law_X8_climbAt : GoodIn wsL_law (wsV RL 94 RX8 yX8_climbAt wsX8_climbAt) := goodIn_app (goodIn_of _ (by decide +kernel)) ggL_law_X8_climbAt
set_option maxRecDepth 20000 in
theorem ggL_law_X9_climbAt : GoodIn wsL_law wsX9_climbAt := goodIn_r _ [723, 91, 661, 662, 663, 5, 664, 221, 222, 223, 224, 81, 184, 185, 186, 707, 708, 709, 710, 90, 225, 226, 227, 228, 669, 670, 671, 672, 582, 583, 584, 585, 261, 262, 263, 711, 712, 713, 714, 949, 950, 951, 952, 953, 954, 955, 956, 957, 958, 959, 960, 961, 962, 963, 964, 965, 966] (by decide +kernel) (by decide +kernel)
set_option maxRecDepth 20000 in
theorem gL_law_X9_climbAt : GoodIn wsL_law (wsV RL 97 RX9 yX9_climbAt wsX9_climbAt) := goodIn_app (goodIn_of _ (by decide +kernel)) ggL_law_X9_climbAt
set_option maxRecDepth 20000 in
theorem ggL_law_X8_crown : GoodIn wsL_law wsX8_crown := goodIn_r _ [727, 15, 517, 518, 519, 14, 520, 110, 521, 522, 523, 524, 111, 209, 210, 211, 212, 39, 248, 245, 149, 246, 276, 161, 162, 516, 938, 939, 940, 941, 942, 943, 944, 945, 946, 947, 948, 967, 968, 969, 970, 971, 972] (by decide +kernel) (by decide +kernel)
set_option maxRecDepth 20000 in
theorem gL_law_X8_crown : GoodIn wsL_law (wsV RL 98 RX8 yX8_crown wsX8_crown) := goodIn_app (goodIn_of _ (by decide +kernel)) ggL_law_X8_crown
set_option maxRecDepth 20000 in
theorem ggL_law_X9_crown : GoodIn wsL_law wsX9_crown := goodIn_r _ [731, 81, 586, 587, 588, 5, 589, 582, 583, 584, 585, 225, 226, 227, 228, 261, 262, 263, 949, 950, 951, 952, 953, 954, 955, 956, 957, 958, 959, 960, 961, 962, 963, 964, 965, 966] (by decide +kernel) (by decide +kernel)
set_option maxRecDepth 20000 in
theorem gL_law_X9_crown : GoodIn wsL_law (wsV RL 101 RX9 yX9_crown wsX9_crown) := goodIn_app (goodIn_of _ (by decide +kernel)) ggL_law_X9_crown
set_option maxRecDepth 20000 in
theorem ggL_law_X8_prime : GoodIn wsL_law wsX8_prime := goodIn_r _ [735, 15, 736, 314, 149, 315, 316, 158, 159, 160, 161, 162, 737, 738, 739, 42, 740, 50, 163, 164, 165, 166, 127, 49, 167, 118, 115, 119, 741, 742, 743, 744, 51, 745, 746, 747, 14, 748, 110, 209, 210, 211, 212, 39, 749, 557, 558, 247, 174, 175, 750, 751, 752, 753, 754, 133, 134, 135, 755, 756, 757, 758, 276, 938, 939, 940, 941, 942, 943, 944, 945, 946, 947, 948, 967, 968, 969, 970, 971, 972, 995, 996, 997, 998] (by decide +kernel) (by decide +kernel)
set_option maxRecDepth 20000 in
theorem gL_law_X8_prime : GoodIn wsL_law (wsV RL 102 RX8 yX8_prime wsX8_prime) := goodIn_app (goodIn_of _ (by decide +kernel)) ggL_law_X8_prime
set_option maxRecDepth 20000 in
theorem ggL_law_X9_prime : GoodIn wsL_law wsX9_prime := goodIn_r _ [762, 81, 297, 298, 299, 5, 300, 85, 184, 185, 186, 763, 764, 765, 766, 225, 226, 227, 228, 767, 768, 769, 770, 771, 772, 773, 774, 775, 776, 777, 949, 950, 951, 952, 953, 954, 955, 956, 957, 958, 959, 960, 961, 962, 963, 964, 965, 966] (by decide +kernel) (by decide +kernel)
set_option maxRecDepth 20000 in
theorem gL_law_X9_prime : GoodIn wsL_law (wsV RL 105 RX9 yX9_prime wsX9_prime) := goodIn_app (goodIn_of _ (by decide +kernel)) ggL_law_X9_prime
set_option maxRecDepth 20000 in
theorem ggL_law_X8_count : GoodIn wsL_law wsX8_count := goodIn_r _ [781, 15, 29, 25, 21, 782, 783, 784, 14, 785, 110, 521, 522, 523, 524, 111, 209, 210, 211, 212, 39, 248, 245, 149, 246, 276, 161, 162, 525, 526, 527, 28, 528, 529, 68, 530, 121, 115, 122, 531, 532, 533, 534, 535, 536, 118, 119, 537, 538, 539, 540, 541, 137, 134, 138, 786, 787, 788, 789, 790, 791, 792, 793, 794, 133, 135, 795, 544, 545, 546, 796, 335, 336, 337, 797, 798, 799, 42, 800, 127, 50, 167, 801, 802, 803, 804, 805, 806, 807, 808, 809, 158, 159, 160, 810, 811, 812, 813, 814, 554, 555, 556, 557, 558, 247, 174, 175, 815, 816, 817, 818, 938, 939, 940, 941, 942, 943, 944, 945, 946, 947, 948, 967, 968, 969, 970, 971, 972, 976, 977, 978, 979, 980, 981, 982, 983, 984, 973, 974, 975, 985, 986, 995, 996, 997, 998] (by decide +kernel) (by decide +kernel)
set_option maxRecDepth 20000 in
theorem gL_law_X8_count : GoodIn wsL_law (wsV RL 106 RX8 yX8_count wsX8_count) := goodIn_app (goodIn_of _ (by decide +kernel)) ggL_law_X8_count
set_option maxRecDepth 20000 in
theorem ggL_law_X9_count : GoodIn wsL_law wsX9_count := goodIn_r _ [822, 81, 385, 192, 823, 824, 825, 5, 826, 586, 587, 588, 589, 582, 583, 584, 585, 225, 226, 227, 228, 261, 262, 263, 827, 828, 829, 830, 88, 578, 579, 580, 581, 590, 591, 592, 593, 351, 352, 353, 354, 831, 832, 833, 834, 835, 836, 837, 838, 85, 774, 775, 776, 777, 839, 840, 841, 842, 949, 950, 951, 952, 953, 954, 955, 956, 957, 958, 959, 960, 961, 962, 963, 964, 965, 966] (by decide +kernel) (by decide +kernel)
set_option maxRecDepth 20000 in
theorem gL_law_X9_count : GoodIn wsL_law (wsV RL 109 RX9 yX9_count wsX9_count) := goodIn_app (goodIn_of _ (by decide +kernel)) ggL_law_X9_count
