set_option maxRecDepth 20000 in
theorem ggL_law_X8_common : GoodIn wsL_law wsX8_common := goodIn_r _ [618, 15, 515, 206, 207, 14, 208, 110, 516, 210, 211, 212, 39, 619, 245, 149, 246, 620, 621, 622, 316, 158, 159, 160, 161, 162, 247, 174, 175, 938, 939, 940, 941, 942, 943, 944, 945, 946, 947, 948, 967, 968, 969, 970, 971, 972] (by decide +kernel) (by decide +kernel)
set_option maxRecDepth 20000 in
theorem gL_law_X8_common : GoodIn wsL_law (wsV RL 76 RX8 yX8_common wsX8_common) := goodIn_app (goodIn_of _ (by decide +kernel)) ggL_law_X8_common
set_option maxRecDepth 20000 in
theorem ggL_law_X9_common : GoodIn wsL_law wsX9_common := goodIn_r _ [626, 221, 222, 223, 5, 224, 81, 184, 185, 186, 225, 226, 227, 228, 261, 262, 263, 627, 628, 629, 294, 295, 296, 949, 950, 951, 952, 953, 954, 955, 956, 957, 958, 959, 960, 961, 962, 963, 964, 965, 966] (by decide +kernel) (by decide +kernel)
set_option maxRecDepth 20000 in
theorem gL_law_X9_common : GoodIn wsL_law (wsV RL 80 RX9 yX9_common wsX9_common) := goodIn_app (goodIn_of _ (by decide +kernel)) ggL_law_X9_common
set_option maxRecDepth 20000 in
theorem ggL_law_X8_whyNot : GoodIn wsL_law wsX8_whyNot := goodIn_r _ [633, 15, 515, 206, 207, 14, 208, 110, 634, 571, 572, 573, 44, 521, 522, 523, 524, 111, 209, 210, 211, 212, 39, 248, 245, 149, 246, 276, 161, 162, 938, 939, 940, 941, 942, 943, 944, 945, 946, 947, 948, 967, 968, 969, 970, 971, 972] (by decide +kernel) (by decide +kernel)
set_option maxRecDepth 20000 in
theorem gL_law_X8_whyNot : GoodIn wsL_law (wsV RL 81 RX8 yX8_whyNot wsX8_whyNot) := goodIn_app (goodIn_of _ (by decide +kernel)) ggL_law_X8_whyNot
set_option maxRecDepth 20000 in
theorem ggL_law_X9_whyNot : GoodIn wsL_law wsX9_whyNot := goodIn_r _ [638, 81, 221, 222, 223, 5, 224, 184, 185, 186, 582, 583, 584, 585, 225, 226, 227, 228, 261, 262, 263, 949, 950, 951, 952, 953, 954, 955, 956, 957, 958, 959, 960, 961, 962, 963, 964, 965, 966] (by decide +kernel) (by decide +kernel)
set_option maxRecDepth 20000 in
theorem gL_law_X9_whyNot : GoodIn wsL_law (wsV RL 84 RX9 yX9_whyNot wsX9_whyNot) := goodIn_app (goodIn_of _ (by decide +kernel)) ggL_law_X9_whyNot
set_option maxRecDepth 20000 in
theorem ggL_law_X8_climbs : GoodIn wsL_law wsX8_climbs := goodIn_r _ [642, 33, 15, 643, 644, 645, 2, 646, 515, 206, 207, 14, 208, 110, 647, 648, 649, 32, 650, 74, 651, 121, 115, 122, 652, 567, 568, 569, 570, 571, 572, 573, 44, 521, 522, 523, 524, 111, 209, 210, 211, 212, 39, 248, 245, 149, 246, 276, 161, 162, 653, 118, 119, 654, 655, 656, 938, 939, 940, 941, 942, 943, 944, 945, 946, 947, 948, 967, 968, 969, 970, 971, 972, 987, 988, 989, 990, 991, 992, 993, 994] (by decide +kernel) (by decide +kernel)
set_option maxRecDepth 20000 in
theorem gL_law_X8_climbs : GoodIn wsL_law (wsV RL 85 RX8 yX8_climbs wsX8_climbs) := goodIn_app (goodIn_of _ (by decide +kernel)) ggL_law_X8_climbs
set_option maxRecDepth 20000 in
theorem ggL_law_X9_climbs : GoodIn wsL_law wsX9_climbs := goodIn_r _ [660, 661, 662, 663, 5, 664, 221, 222, 223, 224, 81, 184, 185, 186, 665, 666, 667, 668, 90, 669, 670, 671, 672, 582, 583, 584, 585, 225, 226, 227, 228, 261, 262, 263, 673, 674, 675, 676, 91, 949, 950, 951, 952, 953, 954, 955, 956, 957, 958, 959, 960, 961, 962, 963, 964, 965, 966] (by decide +kernel) (by decide +kernel)
set_option maxRecDepth 20000 in
theorem gL_law_X9_climbs : GoodIn wsL_law (wsV RL 88 RX9 yX9_climbs wsX9_climbs) := goodIn_app (goodIn_of _ (by decide +kernel)) ggL_law_X9_climbs
set_option maxRecDepth 20000 in
theorem ggL_law_X8_climb : GoodIn wsL_law wsX8_climb := goodIn_r _ [680, 33, 15, 643, 644, 645, 2, 646, 515, 206, 207, 14, 208, 110, 681, 682, 683, 32, 684, 74, 75, 685, 73, 686, 687, 688, 689, 653, 118, 115, 119, 652, 567, 568, 569, 570, 571, 572, 573, 44, 521, 522, 523, 524, 111, 209, 210, 211, 212, 39, 248, 245, 149, 246, 276, 161, 162, 651, 121, 122, 690, 691, 692, 693, 694, 695, 696, 697, 698, 699, 700, 701, 702, 938, 939, 940, 941, 942, 943, 944, 945, 946, 947, 948, 987, 988, 989, 990, 991, 992, 993, 994, 967, 968, 969, 970, 971, 972] (by decide +kernel) (by decide +kernel)
set_option maxRecDepth 20000 in
theorem gL_law_X8_climb : GoodIn wsL_law (wsV RL 89 RX8 yX8_climb wsX8_climb) := goodIn_app (goodIn_of _ (by decide +kernel)) ggL_law_X8_climb
set_option maxRecDepth 20000 in
theorem ggL_law_X9_climb : GoodIn wsL_law wsX9_climb := goodIn_r _ [706, 661, 662, 663, 5, 664, 221, 222, 223, 224, 81, 184, 185, 186, 707, 708, 709, 710, 91, 90, 225, 226, 227, 228, 669, 670, 671, 672, 582, 583, 584, 585, 261, 262, 263, 711, 712, 713, 714, 949, 950, 951, 952, 953, 954, 955, 956, 957, 958, 959, 960, 961, 962, 963, 964, 965, 966] (by decide +kernel) (by decide +kernel)
set_option maxRecDepth 20000 in
theorem gL_law_X9_climb : GoodIn wsL_law (wsV RL 93 RX9 yX9_climb wsX9_climb) := goodIn_app (goodIn_of _ (by decide +kernel)) ggL_law_X9_climb
