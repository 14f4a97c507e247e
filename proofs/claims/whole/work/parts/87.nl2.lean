set_option maxRecDepth 20000 in
theorem ggL_law_X8_divide : GoodIn wsL_law wsX8_divide := goodIn_r _ [271, 21, 15, 96, 97, 98, 20, 99, 100, 101, 102, 103, 104, 105, 57, 106, 107, 108, 14, 109, 110, 111, 44, 112, 39, 43, 113, 114, 115, 116, 117, 118, 119, 120, 121, 122, 123, 124, 125, 42, 126, 127, 49, 50, 51, 128, 129, 130, 131, 132, 133, 134, 135, 136, 137, 138, 139, 140, 141, 38, 142, 272, 273, 274, 275, 205, 206, 207, 208, 209, 210, 211, 212, 276, 161, 149, 162, 277, 278, 279, 280, 281, 174, 175, 153, 154, 155, 156, 157, 158, 159, 160, 163, 164, 165, 166, 167, 168, 169, 170, 171, 172, 173, 213, 214, 215, 216, 151, 152, 176, 177, 178, 179, 938, 939, 940, 941, 942, 943, 944, 945, 946, 947, 948, 973, 974, 975, 967, 968, 969, 970, 971, 972, 995, 996, 997, 998] (by decide +kernel) (by decide +kernel)
set_option maxRecDepth 20000 in
theorem gL_law_X8_divide : GoodIn wsL_law (wsV RL 27 RX8 yX8_divide wsX8_divide) := goodIn_app (goodIn_of _ (by decide +kernel)) ggL_law_X8_divide
set_option maxRecDepth 20000 in
theorem ggL_law_X9_divide : GoodIn wsL_law wsX9_divide := goodIn_r _ [285, 286, 287, 288, 5, 289, 81, 184, 185, 186, 225, 226, 227, 228, 187, 188, 189, 190, 191, 192, 82, 290, 291, 292, 293, 294, 295, 296, 297, 298, 299, 300, 85, 301, 302, 303, 304, 229, 230, 231, 232, 949, 950, 951, 952, 953, 954, 955, 956, 957, 958, 959, 960, 961, 962, 963, 964, 965, 966] (by decide +kernel) (by decide +kernel)
set_option maxRecDepth 20000 in
theorem gL_law_X9_divide : GoodIn wsL_law (wsV RL 30 RX9 yX9_divide wsX9_divide) := goodIn_app (goodIn_of _ (by decide +kernel)) ggL_law_X9_divide
set_option maxRecDepth 20000 in
theorem ggL_law_X8_strike : GoodIn wsL_law wsX8_strike := goodIn_r _ [308, 21, 15, 96, 97, 98, 20, 99, 100, 101, 102, 103, 104, 105, 57, 106, 107, 108, 14, 109, 110, 111, 44, 112, 39, 43, 113, 114, 115, 116, 117, 118, 119, 120, 121, 122, 123, 124, 125, 42, 126, 127, 49, 50, 51, 128, 129, 130, 131, 132, 133, 134, 135, 136, 137, 138, 139, 140, 141, 38, 142, 309, 310, 311, 312, 205, 206, 207, 208, 313, 314, 149, 315, 316, 158, 159, 160, 161, 162, 209, 210, 211, 212, 276, 277, 278, 279, 280, 281, 174, 175, 153, 154, 155, 156, 157, 163, 164, 165, 166, 167, 168, 169, 170, 171, 172, 173, 213, 214, 215, 216, 151, 152, 176, 177, 178, 179, 938, 939, 940, 941, 942, 943, 944, 945, 946, 947, 948, 973, 974, 975, 967, 968, 969, 970, 971, 972, 995, 996, 997, 998] (by decide +kernel) (by decide +kernel)
set_option maxRecDepth 20000 in
theorem gL_law_X8_strike : GoodIn wsL_law (wsV RL 31 RX8 yX8_strike wsX8_strike) := goodIn_app (goodIn_of _ (by decide +kernel)) ggL_law_X8_strike
set_option maxRecDepth 20000 in
theorem ggL_law_X9_strike : GoodIn wsL_law wsX9_strike := goodIn_r _ [320, 221, 222, 223, 5, 224, 81, 184, 185, 186, 297, 298, 299, 300, 85, 225, 226, 227, 228, 187, 188, 189, 190, 191, 192, 82, 321, 322, 323, 324, 301, 302, 303, 304, 229, 230, 231, 232, 949, 950, 951, 952, 953, 954, 955, 956, 957, 958, 959, 960, 961, 962, 963, 964, 965, 966] (by decide +kernel) (by decide +kernel)
set_option maxRecDepth 20000 in
theorem gL_law_X9_strike : GoodIn wsL_law (wsV RL 34 RX9 yX9_strike wsX9_strike) := goodIn_app (goodIn_of _ (by decide +kernel)) ggL_law_X9_strike
set_option maxRecDepth 20000 in
theorem ggL_law_X8_settle : GoodIn wsL_law wsX8_settle := goodIn_r _ [328, 16, 15, 21, 329, 107, 108, 14, 109, 110, 111, 44, 112, 39, 43, 113, 114, 115, 116, 117, 118, 119, 120, 121, 122, 123, 124, 125, 42, 126, 127, 49, 50, 51, 128, 129, 130, 131, 132, 133, 134, 135, 136, 137, 138, 139, 140, 141, 38, 142, 330, 331, 332, 333, 334, 335, 336, 337, 209, 210, 211, 212, 276, 161, 149, 162, 338, 238, 239, 240, 205, 206, 207, 208, 241, 242, 243, 244, 245, 246, 247, 174, 175, 248, 152, 96, 97, 98, 20, 99, 100, 101, 102, 103, 104, 105, 57, 106, 176, 177, 178, 179, 938, 939, 940, 941, 942, 943, 944, 945, 946, 947, 948, 967, 968, 969, 970, 971, 972, 995, 996, 997, 998, 973, 974, 975] (by decide +kernel) (by decide +kernel)
set_option maxRecDepth 20000 in
theorem gL_law_X8_settle : GoodIn wsL_law (wsV RL 35 RX8 yX8_settle wsX8_settle) := goodIn_app (goodIn_of _ (by decide +kernel)) ggL_law_X8_settle
set_option maxRecDepth 20000 in
theorem ggL_law_X9_settle : GoodIn wsL_law wsX9_settle := goodIn_r _ [342, 343, 344, 345, 5, 346, 84, 81, 347, 348, 349, 350, 351, 352, 353, 354, 225, 226, 227, 228, 253, 254, 255, 256, 184, 185, 186, 257, 258, 259, 260, 261, 262, 263, 264, 265, 266, 267, 355, 356, 357, 358, 187, 188, 189, 190, 191, 192, 82, 949, 950, 951, 952, 953, 954, 955, 956, 957, 958, 959, 960, 961, 962, 963, 964, 965, 966] (by decide +kernel) (by decide +kernel)
set_option maxRecDepth 20000 in
theorem gL_law_X9_settle : GoodIn wsL_law (wsV RL 39 RX9 yX9_settle wsX9_settle) := goodIn_app (goodIn_of _ (by decide +kernel)) ggL_law_X9_settle
set_option maxRecDepth 20000 in
theorem ggL_law_X8_set : GoodIn wsL_law wsX8_set := goodIn_r _ [362, 21, 15, 96, 97, 98, 20, 99, 100, 101, 102, 103, 104, 105, 57, 106, 107, 108, 14, 109, 110, 111, 44, 112, 39, 43, 113, 114, 115, 116, 117, 118, 119, 120, 121, 122, 123, 124, 125, 42, 126, 127, 49, 50, 51, 128, 129, 130, 131, 132, 133, 134, 135, 136, 137, 138, 139, 140, 141, 38, 142, 363, 364, 365, 366, 176, 177, 178, 179, 938, 939, 940, 941, 942, 943, 944, 945, 946, 947, 948, 973, 974, 975, 967, 968, 969, 970, 971, 972, 995, 996, 997, 998] (by decide +kernel) (by decide +kernel)
set_option maxRecDepth 20000 in
theorem gL_law_X8_set : GoodIn wsL_law (wsV RL 40 RX8 yX8_set wsX8_set) := goodIn_app (goodIn_of _ (by decide +kernel)) ggL_law_X8_set
set_option maxRecDepth 20000 in
theorem ggL_law_X9_set : GoodIn wsL_law wsX9_set := goodIn_r _ [370, 81, 184, 185, 5, 186, 187, 188, 189, 190, 191, 192, 82, 949, 950, 951, 952, 953, 954, 955, 956, 957, 958, 959, 960, 961, 962, 963, 964, 965, 966] (by decide +kernel) (by decide +kernel)
set_option maxRecDepth 20000 in
theorem gL_law_X9_set : GoodIn wsL_law (wsV RL 43 RX9 yX9_set wsX9_set) := goodIn_app (goodIn_of _ (by decide +kernel)) ggL_law_X9_set
