set_option maxRecDepth 20000 in
theorem ggL_law_X8_carryOut : GoodIn wsL_law wsX8_carryOut := goodIn_r _ [481, 25, 21, 15, 482, 483, 484, 402, 403, 404, 24, 405, 406, 407, 379, 408, 409, 410, 411, 412, 413, 414, 415, 416, 417, 418, 419, 420, 421, 422, 423, 424, 425, 426, 427, 428, 63, 429, 430, 431, 432, 433, 434, 435, 436, 437, 438, 439, 440, 441, 442, 443, 96, 97, 98, 20, 99, 100, 101, 102, 103, 104, 105, 57, 106, 107, 108, 14, 109, 110, 111, 44, 112, 39, 43, 113, 114, 115, 116, 117, 118, 119, 120, 121, 122, 123, 124, 125, 42, 126, 127, 49, 50, 51, 128, 129, 130, 131, 132, 133, 134, 135, 136, 137, 138, 139, 140, 141, 38, 142, 470, 471, 485, 486, 487, 488, 338, 238, 239, 240, 205, 206, 207, 208, 209, 210, 211, 212, 241, 242, 149, 243, 244, 245, 246, 247, 174, 175, 248, 152, 489, 273, 274, 275, 276, 161, 162, 277, 278, 279, 280, 281, 153, 154, 155, 156, 157, 158, 159, 160, 163, 164, 165, 166, 167, 168, 169, 170, 171, 172, 173, 213, 214, 215, 216, 151, 490, 310, 311, 312, 313, 314, 315, 316, 472, 390, 391, 392, 393, 176, 177, 178, 179, 938, 939, 940, 941, 942, 943, 944, 945, 946, 947, 948, 976, 977, 978, 979, 980, 981, 982, 983, 984, 973, 974, 975, 967, 968, 969, 970, 971, 972, 995, 996, 997, 998] (by decide +kernel) (by decide +kernel)
set_option maxRecDepth 20000 in
theorem gL_law_X8_carryOut : GoodIn wsL_law (wsV RL 60 RX8 yX8_carryOut wsX8_carryOut) := goodIn_app (goodIn_of _ (by decide +kernel)) ggL_law_X8_carryOut
set_option maxRecDepth 20000 in
theorem ggL_law_X9_carryOut : GoodIn wsL_law wsX9_carryOut := goodIn_r _ [494, 385, 191, 495, 449, 87, 89, 477, 445, 446, 5, 447, 448, 184, 185, 186, 450, 451, 452, 453, 86, 454, 455, 456, 457, 458, 459, 460, 461, 462, 463, 464, 465, 187, 188, 189, 190, 192, 82, 81, 496, 497, 498, 499, 500, 250, 251, 252, 253, 254, 255, 256, 257, 258, 259, 260, 225, 226, 227, 228, 261, 262, 263, 264, 265, 266, 267, 501, 283, 284, 285, 286, 287, 288, 289, 290, 291, 292, 293, 294, 295, 296, 297, 298, 299, 300, 85, 301, 302, 303, 304, 229, 230, 231, 232, 502, 318, 319, 320, 221, 222, 223, 224, 321, 322, 323, 324, 949, 950, 951, 952, 953, 954, 955, 956, 957, 958, 959, 960, 961, 962, 963, 964, 965, 966] (by decide +kernel) (by decide +kernel)
set_option maxRecDepth 20000 in
theorem gL_law_X9_carryOut : GoodIn wsL_law (wsV RL 63 RX9 yX9_carryOut wsX9_carryOut) := goodIn_app (goodIn_of _ (by decide +kernel)) ggL_law_X9_carryOut
set_option maxRecDepth 20000 in
theorem ggL_law_X8_why : GoodIn wsL_law wsX8_why := goodIn_r _ [506, 482, 483, 484, 938, 939, 940, 941, 942, 943, 944, 945, 946, 947, 948] (by decide +kernel) (by decide +kernel)
set_option maxRecDepth 20000 in
theorem gL_law_X8_why : GoodIn wsL_law (wsV RL 64 RX8 yX8_why wsX8_why) := goodIn_app (goodIn_of _ (by decide +kernel)) ggL_law_X8_why
set_option maxRecDepth 20000 in
theorem ggL_law_X9_why : GoodIn wsL_law wsX9_why := goodIn_r _ [510, 495, 87, 184, 185, 5, 186, 949, 950, 951, 952, 953, 954, 955, 956, 957, 958, 959, 960, 961, 962, 963, 964, 965, 966] (by decide +kernel) (by decide +kernel)
set_option maxRecDepth 20000 in
theorem gL_law_X9_why : GoodIn wsL_law (wsV RL 67 RX9 yX9_why wsX9_why) := goodIn_app (goodIn_of _ (by decide +kernel)) ggL_law_X9_why
set_option maxRecDepth 20000 in
theorem ggL_law_X8_step : GoodIn wsL_law wsX8_step := goodIn_r _ [514, 15, 29, 515, 206, 207, 14, 208, 110, 516, 210, 211, 212, 39, 517, 518, 519, 520, 521, 522, 523, 524, 111, 209, 248, 245, 149, 246, 276, 161, 162, 525, 526, 527, 28, 528, 529, 68, 530, 121, 115, 122, 531, 532, 533, 534, 535, 536, 118, 119, 537, 538, 539, 540, 541, 137, 134, 138, 542, 543, 544, 545, 546, 547, 548, 549, 316, 158, 159, 160, 247, 174, 175, 550, 551, 552, 553, 554, 555, 556, 557, 558, 559, 560, 561, 562, 563, 564, 565, 566, 567, 568, 569, 570, 571, 572, 573, 44, 938, 939, 940, 941, 942, 943, 944, 945, 946, 947, 948, 967, 968, 969, 970, 971, 972, 985, 986] (by decide +kernel) (by decide +kernel)
set_option maxRecDepth 20000 in
theorem gL_law_X8_step : GoodIn wsL_law (wsV RL 68 RX8 yX8_step wsX8_step) := goodIn_app (goodIn_of _ (by decide +kernel)) ggL_law_X8_step
set_option maxRecDepth 20000 in
theorem ggL_law_X9_step : GoodIn wsL_law wsX9_step := goodIn_r _ [577, 88, 221, 222, 223, 5, 224, 81, 184, 185, 186, 578, 579, 580, 581, 582, 583, 584, 585, 225, 226, 227, 228, 261, 262, 263, 586, 587, 588, 589, 590, 591, 592, 593, 594, 595, 596, 294, 295, 296, 597, 598, 599, 600, 601, 602, 603, 949, 950, 951, 952, 953, 954, 955, 956, 957, 958, 959, 960, 961, 962, 963, 964, 965, 966] (by decide +kernel) (by decide +kernel)
set_option maxRecDepth 20000 in
theorem gL_law_X9_step : GoodIn wsL_law (wsV RL 71 RX9 yX9_step wsX9_step) := goodIn_app (goodIn_of _ (by decide +kernel)) ggL_law_X9_step
set_option maxRecDepth 20000 in
theorem ggL_law_X8_factor : GoodIn wsL_law wsX8_factor := goodIn_r _ [607, 15, 515, 206, 207, 14, 208, 110, 516, 210, 211, 212, 39, 608, 609, 149, 610, 316, 158, 159, 160, 161, 162, 247, 174, 175, 938, 939, 940, 941, 942, 943, 944, 945, 946, 947, 948, 967, 968, 969, 970, 971, 972] (by decide +kernel) (by decide +kernel)
set_option maxRecDepth 20000 in
theorem gL_law_X8_factor : GoodIn wsL_law (wsV RL 72 RX8 yX8_factor wsX8_factor) := goodIn_app (goodIn_of _ (by decide +kernel)) ggL_law_X8_factor
set_option maxRecDepth 20000 in
theorem ggL_law_X9_factor : GoodIn wsL_law wsX9_factor := goodIn_r _ [614, 221, 222, 223, 5, 224, 81, 184, 185, 186, 225, 226, 227, 228, 597, 598, 599, 294, 295, 296, 949, 950, 951, 952, 953, 954, 955, 956, 957, 958, 959, 960, 961, 962, 963, 964, 965, 966] (by decide +kernel) (by decide +kernel)
set_option maxRecDepth 20000 in
theorem gL_law_X9_factor : GoodIn wsL_law (wsV RL 75 RX9 yX9_factor wsX9_factor) := goodIn_app (goodIn_of _ (by decide +kernel)) ggL_law_X9_factor
