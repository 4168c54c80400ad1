set_option maxRecDepth 20000 in
theorem ggL_law_X5_about : GoodIn wsL_law wsX5_about := goodIn_r _ [487, 488, 72, 111, 112, 5, 113, 114, 115, 116, 117, 118, 258, 259, 260, 261, 262, 263, 243, 244, 245, 246, 247, 248, 489, 490, 491, 492, 493, 494, 495, 496, 497, 498, 499, 500, 975, 976, 977, 978, 979, 980, 981, 982, 983, 984, 985, 986, 987] (by decide +kernel) (by decide +kernel)
set_option maxRecDepth 20000 in
theorem gL_law_X5_about : GoodIn wsL_law (wsV RL 127 RX5 yX5_about wsX5_about) := goodIn_app (goodIn_of _ (by decide +kernel)) ggL_law_X5_about
set_option maxRecDepth 20000 in
theorem ggL_law_L_siteOf : GoodIn wsL_law wsL_siteOf := goodIn_ca (goodIn_ca (goodIn_r _ [503, 504, 86, 505, 506, 507, 2, 508, 21, 509, 510, 511, 512, 513, 514, 515, 516, 353, 354, 20, 355, 311, 95, 96, 97, 98, 99, 517, 518, 519, 51, 520, 325, 326, 327, 328, 329, 521, 433, 434, 435, 427, 361, 362, 363, 56, 522, 473, 474, 475, 476, 477, 478, 479, 523, 424, 425, 426, 968, 969, 970, 971, 972, 973, 974, 996, 997, 998, 999, 1000, 1001, 1002, 1003, 1004, 1005, 1006, 1007, 1008, 1009, 1010, 1014, 1015, 1016, 1017, 1018, 1019] (by decide +kernel) (by decide +kernel)) (goodIn_sub (fun _ h => List.mem_append_right _ h) (by decide +kernel))) (goodIn_sub (fun _ h => List.mem_append_left _ (List.mem_append_right _ h)) (by decide +kernel))
set_option maxRecDepth 20000 in
theorem gL_law_L_siteOf : GoodIn wsL_law (va_wsS RL 128 yL_siteOf wsL_siteOf) := goodIn_app (goodIn_of _ (by decide +kernel)) ggL_law_L_siteOf
set_option maxRecDepth 20000 in
theorem ggL_law_X5_siteOf : GoodIn wsL_law wsX5_siteOf := goodIn_r _ [527, 72, 528, 284, 285, 5, 286, 111, 112, 113, 114, 115, 116, 117, 118, 261, 262, 263, 243, 244, 245, 246, 247, 248, 492, 493, 494, 495, 496, 497, 255, 256, 257, 975, 976, 977, 978, 979, 980, 981, 982, 983, 984, 985, 986, 987] (by decide +kernel) (by decide +kernel)
set_option maxRecDepth 20000 in
theorem gL_law_X5_siteOf : GoodIn wsL_law (wsV RL 131 RX5 yX5_siteOf wsX5_siteOf) := goodIn_app (goodIn_of _ (by decide +kernel)) ggL_law_X5_siteOf
