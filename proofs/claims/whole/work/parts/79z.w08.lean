set_option maxRecDepth 20000 in
theorem ggL_law_X5_layers : GoodIn wsL_law wsX5_layers := goodIn_r _ [652, 72, 284, 285, 5, 286, 111, 112, 113, 114, 115, 116, 117, 118, 492, 493, 494, 495, 496, 497, 243, 244, 245, 246, 247, 248, 653, 654, 655, 656, 657, 658, 975, 976, 977, 978, 979, 980, 981, 982, 983, 984, 985, 986, 987] (by decide +kernel) (by decide +kernel)
set_option maxRecDepth 20000 in
theorem gL_law_X5_layers : GoodIn wsL_law (wsV RL 147 RX5 yX5_layers wsX5_layers) := goodIn_app (goodIn_of _ (by decide +kernel)) ggL_law_X5_layers
set_option maxRecDepth 20000 in
theorem ggL_law_L_oldest : GoodIn wsL_law wsL_oldest := goodIn_ca (goodIn_r _ [661, 504, 662, 663, 664, 2, 665, 514, 515, 21, 666, 429, 430, 20, 431, 311, 42, 432, 433, 434, 51, 435, 427, 361, 362, 363, 56, 667, 668, 669, 670, 671, 417, 360, 968, 969, 970, 971, 972, 973, 974, 996, 997, 998, 999, 1000, 1001, 1002, 1003, 1004, 1005, 1006, 1007, 1008, 1009, 1010, 1014, 1015, 1016, 1017, 1018, 1019] (by decide +kernel) (by decide +kernel)) (goodIn_sub (fun _ h => List.mem_append_right _ h) (by decide +kernel))
set_option maxRecDepth 20000 in
theorem gL_law_L_oldest : GoodIn wsL_law (va_wsS RL 148 yL_oldest wsL_oldest) := goodIn_app (goodIn_of _ (by decide +kernel)) ggL_law_L_oldest
set_option maxRecDepth 20000 in
theorem ggL_law_X5_oldest : GoodIn wsL_law wsX5_oldest := goodIn_r _ [675, 72, 258, 259, 5, 260, 261, 262, 263, 243, 244, 245, 246, 247, 248, 111, 112, 113, 114, 115, 116, 117, 118, 975, 976, 977, 978, 979, 980, 981, 982, 983, 984, 985, 986, 987] (by decide +kernel) (by decide +kernel)
set_option maxRecDepth 20000 in
theorem gL_law_X5_oldest : GoodIn wsL_law (wsV RL 150 RX5 yX5_oldest wsX5_oldest) := goodIn_app (goodIn_of _ (by decide +kernel)) ggL_law_X5_oldest
