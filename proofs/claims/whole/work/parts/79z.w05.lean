set_option maxRecDepth 20000 in
theorem ggL_law_L_since : GoodIn wsL_law wsL_since := goodIn_ca (goodIn_r _ [531, 504, 532, 533, 534, 2, 535, 21, 509, 536, 510, 511, 512, 513, 514, 515, 516, 353, 354, 20, 355, 311, 537, 538, 539, 968, 969, 970, 971, 972, 973, 974, 996, 997, 998, 999, 1000, 1001, 1002, 1003, 1004, 1005, 1006, 1007, 1008, 1009, 1010, 1014, 1015, 1016, 1017, 1018, 1019] (by decide +kernel) (by decide +kernel)) (goodIn_sub (fun _ h => List.mem_append_right _ h) (by decide +kernel))
set_option maxRecDepth 20000 in
theorem gL_law_L_since : GoodIn wsL_law (va_wsS RL 132 yL_since wsL_since) := goodIn_app (goodIn_of _ (by decide +kernel)) ggL_law_L_since
set_option maxRecDepth 20000 in
theorem ggL_law_X5_since : GoodIn wsL_law wsX5_since := goodIn_r _ [543, 72, 284, 285, 5, 286, 111, 112, 113, 544, 545, 546, 547, 114, 115, 116, 117, 118, 243, 244, 245, 246, 247, 248, 975, 976, 977, 978, 979, 980, 981, 982, 983, 984, 985, 986, 987] (by decide +kernel) (by decide +kernel)
set_option maxRecDepth 20000 in
theorem gL_law_X5_since : GoodIn wsL_law (wsV RL 134 RX5 yX5_since wsX5_since) := goodIn_app (goodIn_of _ (by decide +kernel)) ggL_law_X5_since
set_option maxRecDepth 20000 in
theorem ggL_law_L_layerOf : GoodIn wsL_law wsL_layerOf := goodIn_ca (goodIn_ca (goodIn_r _ [550, 504, 86, 551, 552, 553, 2, 554, 514, 515, 21, 509, 510, 511, 512, 513, 516, 353, 354, 20, 355, 311, 555, 556, 557, 51, 558, 476, 477, 478, 479, 427, 361, 362, 363, 56, 95, 96, 97, 98, 99, 559, 560, 561, 562, 563, 564, 565, 566, 567, 568, 569, 570, 571, 572, 573, 574, 408, 174, 171, 175, 968, 969, 970, 971, 972, 973, 974, 996, 997, 998, 999, 1000, 1001, 1002, 1003, 1004, 1005, 1006, 1007, 1008, 1009, 1010, 1014, 1015, 1016, 1017, 1018, 1019] (by decide +kernel) (by decide +kernel)) (goodIn_sub (fun _ h => List.mem_append_right _ h) (by decide +kernel))) (goodIn_sub (fun _ h => List.mem_append_left _ (List.mem_append_right _ h)) (by decide +kernel))
set_option maxRecDepth 20000 in
theorem gL_law_L_layerOf : GoodIn wsL_law (va_wsS RL 135 yL_layerOf wsL_layerOf) := goodIn_app (goodIn_of _ (by decide +kernel)) ggL_law_L_layerOf
