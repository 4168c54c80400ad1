set_option maxRecDepth 20000 in
theorem ggL_law_X5_layerOf : GoodIn wsL_law wsX5_layerOf := goodIn_r _ [578, 72, 579, 284, 285, 5, 286, 111, 112, 113, 492, 493, 494, 495, 496, 497, 243, 244, 245, 246, 247, 248, 114, 115, 116, 117, 118, 580, 581, 582, 583, 584, 585, 237, 238, 239, 975, 976, 977, 978, 979, 980, 981, 982, 983, 984, 985, 986, 987] (by decide +kernel) (by decide +kernel)
set_option maxRecDepth 20000 in
theorem gL_law_X5_layerOf : GoodIn wsL_law (wsV RL 138 RX5 yX5_layerOf wsX5_layerOf) := goodIn_app (goodIn_of _ (by decide +kernel)) ggL_law_X5_layerOf
set_option maxRecDepth 20000 in
theorem ggL_law_L_tubeOf : GoodIn wsL_law wsL_tubeOf := goodIn_ca (goodIn_ca (goodIn_r _ [588, 504, 86, 589, 590, 591, 2, 592, 514, 515, 21, 593, 95, 96, 97, 98, 99, 594, 595, 596, 20, 597, 44, 42, 43, 432, 433, 434, 51, 435, 427, 361, 362, 363, 56, 472, 473, 474, 475, 476, 477, 478, 479, 423, 424, 425, 426, 968, 969, 970, 971, 972, 973, 974, 996, 997, 998, 999, 1000, 1001, 1002, 1003, 1004, 1005, 1006, 1007, 1008, 1009, 1010, 1014, 1015, 1016, 1017, 1018, 1019] (by decide +kernel) (by decide +kernel)) (goodIn_sub (fun _ h => List.mem_append_right _ h) (by decide +kernel))) (goodIn_sub (fun _ h => List.mem_append_left _ (List.mem_append_right _ h)) (by decide +kernel))
set_option maxRecDepth 20000 in
theorem gL_law_L_tubeOf : GoodIn wsL_law (va_wsS RL 139 yL_tubeOf wsL_tubeOf) := goodIn_app (goodIn_of _ (by decide +kernel)) ggL_law_L_tubeOf
set_option maxRecDepth 20000 in
theorem ggL_law_X5_tubeOf : GoodIn wsL_law wsX5_tubeOf := goodIn_r _ [601, 72, 602, 603, 604, 5, 605, 111, 112, 113, 114, 115, 116, 117, 118, 243, 244, 245, 246, 247, 248, 495, 496, 497, 255, 256, 257, 975, 976, 977, 978, 979, 980, 981, 982, 983, 984, 985, 986, 987] (by decide +kernel) (by decide +kernel)
set_option maxRecDepth 20000 in
theorem gL_law_X5_tubeOf : GoodIn wsL_law (wsV RL 141 RX5 yX5_tubeOf wsX5_tubeOf) := goodIn_app (goodIn_of _ (by decide +kernel)) ggL_law_X5_tubeOf
