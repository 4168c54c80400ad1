set_option maxRecDepth 20000 in
theorem ggL_law_L_pipeOf : GoodIn wsL_law wsL_pipeOf := goodIn_ca (goodIn_ca (goodIn_r _ [608, 504, 86, 609, 610, 611, 2, 612, 21, 613, 614, 615, 616, 514, 515, 617, 618, 619, 20, 620, 313, 95, 96, 97, 98, 99, 621, 622, 623, 624, 45, 46, 47, 48, 49, 968, 969, 970, 971, 972, 973, 974, 996, 997, 998, 999, 1000, 1001, 1002, 1003, 1004, 1005, 1006, 1007, 1008, 1009, 1010] (by decide +kernel) (by decide +kernel)) (goodIn_sub (fun _ h => List.mem_append_right _ h) (by decide +kernel))) (goodIn_sub (fun _ h => List.mem_append_left _ (List.mem_append_right _ h)) (by decide +kernel))
set_option maxRecDepth 20000 in
theorem gL_law_L_pipeOf : GoodIn wsL_law (va_wsS RL 142 yL_pipeOf wsL_pipeOf) := goodIn_app (goodIn_of _ (by decide +kernel)) ggL_law_L_pipeOf
set_option maxRecDepth 20000 in
theorem ggL_law_X5_pipeOf : GoodIn wsL_law wsX5_pipeOf := goodIn_r _ [628, 72, 629, 630, 631, 5, 632, 111, 112, 113, 114, 115, 116, 117, 118, 975, 976, 977, 978, 979, 980, 981, 982, 983, 984, 985, 986, 987] (by decide +kernel) (by decide +kernel)
set_option maxRecDepth 20000 in
theorem gL_law_X5_pipeOf : GoodIn wsL_law (wsV RL 144 RX5 yX5_pipeOf wsX5_pipeOf) := goodIn_app (goodIn_of _ (by decide +kernel)) ggL_law_X5_pipeOf
set_option maxRecDepth 20000 in
theorem ggL_law_L_layers : GoodIn wsL_law wsL_layers := goodIn_ca (goodIn_ca (goodIn_r _ [635, 504, 86, 636, 637, 638, 2, 639, 21, 509, 510, 511, 512, 513, 514, 515, 516, 353, 354, 20, 355, 311, 95, 96, 97, 98, 99, 640, 473, 474, 51, 475, 476, 477, 478, 479, 427, 361, 362, 363, 56, 641, 642, 643, 644, 645, 646, 647, 648, 968, 969, 970, 971, 972, 973, 974, 996, 997, 998, 999, 1000, 1001, 1002, 1003, 1004, 1005, 1006, 1007, 1008, 1009, 1010, 1014, 1015, 1016, 1017, 1018, 1019] (by decide +kernel) (by decide +kernel)) (goodIn_sub (fun _ h => List.mem_append_right _ h) (by decide +kernel))) (goodIn_sub (fun _ h => List.mem_append_left _ (List.mem_append_right _ h)) (by decide +kernel))
set_option maxRecDepth 20000 in
theorem gL_law_L_layers : GoodIn wsL_law (va_wsS RL 145 yL_layers wsL_layers) := goodIn_app (goodIn_of _ (by decide +kernel)) ggL_law_L_layers
