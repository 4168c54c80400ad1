set_option maxRecDepth 20000 in
theorem ggL_law_X5_deepest : GoodIn wsL_law wsX5_deepest := goodIn_r _ [863, 118, 72, 261, 262, 5, 263, 243, 244, 245, 246, 247, 248, 255, 256, 257, 975, 976, 977, 978, 979, 980, 981, 982, 983, 984, 985, 986, 987] (by decide +kernel) (by decide +kernel)
set_option maxRecDepth 20000 in
theorem gL_law_X5_deepest : GoodIn wsL_law (wsV RL 195 RX5 yX5_deepest wsX5_deepest) := goodIn_app (goodIn_of _ (by decide +kernel)) ggL_law_X5_deepest
set_option maxRecDepth 20000 in
theorem ggL_law_X5_runScript : GoodIn wsL_law wsX5_runScript := goodIn_r _ [883, 579, 72, 73, 884, 111, 112, 5, 113, 885, 886, 887, 888, 114, 115, 116, 117, 118, 454, 455, 456, 889, 890, 891, 892, 893, 894, 895, 896, 897, 757, 758, 759, 271, 760, 761, 762, 763, 764, 222, 223, 224, 225, 226, 227, 228, 229, 230, 231, 232, 233, 234, 235, 236, 237, 238, 239, 240, 241, 242, 243, 244, 245, 246, 247, 248, 249, 250, 251, 252, 253, 254, 255, 256, 257, 258, 259, 260, 261, 262, 263, 898, 899, 900, 901, 734, 284, 285, 286, 274, 275, 276, 902, 903, 904, 905, 906, 907, 908, 909, 268, 269, 270, 272, 273, 544, 545, 546, 547, 492, 493, 494, 495, 496, 497, 630, 631, 632, 975, 976, 977, 978, 979, 980, 981, 982, 983, 984, 985, 986, 987] (by decide +kernel) (by decide +kernel)
set_option maxRecDepth 20000 in
theorem gL_law_X5_runScript : GoodIn wsL_law (wsV RL 201 RX5 yX5_runScript wsX5_runScript) := goodIn_app (goodIn_of _ (by decide +kernel)) ggL_law_X5_runScript
