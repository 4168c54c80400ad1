theorem goodIn_c1 {big a : List Cond} {c : Cond} (h1 : GoodIn big [c]) (h2 : GoodIn big a) : GoodIn big (c :: a) := goodIn_app h1 h2
set_option maxRecDepth 20000 in
theorem gg_rs_c : GoodIn wsL_runScript [.code yX4_runScript cX4_runScript 7 (some .int)] := goodIn_r _ [6] (by decide +kernel) (by decide +kernel)
set_option maxRecDepth 20000 in
theorem gg_rs_wsX4_runScript_r1 : GoodIn wsL_runScript wsX4_runScript_r1 := goodIn_r _ [7, 8, 9, 10, 11, 12, 13, 5, 14, 15, 16, 17, 18, 19, 20, 21, 22, 23, 24, 25, 26, 27, 28, 29] (by decide +kernel) (by decide +kernel)
set_option maxRecDepth 20000 in
theorem gg_rs_wsX4_runScript_r2 : GoodIn wsL_runScript wsX4_runScript_r2 := goodIn_r _ [30, 31, 32, 33, 34, 35, 36, 37, 38, 39, 40, 41, 42, 43, 44, 45, 46, 47, 48, 49, 50, 51, 52, 53] (by decide +kernel) (by decide +kernel)
set_option maxRecDepth 20000 in
theorem gg_rs_wsX4_runScript_r3 : GoodIn wsL_runScript wsX4_runScript_r3 := goodIn_r _ [54, 55, 56, 57, 58, 59, 60, 61, 62, 63, 64, 65, 66, 67, 68, 69, 70, 71, 72, 73, 74, 75, 76, 77] (by decide +kernel) (by decide +kernel)
set_option maxRecDepth 20000 in
theorem gg_rs_wsX4_runScript_r4 : GoodIn wsL_runScript wsX4_runScript_r4 := goodIn_r _ [78, 79, 80, 81, 82, 83, 84, 85, 86, 87, 88, 89, 90, 91, 92, 93, 94, 95, 96, 97, 98, 99, 100, 101] (by decide +kernel) (by decide +kernel)
set_option maxRecDepth 20000 in
theorem gg_rs_wsX4_runScript_r5 : GoodIn wsL_runScript wsX4_runScript_r5 := goodIn_r _ [102, 103, 104, 105, 106, 107, 108, 109, 110, 111, 112, 113, 114, 115, 116, 117, 118, 119, 120, 121, 122, 123, 124, 125] (by decide +kernel) (by decide +kernel)
set_option maxRecDepth 20000 in
theorem gg_rs_wsX4_runScript_r6 : GoodIn wsL_runScript wsX4_runScript_r6 := goodIn_r _ [126, 127, 128, 129, 130, 131, 132, 133, 134, 135, 136, 137, 138, 139, 140, 141, 142, 143, 144, 145, 146, 147, 148, 149] (by decide +kernel) (by decide +kernel)
set_option maxRecDepth 20000 in
theorem gg_rs_wsX4_runScript_r7 : GoodIn wsL_runScript wsX4_runScript_r7 := goodIn_r _ [150, 151, 152, 153, 154, 155, 156, 157, 158, 159, 160, 161, 162, 163, 164, 165, 166, 167, 168, 169, 170, 171, 172, 173] (by decide +kernel) (by decide +kernel)
set_option maxRecDepth 20000 in
theorem gg_rs_wsX4_runScript_r8 : GoodIn wsL_runScript wsX4_runScript_r8 := goodIn_r _ [174, 175, 176, 177, 178, 179, 180, 181, 182, 183, 184, 185, 186, 187, 188, 189] (by decide +kernel) (by decide +kernel)
set_option maxRecDepth 20000 in
theorem gg_rs_wsX40 : GoodIn wsL_runScript wsX40 := goodIn_r _ [190, 191, 192, 193, 194, 195, 196] (by decide +kernel) (by decide +kernel)
set_option maxRecDepth 20000 in
theorem gg_rs_wsX00 : GoodIn wsL_runScript wsX00 := goodIn_r _ [197, 198, 199, 200, 201, 202, 203, 204, 205, 206, 207, 208, 209, 210, 211] (by decide +kernel) (by decide +kernel)
set_option maxRecDepth 20000 in
theorem gg_rs_wsX20 : GoodIn wsL_runScript wsX20 := goodIn_r _ [212, 213, 214, 215, 216, 217] (by decide +kernel) (by decide +kernel)
set_option maxRecDepth 20000 in
theorem ggL_runScript_X4_runScript : GoodIn wsL_runScript wsX4_runScript := goodIn_ca (goodIn_c1 gg_rs_c (goodIn_app (goodIn_app (goodIn_app (goodIn_app gg_rs_wsX4_runScript_r1 (goodIn_app gg_rs_wsX4_runScript_r2 (goodIn_app gg_rs_wsX4_runScript_r3 (goodIn_app gg_rs_wsX4_runScript_r4 (goodIn_app gg_rs_wsX4_runScript_r5 (goodIn_app gg_rs_wsX4_runScript_r6 (goodIn_app gg_rs_wsX4_runScript_r7 gg_rs_wsX4_runScript_r8))))))) gg_rs_wsX40) gg_rs_wsX00) gg_rs_wsX20)) (goodIn_sub (fun _ h => List.mem_cons_of_mem _ (List.mem_append_right _ h)) (by decide +kernel))
set_option maxRecDepth 20000 in
theorem gL_runScript_X4_runScript : GoodIn wsL_runScript (wsV RL 86 RX4 yX4_runScript wsX4_runScript) := goodIn_app (goodIn_of _ (by decide +kernel)) ggL_runScript_X4_runScript
