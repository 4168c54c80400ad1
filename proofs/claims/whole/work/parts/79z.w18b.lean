set_option maxRecDepth 20000 in
theorem gg_lrs_c : GoodIn wsL_law [.codeWith yL_runScript cL_runScript 6 (some .int) [(0, 11, 14, 13)]] := goodIn_r _ [866] (by decide +kernel) (by decide +kernel)
set_option maxRecDepth 20000 in
theorem gg_lrs_wsL_runScript_r1 : GoodIn wsL_law wsL_runScript_r1 := goodIn_r _ [86, 867, 868, 869, 2, 870, 98, 99, 871, 22, 21, 95, 96, 97, 307, 308, 309, 20, 310, 311, 312, 313, 314, 315] (by decide +kernel) (by decide +kernel)
set_option maxRecDepth 20000 in
theorem gg_lrs_wsL_runScript_r2 : GoodIn wsL_law wsL_runScript_r2 := goodIn_r _ [316, 40, 317, 318, 319, 320, 42, 43, 44, 45, 46, 47, 48, 49, 321, 322, 323, 51, 324, 325, 326, 327, 328, 329] (by decide +kernel) (by decide +kernel)
set_option maxRecDepth 20000 in
theorem gg_lrs_wsL_runScript_r3 : GoodIn wsL_law wsL_runScript_r3 := goodIn_r _ [56, 330, 872, 873, 874, 875, 876, 877, 878, 879, 509, 850, 340, 341, 342, 343, 344, 345, 346, 347, 348, 349, 350, 351] (by decide +kernel) (by decide +kernel)
set_option maxRecDepth 20000 in
theorem gg_lrs_wsL_runScript_r4 : GoodIn wsL_law wsL_runScript_r4 := goodIn_r _ [352, 353, 354, 355, 356, 357, 358, 359, 360, 361, 362, 363, 364, 365, 366, 367, 368, 369, 370, 371, 372, 373, 374, 375] (by decide +kernel) (by decide +kernel)
set_option maxRecDepth 20000 in
theorem gg_lrs_wsL_runScript_r5 : GoodIn wsL_law wsL_runScript_r5 := goodIn_r _ [376, 377, 378, 379, 380, 381, 382, 383, 384, 385, 386, 387, 388, 389, 390, 391, 392, 393, 394, 395, 396, 397, 398, 399] (by decide +kernel) (by decide +kernel)
set_option maxRecDepth 20000 in
theorem gg_lrs_wsL_runScript_r6 : GoodIn wsL_law wsL_runScript_r6 := goodIn_r _ [400, 401, 402, 403, 404, 405, 406, 407, 408, 174, 171, 175, 409, 410, 411, 412, 413, 414, 415, 416, 417, 418, 170, 172] (by decide +kernel) (by decide +kernel)
set_option maxRecDepth 20000 in
theorem gg_lrs_wsL_runScript_r7 : GoodIn wsL_law wsL_runScript_r7 := goodIn_r _ [419, 420, 421, 422, 423, 424, 425, 426, 427, 428, 429, 430, 431, 432, 433, 434, 435, 436, 437, 438, 439, 440, 441, 442] (by decide +kernel) (by decide +kernel)
set_option maxRecDepth 20000 in
theorem gg_lrs_wsL_runScript_r8 : GoodIn wsL_law wsL_runScript_r8 := goodIn_r _ [443, 444, 445, 446, 447, 448, 516, 823, 837, 640, 473, 474, 475, 476, 477, 478, 479, 617, 618, 619, 620] (by decide +kernel) (by decide +kernel)
set_option maxRecDepth 20000 in
theorem gg_lrs_wsX40 : GoodIn wsL_law wsX40 := goodIn_r _ [968, 969, 970, 971, 972, 973, 974] (by decide +kernel) (by decide +kernel)
set_option maxRecDepth 20000 in
theorem gg_lrs_wsX00 : GoodIn wsL_law wsX00 := goodIn_r _ [996, 997, 998, 999, 1000, 1001, 1002, 1003, 1004, 1005, 1006, 1007, 1008, 1009, 1010] (by decide +kernel) (by decide +kernel)
set_option maxRecDepth 20000 in
theorem gg_lrs_wsX20 : GoodIn wsL_law wsX20 := goodIn_r _ [1014, 1015, 1016, 1017, 1018, 1019] (by decide +kernel) (by decide +kernel)
set_option maxRecDepth 20000 in
theorem ggL_law_L_runScript : GoodIn wsL_law wsL_runScript := goodIn_ca (goodIn_c1 gg_lrs_c (goodIn_app (goodIn_app (goodIn_app (goodIn_app gg_lrs_wsL_runScript_r1 (goodIn_app gg_lrs_wsL_runScript_r2 (goodIn_app gg_lrs_wsL_runScript_r3 (goodIn_app gg_lrs_wsL_runScript_r4 (goodIn_app gg_lrs_wsL_runScript_r5 (goodIn_app gg_lrs_wsL_runScript_r6 (goodIn_app gg_lrs_wsL_runScript_r7 gg_lrs_wsL_runScript_r8))))))) gg_lrs_wsX40) gg_lrs_wsX00) gg_lrs_wsX20)) (goodIn_sub (fun _ h => List.mem_append_left _ (List.mem_append_right _ h)) (by decide +kernel))
set_option maxRecDepth 20000 in
theorem gL_law_L_runScript : GoodIn wsL_law (va_wsS RL 198 yL_runScript wsL_runScript) := goodIn_app (goodIn_of _ (by decide +kernel)) ggL_law_L_runScript
