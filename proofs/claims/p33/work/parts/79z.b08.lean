set_option maxRecDepth 20000 in
theorem gb_X4_runScript_c : GoodIn wsL_law [.code yX4_runScript cX4_runScript 7 (some .int)] := goodIn_r _ [401] (by decide +kernel) (by decide +kernel)
set_option maxRecDepth 20000 in
theorem gb_X4_runScript_wsX4_runScript_r1 : GoodIn wsL_law wsX4_runScript_r1 := goodIn_r _ [91, 92, 402, 17, 16, 88, 89, 2, 90, 273, 274, 275, 15, 276, 97, 98, 99, 100, 101, 102, 35, 277, 278, 279] (by decide +kernel) (by decide +kernel)
set_option maxRecDepth 20000 in
theorem gb_X4_runScript_wsX4_runScript_r2 : GoodIn wsL_law wsX4_runScript_r2 := goodIn_r _ [280, 37, 38, 39, 40, 41, 42, 43, 44, 281, 282, 283, 46, 284, 155, 156, 157, 158, 159, 51, 285, 403, 404, 405] (by decide +kernel) (by decide +kernel)
set_option maxRecDepth 20000 in
theorem gb_X4_runScript_wsX4_runScript_r3 : GoodIn wsL_law wsX4_runScript_r3 := goodIn_r _ [406, 407, 408, 409, 410, 140, 411, 329, 330, 331, 332, 333, 334, 335, 336, 337, 338, 339, 340, 341, 148, 149, 150, 342] (by decide +kernel) (by decide +kernel)
set_option maxRecDepth 20000 in
theorem gb_X4_runScript_wsX4_runScript_r4 : GoodIn wsL_law wsX4_runScript_r4 := goodIn_r _ [343, 344, 345, 305, 112, 113, 114, 346, 347, 348, 349, 350, 351, 352, 353, 354, 355, 356, 357, 358, 359, 360, 361, 362] (by decide +kernel) (by decide +kernel)
set_option maxRecDepth 20000 in
theorem gb_X4_runScript_wsX4_runScript_r5 : GoodIn wsL_law wsX4_runScript_r5 := goodIn_r _ [363, 364, 365, 366, 367, 368, 369, 370, 371, 372, 373, 374, 375, 376, 377, 378, 379, 290, 291, 292, 293, 294, 295, 296] (by decide +kernel) (by decide +kernel)
set_option maxRecDepth 20000 in
theorem gb_X4_runScript_wsX4_runScript_r6 : GoodIn wsL_law wsX4_runScript_r6 := goodIn_r _ [297, 298, 299, 300, 253, 250, 254, 301, 302, 303, 304, 306, 307, 308, 309, 310, 311, 249, 251, 312, 313, 314, 315, 189] (by decide +kernel) (by decide +kernel)
