set_option maxRecDepth 20000 in
theorem gb_X4_runScript_wsX4_runScript_r7 : GoodIn wsL_law wsX4_runScript_r7 := goodIn_r _ [163, 164, 165, 111, 103, 104, 105, 106, 107, 108, 109, 110, 380, 381, 382, 383, 384, 385, 386, 387, 388, 389, 390, 391] (by decide +kernel) (by decide +kernel)
set_option maxRecDepth 20000 in
theorem gb_X4_runScript_wsX4_runScript_r8 : GoodIn wsL_law wsX4_runScript_r8 := goodIn_r _ [392, 147, 412, 265, 413, 120, 121, 122, 123, 124, 125, 126, 201, 202, 203, 204] (by decide +kernel) (by decide +kernel)
set_option maxRecDepth 20000 in
theorem gb_X4_runScript_wsX40 : GoodIn wsL_law wsX40 := goodIn_r _ [652, 653, 654, 655, 656, 657, 658] (by decide +kernel) (by decide +kernel)
set_option maxRecDepth 20000 in
theorem gb_X4_runScript_wsX00 : GoodIn wsL_law wsX00 := goodIn_r _ [667, 668, 669, 670, 671, 672, 673, 674, 675, 676, 677, 678, 679, 680, 681] (by decide +kernel) (by decide +kernel)
set_option maxRecDepth 20000 in
theorem gb_X4_runScript_wsX20 : GoodIn wsL_law wsX20 := goodIn_r _ [685, 686, 687, 688, 689, 690] (by decide +kernel) (by decide +kernel)
set_option maxRecDepth 20000 in
theorem ggB_X4_runScript : GoodIn wsL_law wsX4_runScript := goodIn_ca (fun w h => (List.mem_cons.mp h).elim (fun e => gb_X4_runScript_c w (List.mem_cons.mpr (Or.inl e))) ((goodIn_app (goodIn_app (goodIn_app (goodIn_app gb_X4_runScript_wsX4_runScript_r1 (goodIn_app gb_X4_runScript_wsX4_runScript_r2 (goodIn_app gb_X4_runScript_wsX4_runScript_r3 (goodIn_app gb_X4_runScript_wsX4_runScript_r4 (goodIn_app gb_X4_runScript_wsX4_runScript_r5 (goodIn_app gb_X4_runScript_wsX4_runScript_r6 (goodIn_app gb_X4_runScript_wsX4_runScript_r7 gb_X4_runScript_wsX4_runScript_r8))))))) gb_X4_runScript_wsX40) gb_X4_runScript_wsX00) gb_X4_runScript_wsX20) w)) (goodIn_sub (fun _ h => List.mem_append_left _ (List.mem_append_left _ (List.mem_append_right _ h))) (by decide +kernel))
