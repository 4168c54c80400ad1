theorem dL_about_16 : decode cL_about 16 = .ok (.ireturn, 1) := by decide +kernel
set_option maxRecDepth 20000 in
theorem ggL_siteOf_X4_siteOf : GoodIn wsL_siteOf wsX4_siteOf := goodIn_ca (goodIn_ca (goodIn_r _ [7, 8, 9, 10, 11, 12, 6, 13, 14, 15, 16, 17, 18, 19, 20, 21, 22, 23, 24, 25, 26, 27, 28, 29, 30, 31, 32, 33, 34, 35, 36, 37, 38, 39, 40, 41, 42, 43, 44, 45, 46, 47, 48, 49, 50, 51, 52, 53, 54, 55, 56, 57, 58, 59, 60, 61, 62, 63, 64, 65, 66, 67, 68, 69, 70, 71, 72, 73, 74, 75, 76, 77, 78, 79, 80, 81, 82, 83, 84, 85] (by decide +kernel) (by decide +kernel)) (goodIn_sub (fun _ h => List.mem_cons_of_mem _ (List.mem_append_left _ (List.mem_append_right _ h))) (by decide +kernel))) (goodIn_sub (fun _ h => List.mem_cons_of_mem _ (List.mem_append_right _ h)) (by decide +kernel))
set_option maxRecDepth 20000 in
theorem gL_siteOf_X4_siteOf : GoodIn wsL_siteOf (wsV RL 24 RX4 yX4_siteOf wsX4_siteOf) := goodIn_app (goodIn_of _ (by decide +kernel)) ggL_siteOf_X4_siteOf
theorem dL_siteOf_0 : decode cL_siteOf 0 = .ok (.aload_n 3, 1) := by decide +kernel
theorem dL_siteOf_1 : decode cL_siteOf 1 = .ok (.iconst 0, 1) := by decide +kernel
theorem dL_siteOf_2 : decode cL_siteOf 2 = .ok (.aload_n 0, 1) := by decide +kernel
theorem dL_siteOf_3 : decode cL_siteOf 3 = .ok (.iload_n 1, 1) := by decide +kernel
theorem dL_siteOf_4 : decode cL_siteOf 4 = .ok (.iload_n 2, 1) := by decide +kernel
theorem dL_siteOf_5 : decode cL_siteOf 5 = .ok (.invokevirtual 24, 3) := by decide +kernel
theorem dL_siteOf_8 : decode cL_siteOf 8 = .ok (.i2l, 1) := by decide +kernel
theorem dL_siteOf_9 : decode cL_siteOf 9 = .ok (.lastore, 1) := by decide +kernel
theorem dL_siteOf_10 : decode cL_siteOf 10 = .ok (.goto 11, 3) := by decide +kernel
theorem dL_siteOf_13 : decode cL_siteOf 13 = .ok (.astore 4, 2) := by decide +kernel
theorem dL_siteOf_15 : decode cL_siteOf 15 = .ok (.iconst 1, 1) := by decide +kernel
theorem dL_siteOf_16 : decode cL_siteOf 16 = .ok (.ireturn, 1) := by decide +kernel
theorem dL_siteOf_17 : decode cL_siteOf 17 = .ok (.astore 4, 2) := by decide +kernel
theorem dL_siteOf_19 : decode cL_siteOf 19 = .ok (.iconst 2, 1) := by decide +kernel
theorem dL_siteOf_20 : decode cL_siteOf 20 = .ok (.ireturn, 1) := by decide +kernel
theorem dL_siteOf_21 : decode cL_siteOf 21 = .ok (.iconst 0, 1) := by decide +kernel
theorem dL_siteOf_22 : decode cL_siteOf 22 = .ok (.ireturn, 1) := by decide +kernel
set_option maxRecDepth 20000 in
theorem ggL_since_X4_since : GoodIn wsL_since wsX4_since := goodIn_ca (goodIn_r _ [6, 7, 8, 9, 10, 11, 12, 5, 13, 14, 15, 16, 17, 18, 19, 20, 21, 22, 23, 24, 25, 26, 27, 28, 29, 30, 31, 32, 33, 34, 35, 36, 37, 38, 39, 40, 41, 42, 43, 44, 45, 46, 47, 48, 49, 50, 51, 52] (by decide +kernel) (by decide +kernel)) (goodIn_sub (fun _ h => List.mem_cons_of_mem _ (List.mem_append_right _ h)) (by decide +kernel))
set_option maxRecDepth 20000 in
theorem gL_since_X4_since : GoodIn wsL_since (wsV RL 30 RX4 yX4_since wsX4_since) := goodIn_app (goodIn_of _ (by decide +kernel)) ggL_since_X4_since
theorem dL_since_0 : decode cL_since 0 = .ok (.aload_n 3, 1) := by decide +kernel
theorem dL_since_1 : decode cL_since 1 = .ok (.iconst 0, 1) := by decide +kernel
theorem dL_since_2 : decode cL_since 2 = .ok (.aload_n 0, 1) := by decide +kernel
theorem dL_since_3 : decode cL_since 3 = .ok (.iload_n 1, 1) := by decide +kernel
theorem dL_since_4 : decode cL_since 4 = .ok (.iload_n 2, 1) := by decide +kernel
theorem dL_since_5 : decode cL_since 5 = .ok (.invokevirtual 30, 3) := by decide +kernel
theorem dL_since_8 : decode cL_since 8 = .ok (.i2l, 1) := by decide +kernel
theorem dL_since_9 : decode cL_since 9 = .ok (.lastore, 1) := by decide +kernel
theorem dL_since_10 : decode cL_since 10 = .ok (.goto 7, 3) := by decide +kernel
theorem dL_since_13 : decode cL_since 13 = .ok (.astore 4, 2) := by decide +kernel
theorem dL_since_15 : decode cL_since 15 = .ok (.iconst 1, 1) := by decide +kernel
theorem dL_since_16 : decode cL_since 16 = .ok (.ireturn, 1) := by decide +kernel
theorem dL_since_17 : decode cL_since 17 = .ok (.iconst 0, 1) := by decide +kernel
theorem dL_since_18 : decode cL_since 18 = .ok (.ireturn, 1) := by decide +kernel
set_option maxRecDepth 20000 in
theorem ggL_layerOf_X4_layerOf : GoodIn wsL_layerOf wsX4_layerOf := goodIn_ca (goodIn_ca (goodIn_r _ [7, 8, 9, 10, 11, 12, 13, 14, 6, 15, 16, 17, 18, 19, 20, 21, 22, 23, 24, 25, 26, 27, 28, 29, 30, 31, 32, 33, 34, 35, 36, 37, 38, 39, 40, 41, 42, 43, 44, 45, 46, 47, 48, 49, 50, 51, 52, 53, 54, 55, 56, 57, 58, 59, 60, 61, 62, 63, 64, 65, 66, 67, 68, 69, 70, 71, 72, 73, 74, 75, 76, 77, 78, 79, 80, 81, 82, 83, 84, 85, 86, 87, 88] (by decide +kernel) (by decide +kernel)) (goodIn_sub (fun _ h => List.mem_cons_of_mem _ (List.mem_append_left _ (List.mem_append_right _ h))) (by decide +kernel))) (goodIn_sub (fun _ h => List.mem_cons_of_mem _ (List.mem_append_right _ h)) (by decide +kernel))
set_option maxRecDepth 20000 in
theorem gL_layerOf_X4_layerOf : GoodIn wsL_layerOf (wsV RL 33 RX4 yX4_layerOf wsX4_layerOf) := goodIn_app (goodIn_of _ (by decide +kernel)) ggL_layerOf_X4_layerOf
theorem dL_layerOf_0 : decode cL_layerOf 0 = .ok (.aload 4, 2) := by decide +kernel
theorem dL_layerOf_2 : decode cL_layerOf 2 = .ok (.iconst 0, 1) := by decide +kernel
theorem dL_layerOf_3 : decode cL_layerOf 3 = .ok (.aload_n 0, 1) := by decide +kernel
theorem dL_layerOf_4 : decode cL_layerOf 4 = .ok (.iload_n 1, 1) := by decide +kernel
theorem dL_layerOf_5 : decode cL_layerOf 5 = .ok (.iload_n 2, 1) := by decide +kernel
theorem dL_layerOf_6 : decode cL_layerOf 6 = .ok (.iload_n 3, 1) := by decide +kernel
theorem dL_layerOf_7 : decode cL_layerOf 7 = .ok (.invokevirtual 33, 3) := by decide +kernel
theorem dL_layerOf_10 : decode cL_layerOf 10 = .ok (.i2l, 1) := by decide +kernel
theorem dL_layerOf_11 : decode cL_layerOf 11 = .ok (.lastore, 1) := by decide +kernel
theorem dL_layerOf_12 : decode cL_layerOf 12 = .ok (.goto 11, 3) := by decide +kernel
theorem dL_layerOf_15 : decode cL_layerOf 15 = .ok (.astore 5, 2) := by decide +kernel
theorem dL_layerOf_17 : decode cL_layerOf 17 = .ok (.iconst 1, 1) := by decide +kernel
theorem dL_layerOf_18 : decode cL_layerOf 18 = .ok (.ireturn, 1) := by decide +kernel
theorem dL_layerOf_19 : decode cL_layerOf 19 = .ok (.astore 5, 2) := by decide +kernel
theorem dL_layerOf_21 : decode cL_layerOf 21 = .ok (.iconst 2, 1) := by decide +kernel
theorem dL_layerOf_22 : decode cL_layerOf 22 = .ok (.ireturn, 1) := by decide +kernel
theorem dL_layerOf_23 : decode cL_layerOf 23 = .ok (.iconst 0, 1) := by decide +kernel
theorem dL_layerOf_24 : decode cL_layerOf 24 = .ok (.ireturn, 1) := by decide +kernel
set_option maxRecDepth 20000 in
theorem ggL_tubeOf_X4_tubeOf : GoodIn wsL_tubeOf wsX4_tubeOf := goodIn_ca (goodIn_ca (goodIn_r _ [7, 8, 9, 10, 11, 12, 13, 6, 14, 15, 16, 17, 18, 19, 20, 21, 22, 23, 24, 25, 26, 27, 28, 29, 30, 31, 32, 33, 34, 35, 36, 37, 38, 39, 40, 41, 42, 43, 44, 45, 46, 47, 48, 49, 50, 51, 52, 53, 54, 55, 56, 57, 58, 59, 60, 61, 62, 63, 64, 65, 66, 67, 68, 69, 70, 71, 72, 73, 74] (by decide +kernel) (by decide +kernel)) (goodIn_sub (fun _ h => List.mem_cons_of_mem _ (List.mem_append_left _ (List.mem_append_right _ h))) (by decide +kernel))) (goodIn_sub (fun _ h => List.mem_cons_of_mem _ (List.mem_append_right _ h)) (by decide +kernel))
set_option maxRecDepth 20000 in
theorem gL_tubeOf_X4_tubeOf : GoodIn wsL_tubeOf (wsV RL 37 RX4 yX4_tubeOf wsX4_tubeOf) := goodIn_app (goodIn_of _ (by decide +kernel)) ggL_tubeOf_X4_tubeOf
theorem dL_tubeOf_0 : decode cL_tubeOf 0 = .ok (.aload_n 3, 1) := by decide +kernel
theorem dL_tubeOf_1 : decode cL_tubeOf 1 = .ok (.iconst 0, 1) := by decide +kernel
theorem dL_tubeOf_2 : decode cL_tubeOf 2 = .ok (.aload_n 0, 1) := by decide +kernel
theorem dL_tubeOf_3 : decode cL_tubeOf 3 = .ok (.iload_n 1, 1) := by decide +kernel
theorem dL_tubeOf_4 : decode cL_tubeOf 4 = .ok (.iload_n 2, 1) := by decide +kernel
theorem dL_tubeOf_5 : decode cL_tubeOf 5 = .ok (.invokevirtual 37, 3) := by decide +kernel
theorem dL_tubeOf_8 : decode cL_tubeOf 8 = .ok (.i2l, 1) := by decide +kernel
theorem dL_tubeOf_9 : decode cL_tubeOf 9 = .ok (.lastore, 1) := by decide +kernel
theorem dL_tubeOf_10 : decode cL_tubeOf 10 = .ok (.goto 11, 3) := by decide +kernel
theorem dL_tubeOf_13 : decode cL_tubeOf 13 = .ok (.astore 4, 2) := by decide +kernel
theorem dL_tubeOf_15 : decode cL_tubeOf 15 = .ok (.iconst 1, 1) := by decide +kernel
theorem dL_tubeOf_16 : decode cL_tubeOf 16 = .ok (.ireturn, 1) := by decide +kernel
theorem dL_tubeOf_17 : decode cL_tubeOf 17 = .ok (.astore 4, 2) := by decide +kernel
theorem dL_tubeOf_19 : decode cL_tubeOf 19 = .ok (.iconst 2, 1) := by decide +kernel
theorem dL_tubeOf_20 : decode cL_tubeOf 20 = .ok (.ireturn, 1) := by decide +kernel
theorem dL_tubeOf_21 : decode cL_tubeOf 21 = .ok (.iconst 0, 1) := by decide +kernel
theorem dL_tubeOf_22 : decode cL_tubeOf 22 = .ok (.ireturn, 1) := by decide +kernel
set_option maxRecDepth 20000 in
theorem ggL_pipeOf_X4_pipeOf : GoodIn wsL_pipeOf wsX4_pipeOf := goodIn_ca (goodIn_ca (goodIn_r _ [7, 8, 9, 10, 11, 6, 12, 13, 14, 15, 16, 17, 18, 19, 20, 21, 22, 23, 24, 25, 26, 27, 28, 29, 30, 31, 32, 33, 34, 35, 36, 37, 38, 39, 40, 41, 42, 43, 44, 45, 46, 47, 48, 49, 50, 51, 52, 53, 54, 55, 56] (by decide +kernel) (by decide +kernel)) (goodIn_sub (fun _ h => List.mem_cons_of_mem _ (List.mem_append_left _ (List.mem_append_right _ h))) (by decide +kernel))) (goodIn_sub (fun _ h => List.mem_cons_of_mem _ (List.mem_append_right _ h)) (by decide +kernel))
set_option maxRecDepth 20000 in
theorem gL_pipeOf_X4_pipeOf : GoodIn wsL_pipeOf (wsV RL 40 RX4 yX4_pipeOf wsX4_pipeOf) := goodIn_app (goodIn_of _ (by decide +kernel)) ggL_pipeOf_X4_pipeOf
theorem dL_pipeOf_0 : decode cL_pipeOf 0 = .ok (.aload_n 3, 1) := by decide +kernel
theorem dL_pipeOf_1 : decode cL_pipeOf 1 = .ok (.iconst 0, 1) := by decide +kernel
theorem dL_pipeOf_2 : decode cL_pipeOf 2 = .ok (.aload_n 0, 1) := by decide +kernel
theorem dL_pipeOf_3 : decode cL_pipeOf 3 = .ok (.iload_n 1, 1) := by decide +kernel
theorem dL_pipeOf_4 : decode cL_pipeOf 4 = .ok (.iload_n 2, 1) := by decide +kernel
theorem dL_pipeOf_5 : decode cL_pipeOf 5 = .ok (.invokevirtual 40, 3) := by decide +kernel
theorem dL_pipeOf_8 : decode cL_pipeOf 8 = .ok (.i2l, 1) := by decide +kernel
theorem dL_pipeOf_9 : decode cL_pipeOf 9 = .ok (.lastore, 1) := by decide +kernel
theorem dL_pipeOf_10 : decode cL_pipeOf 10 = .ok (.goto 11, 3) := by decide +kernel
theorem dL_pipeOf_13 : decode cL_pipeOf 13 = .ok (.astore 4, 2) := by decide +kernel
theorem dL_pipeOf_15 : decode cL_pipeOf 15 = .ok (.iconst 1, 1) := by decide +kernel
theorem dL_pipeOf_16 : decode cL_pipeOf 16 = .ok (.ireturn, 1) := by decide +kernel
theorem dL_pipeOf_17 : decode cL_pipeOf 17 = .ok (.astore 4, 2) := by decide +kernel
theorem dL_pipeOf_19 : decode cL_pipeOf 19 = .ok (.iconst 2, 1) := by decide +kernel
theorem dL_pipeOf_20 : decode cL_pipeOf 20 = .ok (.ireturn, 1) := by decide +kernel
theorem dL_pipeOf_21 : decode cL_pipeOf 21 = .ok (.iconst 0, 1) := by decide +kernel
theorem dL_pipeOf_22 : decode cL_pipeOf 22 = .ok (.ireturn, 1) := by decide +kernel
set_option maxRecDepth 20000 in
theorem ggL_layers_X4_layers : GoodIn wsL_layers wsX4_layers := goodIn_ca (goodIn_ca (goodIn_r _ [7, 8, 9, 10, 11, 12, 6, 13, 14, 15, 16, 17, 18, 19, 20, 21, 22, 23, 24, 25, 26, 27, 28, 29, 30, 31, 32, 33, 34, 35, 36, 37, 38, 39, 40, 41, 42, 43, 44, 45, 46, 47, 48, 49, 50, 51, 52, 53, 54, 55, 56, 57, 58, 59, 60, 61, 62, 63, 64, 65, 66, 67, 68, 69, 70, 71, 72, 73, 74, 75, 76] (by decide +kernel) (by decide +kernel)) (goodIn_sub (fun _ h => List.mem_cons_of_mem _ (List.mem_append_left _ (List.mem_append_right _ h))) (by decide +kernel))) (goodIn_sub (fun _ h => List.mem_cons_of_mem _ (List.mem_append_right _ h)) (by decide +kernel))
set_option maxRecDepth 20000 in
theorem gL_layers_X4_layers : GoodIn wsL_layers (wsV RL 43 RX4 yX4_layers wsX4_layers) := goodIn_app (goodIn_of _ (by decide +kernel)) ggL_layers_X4_layers
theorem dL_layers_0 : decode cL_layers 0 = .ok (.aload_n 3, 1) := by decide +kernel
theorem dL_layers_1 : decode cL_layers 1 = .ok (.iconst 0, 1) := by decide +kernel
theorem dL_layers_2 : decode cL_layers 2 = .ok (.aload_n 0, 1) := by decide +kernel
theorem dL_layers_3 : decode cL_layers 3 = .ok (.iload_n 1, 1) := by decide +kernel
theorem dL_layers_4 : decode cL_layers 4 = .ok (.iload_n 2, 1) := by decide +kernel
theorem dL_layers_5 : decode cL_layers 5 = .ok (.invokevirtual 43, 3) := by decide +kernel
theorem dL_layers_8 : decode cL_layers 8 = .ok (.i2l, 1) := by decide +kernel
theorem dL_layers_9 : decode cL_layers 9 = .ok (.lastore, 1) := by decide +kernel
theorem dL_layers_10 : decode cL_layers 10 = .ok (.goto 11, 3) := by decide +kernel
theorem dL_layers_13 : decode cL_layers 13 = .ok (.astore 4, 2) := by decide +kernel
theorem dL_layers_15 : decode cL_layers 15 = .ok (.iconst 1, 1) := by decide +kernel
theorem dL_layers_16 : decode cL_layers 16 = .ok (.ireturn, 1) := by decide +kernel
theorem dL_layers_17 : decode cL_layers 17 = .ok (.astore 4, 2) := by decide +kernel
theorem dL_layers_19 : decode cL_layers 19 = .ok (.iconst 2, 1) := by decide +kernel
theorem dL_layers_20 : decode cL_layers 20 = .ok (.ireturn, 1) := by decide +kernel
theorem dL_layers_21 : decode cL_layers 21 = .ok (.iconst 0, 1) := by decide +kernel
theorem dL_layers_22 : decode cL_layers 22 = .ok (.ireturn, 1) := by decide +kernel
set_option maxRecDepth 20000 in
theorem ggL_oldest_X4_oldest : GoodIn wsL_oldest wsX4_oldest := goodIn_ca (goodIn_r _ [6, 7, 8, 9, 10, 11, 12, 13, 14, 15, 16, 17, 18, 19, 20, 21, 22, 23, 24, 25, 26, 27, 28, 29, 30, 31, 32, 33, 34, 35, 36, 37, 38, 39, 40, 41, 42, 43, 44, 45, 46, 47, 48, 49, 50, 51, 52, 53, 54, 55, 56, 57, 58, 59, 60, 61] (by decide +kernel) (by decide +kernel)) (goodIn_sub (fun _ h => List.mem_cons_of_mem _ (List.mem_append_right _ h)) (by decide +kernel))
set_option maxRecDepth 20000 in
theorem gL_oldest_X4_oldest : GoodIn wsL_oldest (wsV RL 46 RX4 yX4_oldest wsX4_oldest) := goodIn_app (goodIn_of _ (by decide +kernel)) ggL_oldest_X4_oldest
theorem dL_oldest_0 : decode cL_oldest 0 = .ok (.aload_n 2, 1) := by decide +kernel
theorem dL_oldest_1 : decode cL_oldest 1 = .ok (.iconst 0, 1) := by decide +kernel
theorem dL_oldest_2 : decode cL_oldest 2 = .ok (.aload_n 0, 1) := by decide +kernel
theorem dL_oldest_3 : decode cL_oldest 3 = .ok (.iload_n 1, 1) := by decide +kernel
theorem dL_oldest_4 : decode cL_oldest 4 = .ok (.invokevirtual 46, 3) := by decide +kernel
theorem dL_oldest_7 : decode cL_oldest 7 = .ok (.i2l, 1) := by decide +kernel
theorem dL_oldest_8 : decode cL_oldest 8 = .ok (.lastore, 1) := by decide +kernel
theorem dL_oldest_9 : decode cL_oldest 9 = .ok (.goto 6, 3) := by decide +kernel
theorem dL_oldest_12 : decode cL_oldest 12 = .ok (.astore_n 3, 1) := by decide +kernel
theorem dL_oldest_13 : decode cL_oldest 13 = .ok (.iconst 1, 1) := by decide +kernel
theorem dL_oldest_14 : decode cL_oldest 14 = .ok (.ireturn, 1) := by decide +kernel
theorem dL_oldest_15 : decode cL_oldest 15 = .ok (.iconst 0, 1) := by decide +kernel
theorem dL_oldest_16 : decode cL_oldest 16 = .ok (.ireturn, 1) := by decide +kernel
set_option maxRecDepth 20000 in
theorem ggL_site_X4_site : GoodIn wsL_site wsX4_site := goodIn_ca (goodIn_ca (goodIn_ca (goodIn_r _ [6, 7, 8, 9, 5, 10, 11, 12, 13, 14, 15, 16, 17, 18, 19, 20, 21, 22, 23, 24, 25, 26, 27, 28, 29, 30, 31, 32, 33, 34, 35, 36, 37, 38, 39, 40, 41, 42, 43, 44, 45, 46, 47, 48, 49, 50, 51, 52, 53, 54, 55, 56, 57, 58, 59, 60, 61, 62, 63, 64, 65, 66, 67, 68, 69, 70, 71, 72, 73, 74, 75, 76, 77, 78, 79, 80, 81, 82, 83, 84, 85, 86, 87, 88, 89, 90, 91, 92, 93, 94, 95, 96, 97, 98, 99, 100, 101, 102, 103, 104, 105, 106, 107, 108, 109, 110, 111, 112, 113, 114, 115, 116, 117, 118, 119, 120, 121, 122, 123, 124, 125, 126, 127, 128, 129, 130, 131, 132, 133, 134, 135, 136, 137, 138, 139, 140, 141, 142, 143, 144, 145, 146, 147, 148, 149, 150, 151, 152, 153, 154, 155, 156, 157, 158, 159, 160, 161, 162, 163, 164, 165, 166, 167, 168, 169, 170, 171, 172, 173, 174, 175, 176, 177, 178, 179, 180, 181, 182, 183, 184, 185, 186, 187, 188, 189, 190, 191, 192, 193, 194, 195, 196, 197, 198, 199, 200, 201, 202, 203, 204, 205, 206, 207, 208] (by decide +kernel) (by decide +kernel)) (goodIn_sub (fun _ h => List.mem_cons_of_mem _ (List.mem_append_left _ (List.mem_append_left _ (List.mem_append_right _ h)))) (by decide +kernel))) (goodIn_sub (fun _ h => List.mem_cons_of_mem _ (List.mem_append_left _ (List.mem_append_right _ h))) (by decide +kernel))) (goodIn_sub (fun _ h => List.mem_cons_of_mem _ (List.mem_append_right _ h)) (by decide +kernel))
set_option maxRecDepth 20000 in
theorem gL_site_X4_site : GoodIn wsL_site (wsV RL 49 RX4 yX4_site wsX4_site) := goodIn_app (goodIn_of _ (by decide +kernel)) ggL_site_X4_site
theorem dL_site_0 : decode cL_site 0 = .ok (.aload_n 1, 1) := by decide +kernel
theorem dL_site_1 : decode cL_site 1 = .ok (.iconst 0, 1) := by decide +kernel
theorem dL_site_2 : decode cL_site 2 = .ok (.aload_n 0, 1) := by decide +kernel
theorem dL_site_3 : decode cL_site 3 = .ok (.invokevirtual 49, 3) := by decide +kernel
theorem dL_site_6 : decode cL_site 6 = .ok (.i2l, 1) := by decide +kernel
theorem dL_site_7 : decode cL_site 7 = .ok (.lastore, 1) := by decide +kernel
theorem dL_site_8 : decode cL_site 8 = .ok (.goto 6, 3) := by decide +kernel
theorem dL_site_11 : decode cL_site 11 = .ok (.astore_n 2, 1) := by decide +kernel
theorem dL_site_12 : decode cL_site 12 = .ok (.iconst 1, 1) := by decide +kernel
theorem dL_site_13 : decode cL_site 13 = .ok (.ireturn, 1) := by decide +kernel
theorem dL_site_14 : decode cL_site 14 = .ok (.iconst 0, 1) := by decide +kernel
theorem dL_site_15 : decode cL_site 15 = .ok (.ireturn, 1) := by decide +kernel
set_option maxRecDepth 20000 in
theorem ggL_tube_X4_tube : GoodIn wsL_tube wsX4_tube := goodIn_ca (goodIn_ca (goodIn_ca (goodIn_r _ [8, 9, 10, 11, 7, 12, 13, 14, 15, 16, 17, 18, 19, 20, 21, 22, 23, 24, 25, 26, 27, 28, 29, 30, 31, 32, 33, 34, 35, 36, 37, 38, 39, 40, 41, 42, 43, 44, 45, 46, 47, 48, 49, 50, 51, 52, 53, 54, 55, 56, 57, 58, 59, 60, 61, 62, 63, 64, 65, 66, 67, 68, 69, 70, 71, 72, 73, 74, 75, 76, 77, 78, 79, 80, 81, 82, 83, 84, 85, 86, 87, 88, 89, 90, 91, 92, 93, 94, 95, 96, 97, 98, 99, 100, 101, 102, 103, 104, 105, 106, 107, 108, 109, 110, 111, 112, 113, 114, 115, 116, 117, 118, 119, 120, 121, 122, 123, 124, 125, 126, 127, 128, 129, 130, 131, 132, 133, 134, 135, 136, 137, 138, 139, 140, 141, 142, 143, 144, 145, 146, 147, 148, 149, 150, 151, 152, 153, 154, 155, 156, 157, 158, 159, 160, 161, 162, 163, 164, 165, 166, 167, 168, 169, 170, 171, 172, 173, 174, 175, 176, 177, 178, 179, 180, 181, 182, 183, 184, 185, 186, 187, 188, 189, 190, 191, 192, 193, 194, 195, 196, 197, 198, 199, 200, 201, 202, 203, 204, 205, 206, 207, 208, 209, 210] (by decide +kernel) (by decide +kernel)) (goodIn_sub (fun _ h => List.mem_cons_of_mem _ (List.mem_append_left _ (List.mem_append_left _ (List.mem_append_right _ h)))) (by decide +kernel))) (goodIn_sub (fun _ h => List.mem_cons_of_mem _ (List.mem_append_left _ (List.mem_append_right _ h))) (by decide +kernel))) (goodIn_sub (fun _ h => List.mem_cons_of_mem _ (List.mem_append_right _ h)) (by decide +kernel))
set_option maxRecDepth 20000 in
theorem gL_tube_X4_tube : GoodIn wsL_tube (wsV RL 52 RX4 yX4_tube wsX4_tube) := goodIn_app (goodIn_of _ (by decide +kernel)) ggL_tube_X4_tube
theorem dL_tube_0 : decode cL_tube 0 = .ok (.aload_n 3, 1) := by decide +kernel
theorem dL_tube_1 : decode cL_tube 1 = .ok (.iconst 0, 1) := by decide +kernel
theorem dL_tube_2 : decode cL_tube 2 = .ok (.aload_n 0, 1) := by decide +kernel
theorem dL_tube_3 : decode cL_tube 3 = .ok (.iload_n 1, 1) := by decide +kernel
theorem dL_tube_4 : decode cL_tube 4 = .ok (.iload_n 2, 1) := by decide +kernel
theorem dL_tube_5 : decode cL_tube 5 = .ok (.invokevirtual 52, 3) := by decide +kernel
theorem dL_tube_8 : decode cL_tube 8 = .ok (.i2l, 1) := by decide +kernel
theorem dL_tube_9 : decode cL_tube 9 = .ok (.lastore, 1) := by decide +kernel
theorem dL_tube_10 : decode cL_tube 10 = .ok (.goto 15, 3) := by decide +kernel
theorem dL_tube_13 : decode cL_tube 13 = .ok (.astore 4, 2) := by decide +kernel
theorem dL_tube_15 : decode cL_tube 15 = .ok (.iconst 1, 1) := by decide +kernel
theorem dL_tube_16 : decode cL_tube 16 = .ok (.ireturn, 1) := by decide +kernel
theorem dL_tube_17 : decode cL_tube 17 = .ok (.astore 4, 2) := by decide +kernel
theorem dL_tube_19 : decode cL_tube 19 = .ok (.iconst 2, 1) := by decide +kernel
theorem dL_tube_20 : decode cL_tube 20 = .ok (.ireturn, 1) := by decide +kernel
theorem dL_tube_21 : decode cL_tube 21 = .ok (.astore 4, 2) := by decide +kernel
theorem dL_tube_23 : decode cL_tube 23 = .ok (.iconst 3, 1) := by decide +kernel
theorem dL_tube_24 : decode cL_tube 24 = .ok (.ireturn, 1) := by decide +kernel
theorem dL_tube_25 : decode cL_tube 25 = .ok (.iconst 0, 1) := by decide +kernel
theorem dL_tube_26 : decode cL_tube 26 = .ok (.ireturn, 1) := by decide +kernel
set_option maxRecDepth 20000 in
theorem ggL_pipe_X4_pipe : GoodIn wsL_pipe wsX4_pipe := goodIn_ca (goodIn_ca (goodIn_ca (goodIn_r _ [7, 8, 9, 10, 6, 11, 12, 13, 14, 15, 16, 17, 18, 19, 20, 21, 22, 23, 24, 25, 26, 27, 28, 29, 30, 31, 32, 33, 34, 35, 36, 37, 38, 39, 40, 41, 42, 43, 44, 45, 46, 47, 48, 49, 50, 51, 52, 53, 54, 55, 56, 57, 58, 59, 60, 61, 62, 63, 64, 65, 66, 67, 68, 69, 70, 71, 72, 73, 74, 75, 76, 77, 78, 79, 80, 81, 82, 83, 84, 85, 86, 87, 88, 89, 90, 91, 92, 93, 94, 95, 96, 97, 98, 99, 100, 101, 102, 103, 104, 105, 106, 107, 108, 109, 110, 111, 112, 113, 114, 115, 116, 117, 118, 119, 120, 121, 122, 123, 124, 125, 126, 127, 128, 129, 130, 131, 132, 133, 134, 135, 136, 137, 138, 139, 140, 141, 142, 143, 144, 145, 146, 147, 148, 149, 150, 151, 152, 153, 154, 155, 156, 157, 158, 159, 160, 161, 162, 163, 164, 165, 166, 167, 168, 169, 170, 171, 172, 173, 174, 175, 176, 177, 178, 179, 180, 181, 182, 183, 184, 185, 186, 187, 188, 189, 190, 191, 192, 193, 194, 195, 196, 197, 198, 199, 200, 201, 202, 203, 204, 205, 206, 207, 208, 209] (by decide +kernel) (by decide +kernel)) (goodIn_sub (fun _ h => List.mem_cons_of_mem _ (List.mem_append_left _ (List.mem_append_left _ (List.mem_append_right _ h)))) (by decide +kernel))) (goodIn_sub (fun _ h => List.mem_cons_of_mem _ (List.mem_append_left _ (List.mem_append_right _ h))) (by decide +kernel))) (goodIn_sub (fun _ h => List.mem_cons_of_mem _ (List.mem_append_right _ h)) (by decide +kernel))
set_option maxRecDepth 20000 in
theorem gL_pipe_X4_pipe : GoodIn wsL_pipe (wsV RL 55 RX4 yX4_pipe wsX4_pipe) := goodIn_app (goodIn_of _ (by decide +kernel)) ggL_pipe_X4_pipe
theorem dL_pipe_0 : decode cL_pipe 0 = .ok (.aload_n 3, 1) := by decide +kernel
theorem dL_pipe_1 : decode cL_pipe 1 = .ok (.iconst 0, 1) := by decide +kernel
theorem dL_pipe_2 : decode cL_pipe 2 = .ok (.aload_n 0, 1) := by decide +kernel
theorem dL_pipe_3 : decode cL_pipe 3 = .ok (.iload_n 1, 1) := by decide +kernel
theorem dL_pipe_4 : decode cL_pipe 4 = .ok (.iload_n 2, 1) := by decide +kernel
theorem dL_pipe_5 : decode cL_pipe 5 = .ok (.invokevirtual 55, 3) := by decide +kernel
theorem dL_pipe_8 : decode cL_pipe 8 = .ok (.i2l, 1) := by decide +kernel
theorem dL_pipe_9 : decode cL_pipe 9 = .ok (.lastore, 1) := by decide +kernel
theorem dL_pipe_10 : decode cL_pipe 10 = .ok (.goto 11, 3) := by decide +kernel
theorem dL_pipe_13 : decode cL_pipe 13 = .ok (.astore 4, 2) := by decide +kernel
theorem dL_pipe_15 : decode cL_pipe 15 = .ok (.iconst 1, 1) := by decide +kernel
theorem dL_pipe_16 : decode cL_pipe 16 = .ok (.ireturn, 1) := by decide +kernel
theorem dL_pipe_17 : decode cL_pipe 17 = .ok (.astore 4, 2) := by decide +kernel
theorem dL_pipe_19 : decode cL_pipe 19 = .ok (.iconst 2, 1) := by decide +kernel
theorem dL_pipe_20 : decode cL_pipe 20 = .ok (.ireturn, 1) := by decide +kernel
theorem dL_pipe_21 : decode cL_pipe 21 = .ok (.iconst 0, 1) := by decide +kernel
theorem dL_pipe_22 : decode cL_pipe 22 = .ok (.ireturn, 1) := by decide +kernel
set_option maxRecDepth 20000 in
theorem ggL_fence_X4_fence : GoodIn wsL_fence wsX4_fence := goodIn_ca (goodIn_ca (goodIn_ca (goodIn_r _ [7, 8, 9, 10, 6, 11, 12, 13, 14, 15, 16, 17, 18, 19, 20, 21, 22, 23, 24, 25, 26, 27, 28, 29, 30, 31, 32, 33, 34, 35, 36, 37, 38, 39, 40, 41, 42, 43, 44, 45, 46, 47, 48, 49, 50, 51, 52, 53, 54, 55, 56, 57, 58, 59, 60, 61, 62, 63, 64, 65, 66, 67, 68, 69, 70, 71, 72, 73, 74, 75, 76, 77, 78, 79, 80, 81, 82, 83, 84, 85, 86, 87, 88, 89, 90, 91, 92, 93, 94, 95, 96, 97, 98, 99, 100, 101, 102, 103, 104, 105, 106, 107, 108, 109, 110, 111, 112, 113, 114, 115, 116, 117, 118, 119, 120, 121, 122, 123, 124, 125, 126, 127, 128, 129, 130, 131, 132, 133, 134, 135, 136, 137, 138, 139, 140, 141, 142, 143, 144, 145, 146, 147, 148, 149, 150, 151, 152, 153, 154, 155, 156, 157, 158, 159, 160, 161, 162, 163, 164, 165, 166, 167, 168, 169, 170, 171, 172, 173, 174, 175, 176, 177, 178, 179, 180, 181, 182, 183, 184, 185, 186, 187, 188, 189, 190, 191, 192, 193, 194, 195, 196, 197, 198, 199, 200, 201, 202, 203, 204, 205, 206, 207, 208, 209] (by decide +kernel) (by decide +kernel)) (goodIn_sub (fun _ h => List.mem_cons_of_mem _ (List.mem_append_left _ (List.mem_append_left _ (List.mem_append_right _ h)))) (by decide +kernel))) (goodIn_sub (fun _ h => List.mem_cons_of_mem _ (List.mem_append_left _ (List.mem_append_right _ h))) (by decide +kernel))) (goodIn_sub (fun _ h => List.mem_cons_of_mem _ (List.mem_append_right _ h)) (by decide +kernel))
set_option maxRecDepth 20000 in
theorem gL_fence_X4_fence : GoodIn wsL_fence (wsV RL 58 RX4 yX4_fence wsX4_fence) := goodIn_app (goodIn_of _ (by decide +kernel)) ggL_fence_X4_fence
theorem dL_fence_0 : decode cL_fence 0 = .ok (.aload_n 3, 1) := by decide +kernel
theorem dL_fence_1 : decode cL_fence 1 = .ok (.iconst 0, 1) := by decide +kernel
theorem dL_fence_2 : decode cL_fence 2 = .ok (.aload_n 0, 1) := by decide +kernel
theorem dL_fence_3 : decode cL_fence 3 = .ok (.iload_n 1, 1) := by decide +kernel
theorem dL_fence_4 : decode cL_fence 4 = .ok (.iload_n 2, 1) := by decide +kernel
theorem dL_fence_5 : decode cL_fence 5 = .ok (.invokevirtual 58, 3) := by decide +kernel
theorem dL_fence_8 : decode cL_fence 8 = .ok (.i2l, 1) := by decide +kernel
theorem dL_fence_9 : decode cL_fence 9 = .ok (.lastore, 1) := by decide +kernel
theorem dL_fence_10 : decode cL_fence 10 = .ok (.goto 11, 3) := by decide +kernel
theorem dL_fence_13 : decode cL_fence 13 = .ok (.astore 4, 2) := by decide +kernel
theorem dL_fence_15 : decode cL_fence 15 = .ok (.iconst 1, 1) := by decide +kernel
theorem dL_fence_16 : decode cL_fence 16 = .ok (.ireturn, 1) := by decide +kernel
theorem dL_fence_17 : decode cL_fence 17 = .ok (.astore 4, 2) := by decide +kernel
theorem dL_fence_19 : decode cL_fence 19 = .ok (.iconst 2, 1) := by decide +kernel
theorem dL_fence_20 : decode cL_fence 20 = .ok (.ireturn, 1) := by decide +kernel
theorem dL_fence_21 : decode cL_fence 21 = .ok (.iconst 0, 1) := by decide +kernel
theorem dL_fence_22 : decode cL_fence 22 = .ok (.ireturn, 1) := by decide +kernel
set_option maxRecDepth 20000 in
theorem ggL_shovel_X4_shovel : GoodIn wsL_shovel wsX4_shovel := goodIn_ca (goodIn_ca (goodIn_ca (goodIn_r _ [6, 7, 8, 9, 5, 10, 11, 12, 13, 14, 15, 16, 17, 18, 19, 20, 21, 22, 23, 24, 25, 26, 27, 28, 29, 30, 31, 32, 33, 34, 35, 36, 37, 38, 39, 40, 41, 42, 43, 44, 45, 46, 47, 48, 49, 50, 51, 52, 53, 54, 55, 56, 57, 58, 59, 60, 61, 62, 63, 64, 65, 66, 67, 68, 69, 70, 71, 72, 73, 74, 75, 76, 77, 78, 79, 80, 81, 82, 83, 84, 85, 86, 87, 88, 89, 90, 91, 92, 93, 94, 95, 96, 97, 98, 99, 100, 101, 102, 103, 104, 105, 106, 107, 108, 109, 110, 111, 112, 113, 114, 115, 116, 117, 118, 119, 120, 121, 122, 123, 124, 125, 126, 127, 128, 129, 130, 131, 132, 133, 134, 135, 136, 137, 138, 139, 140, 141, 142, 143, 144, 145, 146, 147, 148, 149, 150, 151, 152, 153, 154, 155, 156, 157, 158, 159, 160, 161, 162, 163, 164, 165, 166, 167, 168, 169, 170, 171, 172, 173, 174, 175, 176, 177, 178, 179, 180, 181, 182, 183, 184, 185, 186, 187, 188, 189, 190, 191, 192, 193, 194, 195, 196, 197, 198, 199, 200, 201, 202, 203, 204, 205, 206, 207, 208] (by decide +kernel) (by decide +kernel)) (goodIn_sub (fun _ h => List.mem_cons_of_mem _ (List.mem_append_left _ (List.mem_append_left _ (List.mem_append_right _ h)))) (by decide +kernel))) (goodIn_sub (fun _ h => List.mem_cons_of_mem _ (List.mem_append_left _ (List.mem_append_right _ h))) (by decide +kernel))) (goodIn_sub (fun _ h => List.mem_cons_of_mem _ (List.mem_append_right _ h)) (by decide +kernel))
set_option maxRecDepth 20000 in
theorem gL_shovel_X4_shovel : GoodIn wsL_shovel (wsV RL 61 RX4 yX4_shovel wsX4_shovel) := goodIn_app (goodIn_of _ (by decide +kernel)) ggL_shovel_X4_shovel
theorem dL_shovel_0 : decode cL_shovel 0 = .ok (.aload_n 2, 1) := by decide +kernel
theorem dL_shovel_1 : decode cL_shovel 1 = .ok (.iconst 0, 1) := by decide +kernel
theorem dL_shovel_2 : decode cL_shovel 2 = .ok (.aload_n 0, 1) := by decide +kernel
theorem dL_shovel_3 : decode cL_shovel 3 = .ok (.iload_n 1, 1) := by decide +kernel
theorem dL_shovel_4 : decode cL_shovel 4 = .ok (.invokevirtual 61, 3) := by decide +kernel
theorem dL_shovel_7 : decode cL_shovel 7 = .ok (.i2l, 1) := by decide +kernel
theorem dL_shovel_8 : decode cL_shovel 8 = .ok (.lastore, 1) := by decide +kernel
theorem dL_shovel_9 : decode cL_shovel 9 = .ok (.goto 6, 3) := by decide +kernel
theorem dL_shovel_12 : decode cL_shovel 12 = .ok (.astore_n 3, 1) := by decide +kernel
theorem dL_shovel_13 : decode cL_shovel 13 = .ok (.iconst 1, 1) := by decide +kernel
theorem dL_shovel_14 : decode cL_shovel 14 = .ok (.ireturn, 1) := by decide +kernel
theorem dL_shovel_15 : decode cL_shovel 15 = .ok (.iconst 0, 1) := by decide +kernel
theorem dL_shovel_16 : decode cL_shovel 16 = .ok (.ireturn, 1) := by decide +kernel
