theorem dX4_layers_12 : decode cX4_layers 12 = .ok (.ifCond .ne 20, 3) := by decide +kernel
theorem dX4_layers_15 : decode cX4_layers 15 = .ok (.aload_n 0, 1) := by decide +kernel
theorem dX4_layers_16 : decode cX4_layers 16 = .ok (.getfield 19, 3) := by decide +kernel
theorem dX4_layers_19 : decode cX4_layers 19 = .ok (.getfield 109, 3) := by decide +kernel
theorem dX4_layers_22 : decode cX4_layers 22 = .ok (.iload_n 1, 1) := by decide +kernel
theorem dX4_layers_23 : decode cX4_layers 23 = .ok (.aaload, 1) := by decide +kernel
theorem dX4_layers_24 : decode cX4_layers 24 = .ok (.bipush 30, 2) := by decide +kernel
theorem dX4_layers_26 : decode cX4_layers 26 = .ok (.invokevirtual 149, 3) := by decide +kernel
theorem dX4_layers_29 : decode cX4_layers 29 = .ok (.goto 15, 3) := by decide +kernel
theorem dX4_layers_32 : decode cX4_layers 32 = .ok (.aload_n 0, 1) := by decide +kernel
theorem dX4_layers_33 : decode cX4_layers 33 = .ok (.getfield 19, 3) := by decide +kernel
theorem dX4_layers_36 : decode cX4_layers 36 = .ok (.getfield 109, 3) := by decide +kernel
theorem dX4_layers_39 : decode cX4_layers 39 = .ok (.iload_n 1, 1) := by decide +kernel
theorem dX4_layers_40 : decode cX4_layers 40 = .ok (.aaload, 1) := by decide +kernel
theorem dX4_layers_41 : decode cX4_layers 41 = .ok (.invokevirtual 152, 3) := by decide +kernel
theorem dX4_layers_44 : decode cX4_layers 44 = .ok (.ireturn, 1) := by decide +kernel
set_option maxRecDepth 20000 in
theorem ggX4_oldest_X0_frozenCells : GoodIn wsX4_oldest wsX0_frozenCells := goodIn_r _ [8, 9, 10, 11, 12, 13, 14, 15, 16, 17, 18, 19, 20, 35, 36, 37, 38, 39, 40, 41, 42, 43, 44, 45, 46, 47, 48, 49, 50, 51, 52, 53, 54, 55] (by decide +kernel) (by decide +kernel)
set_option maxRecDepth 20000 in
theorem gX4_oldest_X0_frozenCells : GoodIn wsX4_oldest (wsV RX4 155 RX0 yX0_frozenCells wsX0_frozenCells) := goodIn_app (goodIn_of _ (by decide +kernel)) ggX4_oldest_X0_frozenCells
set_option maxRecDepth 20000 in
theorem ggX4_oldest_X0_nextAgeKey : GoodIn wsX4_oldest wsX0_nextAgeKey := goodIn_r _ [24, 25, 9, 10, 26, 27, 17, 18, 14, 19, 20, 35, 36, 37, 38, 39, 40, 41, 42, 43, 44, 45, 46, 47, 48, 49, 50, 51, 52, 53, 54, 55] (by decide +kernel) (by decide +kernel)
set_option maxRecDepth 20000 in
theorem gX4_oldest_X0_nextAgeKey : GoodIn wsX4_oldest (wsV RX4 160 RX0 yX0_nextAgeKey wsX0_nextAgeKey) := goodIn_app (goodIn_of _ (by decide +kernel)) ggX4_oldest_X0_nextAgeKey
theorem dX4_oldest_0 : decode cX4_oldest 0 = .ok (.iload_n 1, 1) := by decide +kernel
theorem dX4_oldest_1 : decode cX4_oldest 1 = .ok (.ifCond .lt 14, 3) := by decide +kernel
theorem dX4_oldest_4 : decode cX4_oldest 4 = .ok (.iload_n 1, 1) := by decide +kernel
theorem dX4_oldest_5 : decode cX4_oldest 5 = .ok (.aload_n 0, 1) := by decide +kernel
theorem dX4_oldest_6 : decode cX4_oldest 6 = .ok (.getfield 19, 3) := by decide +kernel
theorem dX4_oldest_9 : decode cX4_oldest 9 = .ok (.invokevirtual 155, 3) := by decide +kernel
theorem dX4_oldest_12 : decode cX4_oldest 12 = .ok (.if_icmp .lt 13, 3) := by decide +kernel
theorem dX4_oldest_15 : decode cX4_oldest 15 = .ok (.new 126, 3) := by decide +kernel
theorem dX4_oldest_18 : decode cX4_oldest 18 = .ok (.dup, 1) := by decide +kernel
theorem dX4_oldest_19 : decode cX4_oldest 19 = .ok (.ldc 158, 2) := by decide +kernel
theorem dX4_oldest_21 : decode cX4_oldest 21 = .ok (.invokespecial 130, 3) := by decide +kernel
theorem dX4_oldest_24 : decode cX4_oldest 24 = .ok (.athrow, 1) := by decide +kernel
theorem dX4_oldest_25 : decode cX4_oldest 25 = .ok (.iconst (-1), 1) := by decide +kernel
theorem dX4_oldest_26 : decode cX4_oldest 26 = .ok (.istore_n 2, 1) := by decide +kernel
theorem dX4_oldest_27 : decode cX4_oldest 27 = .ok (.iconst 0, 1) := by decide +kernel
theorem dX4_oldest_28 : decode cX4_oldest 28 = .ok (.istore_n 3, 1) := by decide +kernel
theorem dX4_oldest_29 : decode cX4_oldest 29 = .ok (.iload_n 3, 1) := by decide +kernel
theorem dX4_oldest_30 : decode cX4_oldest 30 = .ok (.iload_n 1, 1) := by decide +kernel
theorem dX4_oldest_31 : decode cX4_oldest 31 = .ok (.if_icmp .gt 18, 3) := by decide +kernel
theorem dX4_oldest_34 : decode cX4_oldest 34 = .ok (.aload_n 0, 1) := by decide +kernel
theorem dX4_oldest_35 : decode cX4_oldest 35 = .ok (.getfield 19, 3) := by decide +kernel
theorem dX4_oldest_38 : decode cX4_oldest 38 = .ok (.iload_n 2, 1) := by decide +kernel
theorem dX4_oldest_39 : decode cX4_oldest 39 = .ok (.invokevirtual 160, 3) := by decide +kernel
theorem dX4_oldest_42 : decode cX4_oldest 42 = .ok (.istore_n 2, 1) := by decide +kernel
theorem dX4_oldest_43 : decode cX4_oldest 43 = .ok (.iinc 3 1, 3) := by decide +kernel
theorem dX4_oldest_46 : decode cX4_oldest 46 = .ok (.goto (-17), 3) := by decide +kernel
theorem dX4_oldest_49 : decode cX4_oldest 49 = .ok (.iload_n 2, 1) := by decide +kernel
theorem dX4_oldest_50 : decode cX4_oldest 50 = .ok (.sipush 1000, 3) := by decide +kernel
theorem dX4_oldest_53 : decode cX4_oldest 53 = .ok (.irem, 1) := by decide +kernel
theorem dX4_oldest_54 : decode cX4_oldest 54 = .ok (.ireturn, 1) := by decide +kernel
set_option maxRecDepth 20000 in
theorem ggX4_site_X4_act : GoodIn wsX4_site wsX4_act := goodIn_ca (goodIn_ca (goodIn_ca (goodIn_r _ [5, 6, 7, 8, 9, 10, 11, 12, 13, 14, 15, 16, 17, 18, 19, 20, 21, 22, 23, 24, 25, 26, 27, 28, 29, 30, 31, 32, 33, 34, 35, 36, 37, 38, 39, 40, 41, 42, 43, 44, 45, 46, 47, 48, 49, 50, 51, 52, 53, 54, 55, 56, 57, 58, 59, 60, 61, 62, 63, 64, 65, 66, 67, 68, 69, 70, 71, 72, 73, 74, 75, 76, 77, 78, 79, 80, 81, 82, 83, 84, 85, 86, 87, 88, 89, 90, 91, 92, 93, 94, 95, 96, 97, 98, 99, 100, 101, 102, 103, 104, 105, 106, 107, 108, 109, 110, 111, 112, 113, 114, 115, 116, 117, 118, 119, 120, 121, 122, 123, 124, 125, 126, 127, 128, 129, 130, 131, 132, 133, 134, 135, 136, 137, 138, 139, 140, 141, 142, 143, 144, 145, 146, 147, 148, 149, 150, 151, 152, 153, 154, 155, 156, 157, 158, 159, 160, 161, 162, 163, 164, 165, 166, 167, 168, 169, 170, 171, 172, 173, 174, 175, 176, 177, 178, 179, 180, 181, 182, 183, 184, 185, 186, 187, 188, 189, 190, 191, 192, 193, 194, 195, 196, 197, 198, 199, 200, 201, 202, 203] (by decide +kernel) (by decide +kernel)) (goodIn_sub (fun _ h => List.mem_cons_of_mem _ (List.mem_append_left _ (List.mem_append_left _ (List.mem_append_right _ h)))) (by decide +kernel))) (goodIn_sub (fun _ h => List.mem_cons_of_mem _ (List.mem_append_left _ (List.mem_append_right _ h))) (by decide +kernel))) (goodIn_sub (fun _ h => List.mem_cons_of_mem _ (List.mem_append_right _ h)) (by decide +kernel))
set_option maxRecDepth 20000 in
theorem gX4_site_X4_act : GoodIn wsX4_site (wsV RX4 163 RX4 yX4_act wsX4_act) := goodIn_app (goodIn_of _ (by decide +kernel)) ggX4_site_X4_act
theorem dX4_site_0 : decode cX4_site 0 = .ok (.aload_n 0, 1) := by decide +kernel
theorem dX4_site_1 : decode cX4_site 1 = .ok (.bipush 115, 2) := by decide +kernel
theorem dX4_site_3 : decode cX4_site 3 = .ok (.iconst 0, 1) := by decide +kernel
theorem dX4_site_4 : decode cX4_site 4 = .ok (.iconst 0, 1) := by decide +kernel
theorem dX4_site_5 : decode cX4_site 5 = .ok (.iconst 0, 1) := by decide +kernel
theorem dX4_site_6 : decode cX4_site 6 = .ok (.invokevirtual 163, 3) := by decide +kernel
theorem dX4_site_9 : decode cX4_site 9 = .ok (.ireturn, 1) := by decide +kernel
set_option maxRecDepth 20000 in
theorem ggX4_tube_X4_act : GoodIn wsX4_tube wsX4_act := goodIn_ca (goodIn_ca (goodIn_ca (goodIn_r _ [5, 6, 7, 8, 9, 10, 11, 12, 13, 14, 15, 16, 17, 18, 19, 20, 21, 22, 23, 24, 25, 26, 27, 28, 29, 30, 31, 32, 33, 34, 35, 36, 37, 38, 39, 40, 41, 42, 43, 44, 45, 46, 47, 48, 49, 50, 51, 52, 53, 54, 55, 56, 57, 58, 59, 60, 61, 62, 63, 64, 65, 66, 67, 68, 69, 70, 71, 72, 73, 74, 75, 76, 77, 78, 79, 80, 81, 82, 83, 84, 85, 86, 87, 88, 89, 90, 91, 92, 93, 94, 95, 96, 97, 98, 99, 100, 101, 102, 103, 104, 105, 106, 107, 108, 109, 110, 111, 112, 113, 114, 115, 116, 117, 118, 119, 120, 121, 122, 123, 124, 125, 126, 127, 128, 129, 130, 131, 132, 133, 134, 135, 136, 137, 138, 139, 140, 141, 142, 143, 144, 145, 146, 147, 148, 149, 150, 151, 152, 153, 154, 155, 156, 157, 158, 159, 160, 161, 162, 163, 164, 165, 166, 167, 168, 169, 170, 171, 172, 173, 174, 175, 176, 177, 178, 179, 180, 181, 182, 183, 184, 185, 186, 187, 188, 189, 190, 191, 192, 193, 194, 195, 196, 197, 198, 199, 200, 201, 202, 203] (by decide +kernel) (by decide +kernel)) (goodIn_sub (fun _ h => List.mem_cons_of_mem _ (List.mem_append_left _ (List.mem_append_left _ (List.mem_append_right _ h)))) (by decide +kernel))) (goodIn_sub (fun _ h => List.mem_cons_of_mem _ (List.mem_append_left _ (List.mem_append_right _ h))) (by decide +kernel))) (goodIn_sub (fun _ h => List.mem_cons_of_mem _ (List.mem_append_right _ h)) (by decide +kernel))
set_option maxRecDepth 20000 in
theorem gX4_tube_X4_act : GoodIn wsX4_tube (wsV RX4 163 RX4 yX4_act wsX4_act) := goodIn_app (goodIn_of _ (by decide +kernel)) ggX4_tube_X4_act
theorem dX4_tube_0 : decode cX4_tube 0 = .ok (.aload_n 0, 1) := by decide +kernel
theorem dX4_tube_1 : decode cX4_tube 1 = .ok (.bipush 116, 2) := by decide +kernel
theorem dX4_tube_3 : decode cX4_tube 3 = .ok (.iload_n 1, 1) := by decide +kernel
theorem dX4_tube_4 : decode cX4_tube 4 = .ok (.iload_n 2, 1) := by decide +kernel
theorem dX4_tube_5 : decode cX4_tube 5 = .ok (.iconst 0, 1) := by decide +kernel
theorem dX4_tube_6 : decode cX4_tube 6 = .ok (.invokevirtual 163, 3) := by decide +kernel
theorem dX4_tube_9 : decode cX4_tube 9 = .ok (.ireturn, 1) := by decide +kernel
set_option maxRecDepth 20000 in
theorem ggX4_pipe_X4_act : GoodIn wsX4_pipe wsX4_act := goodIn_ca (goodIn_ca (goodIn_ca (goodIn_r _ [5, 6, 7, 8, 9, 10, 11, 12, 13, 14, 15, 16, 17, 18, 19, 20, 21, 22, 23, 24, 25, 26, 27, 28, 29, 30, 31, 32, 33, 34, 35, 36, 37, 38, 39, 40, 41, 42, 43, 44, 45, 46, 47, 48, 49, 50, 51, 52, 53, 54, 55, 56, 57, 58, 59, 60, 61, 62, 63, 64, 65, 66, 67, 68, 69, 70, 71, 72, 73, 74, 75, 76, 77, 78, 79, 80, 81, 82, 83, 84, 85, 86, 87, 88, 89, 90, 91, 92, 93, 94, 95, 96, 97, 98, 99, 100, 101, 102, 103, 104, 105, 106, 107, 108, 109, 110, 111, 112, 113, 114, 115, 116, 117, 118, 119, 120, 121, 122, 123, 124, 125, 126, 127, 128, 129, 130, 131, 132, 133, 134, 135, 136, 137, 138, 139, 140, 141, 142, 143, 144, 145, 146, 147, 148, 149, 150, 151, 152, 153, 154, 155, 156, 157, 158, 159, 160, 161, 162, 163, 164, 165, 166, 167, 168, 169, 170, 171, 172, 173, 174, 175, 176, 177, 178, 179, 180, 181, 182, 183, 184, 185, 186, 187, 188, 189, 190, 191, 192, 193, 194, 195, 196, 197, 198, 199, 200, 201, 202, 203] (by decide +kernel) (by decide +kernel)) (goodIn_sub (fun _ h => List.mem_cons_of_mem _ (List.mem_append_left _ (List.mem_append_left _ (List.mem_append_right _ h)))) (by decide +kernel))) (goodIn_sub (fun _ h => List.mem_cons_of_mem _ (List.mem_append_left _ (List.mem_append_right _ h))) (by decide +kernel))) (goodIn_sub (fun _ h => List.mem_cons_of_mem _ (List.mem_append_right _ h)) (by decide +kernel))
set_option maxRecDepth 20000 in
theorem gX4_pipe_X4_act : GoodIn wsX4_pipe (wsV RX4 163 RX4 yX4_act wsX4_act) := goodIn_app (goodIn_of _ (by decide +kernel)) ggX4_pipe_X4_act
theorem dX4_pipe_0 : decode cX4_pipe 0 = .ok (.aload_n 0, 1) := by decide +kernel
theorem dX4_pipe_1 : decode cX4_pipe 1 = .ok (.bipush 112, 2) := by decide +kernel
theorem dX4_pipe_3 : decode cX4_pipe 3 = .ok (.iload_n 1, 1) := by decide +kernel
theorem dX4_pipe_4 : decode cX4_pipe 4 = .ok (.iload_n 2, 1) := by decide +kernel
theorem dX4_pipe_5 : decode cX4_pipe 5 = .ok (.iconst 0, 1) := by decide +kernel
theorem dX4_pipe_6 : decode cX4_pipe 6 = .ok (.invokevirtual 163, 3) := by decide +kernel
theorem dX4_pipe_9 : decode cX4_pipe 9 = .ok (.ireturn, 1) := by decide +kernel
set_option maxRecDepth 20000 in
theorem ggX4_fence_X4_act : GoodIn wsX4_fence wsX4_act := goodIn_ca (goodIn_ca (goodIn_ca (goodIn_r _ [5, 6, 7, 8, 9, 10, 11, 12, 13, 14, 15, 16, 17, 18, 19, 20, 21, 22, 23, 24, 25, 26, 27, 28, 29, 30, 31, 32, 33, 34, 35, 36, 37, 38, 39, 40, 41, 42, 43, 44, 45, 46, 47, 48, 49, 50, 51, 52, 53, 54, 55, 56, 57, 58, 59, 60, 61, 62, 63, 64, 65, 66, 67, 68, 69, 70, 71, 72, 73, 74, 75, 76, 77, 78, 79, 80, 81, 82, 83, 84, 85, 86, 87, 88, 89, 90, 91, 92, 93, 94, 95, 96, 97, 98, 99, 100, 101, 102, 103, 104, 105, 106, 107, 108, 109, 110, 111, 112, 113, 114, 115, 116, 117, 118, 119, 120, 121, 122, 123, 124, 125, 126, 127, 128, 129, 130, 131, 132, 133, 134, 135, 136, 137, 138, 139, 140, 141, 142, 143, 144, 145, 146, 147, 148, 149, 150, 151, 152, 153, 154, 155, 156, 157, 158, 159, 160, 161, 162, 163, 164, 165, 166, 167, 168, 169, 170, 171, 172, 173, 174, 175, 176, 177, 178, 179, 180, 181, 182, 183, 184, 185, 186, 187, 188, 189, 190, 191, 192, 193, 194, 195, 196, 197, 198, 199, 200, 201, 202, 203] (by decide +kernel) (by decide +kernel)) (goodIn_sub (fun _ h => List.mem_cons_of_mem _ (List.mem_append_left _ (List.mem_append_left _ (List.mem_append_right _ h)))) (by decide +kernel))) (goodIn_sub (fun _ h => List.mem_cons_of_mem _ (List.mem_append_left _ (List.mem_append_right _ h))) (by decide +kernel))) (goodIn_sub (fun _ h => List.mem_cons_of_mem _ (List.mem_append_right _ h)) (by decide +kernel))
set_option maxRecDepth 20000 in
theorem gX4_fence_X4_act : GoodIn wsX4_fence (wsV RX4 163 RX4 yX4_act wsX4_act) := goodIn_app (goodIn_of _ (by decide +kernel)) ggX4_fence_X4_act
theorem dX4_fence_0 : decode cX4_fence 0 = .ok (.aload_n 0, 1) := by decide +kernel
theorem dX4_fence_1 : decode cX4_fence 1 = .ok (.bipush 102, 2) := by decide +kernel
theorem dX4_fence_3 : decode cX4_fence 3 = .ok (.iload_n 1, 1) := by decide +kernel
theorem dX4_fence_4 : decode cX4_fence 4 = .ok (.iload_n 2, 1) := by decide +kernel
theorem dX4_fence_5 : decode cX4_fence 5 = .ok (.iconst 0, 1) := by decide +kernel
theorem dX4_fence_6 : decode cX4_fence 6 = .ok (.invokevirtual 163, 3) := by decide +kernel
theorem dX4_fence_9 : decode cX4_fence 9 = .ok (.ireturn, 1) := by decide +kernel
set_option maxRecDepth 20000 in
theorem ggX4_shovel_X4_act : GoodIn wsX4_shovel wsX4_act := goodIn_ca (goodIn_ca (goodIn_ca (goodIn_r _ [5, 6, 7, 8, 9, 10, 11, 12, 13, 14, 15, 16, 17, 18, 19, 20, 21, 22, 23, 24, 25, 26, 27, 28, 29, 30, 31, 32, 33, 34, 35, 36, 37, 38, 39, 40, 41, 42, 43, 44, 45, 46, 47, 48, 49, 50, 51, 52, 53, 54, 55, 56, 57, 58, 59, 60, 61, 62, 63, 64, 65, 66, 67, 68, 69, 70, 71, 72, 73, 74, 75, 76, 77, 78, 79, 80, 81, 82, 83, 84, 85, 86, 87, 88, 89, 90, 91, 92, 93, 94, 95, 96, 97, 98, 99, 100, 101, 102, 103, 104, 105, 106, 107, 108, 109, 110, 111, 112, 113, 114, 115, 116, 117, 118, 119, 120, 121, 122, 123, 124, 125, 126, 127, 128, 129, 130, 131, 132, 133, 134, 135, 136, 137, 138, 139, 140, 141, 142, 143, 144, 145, 146, 147, 148, 149, 150, 151, 152, 153, 154, 155, 156, 157, 158, 159, 160, 161, 162, 163, 164, 165, 166, 167, 168, 169, 170, 171, 172, 173, 174, 175, 176, 177, 178, 179, 180, 181, 182, 183, 184, 185, 186, 187, 188, 189, 190, 191, 192, 193, 194, 195, 196, 197, 198, 199, 200, 201, 202, 203] (by decide +kernel) (by decide +kernel)) (goodIn_sub (fun _ h => List.mem_cons_of_mem _ (List.mem_append_left _ (List.mem_append_left _ (List.mem_append_right _ h)))) (by decide +kernel))) (goodIn_sub (fun _ h => List.mem_cons_of_mem _ (List.mem_append_left _ (List.mem_append_right _ h))) (by decide +kernel))) (goodIn_sub (fun _ h => List.mem_cons_of_mem _ (List.mem_append_right _ h)) (by decide +kernel))
set_option maxRecDepth 20000 in
theorem gX4_shovel_X4_act : GoodIn wsX4_shovel (wsV RX4 163 RX4 yX4_act wsX4_act) := goodIn_app (goodIn_of _ (by decide +kernel)) ggX4_shovel_X4_act
theorem dX4_shovel_0 : decode cX4_shovel 0 = .ok (.aload_n 0, 1) := by decide +kernel
theorem dX4_shovel_1 : decode cX4_shovel 1 = .ok (.bipush 120, 2) := by decide +kernel
theorem dX4_shovel_3 : decode cX4_shovel 3 = .ok (.iload_n 1, 1) := by decide +kernel
theorem dX4_shovel_4 : decode cX4_shovel 4 = .ok (.iconst 0, 1) := by decide +kernel
theorem dX4_shovel_5 : decode cX4_shovel 5 = .ok (.iconst 0, 1) := by decide +kernel
theorem dX4_shovel_6 : decode cX4_shovel 6 = .ok (.invokevirtual 163, 3) := by decide +kernel
theorem dX4_shovel_9 : decode cX4_shovel 9 = .ok (.ireturn, 1) := by decide +kernel
set_option maxRecDepth 20000 in
theorem ggX4_days_X4_act : GoodIn wsX4_days wsX4_act := goodIn_ca (goodIn_ca (goodIn_ca (goodIn_r _ [5, 6, 7, 8, 9, 10, 11, 12, 13, 14, 15, 16, 17, 18, 19, 20, 21, 22, 23, 24, 25, 26, 27, 28, 29, 30, 31, 32, 33, 34, 35, 36, 37, 38, 39, 40, 41, 42, 43, 44, 45, 46, 47, 48, 49, 50, 51, 52, 53, 54, 55, 56, 57, 58, 59, 60, 61, 62, 63, 64, 65, 66, 67, 68, 69, 70, 71, 72, 73, 74, 75, 76, 77, 78, 79, 80, 81, 82, 83, 84, 85, 86, 87, 88, 89, 90, 91, 92, 93, 94, 95, 96, 97, 98, 99, 100, 101, 102, 103, 104, 105, 106, 107, 108, 109, 110, 111, 112, 113, 114, 115, 116, 117, 118, 119, 120, 121, 122, 123, 124, 125, 126, 127, 128, 129, 130, 131, 132, 133, 134, 135, 136, 137, 138, 139, 140, 141, 142, 143, 144, 145, 146, 147, 148, 149, 150, 151, 152, 153, 154, 155, 156, 157, 158, 159, 160, 161, 162, 163, 164, 165, 166, 167, 168, 169, 170, 171, 172, 173, 174, 175, 176, 177, 178, 179, 180, 181, 182, 183, 184, 185, 186, 187, 188, 189, 190, 191, 192, 193, 194, 195, 196, 197, 198, 199, 200, 201, 202, 203] (by decide +kernel) (by decide +kernel)) (goodIn_sub (fun _ h => List.mem_cons_of_mem _ (List.mem_append_left _ (List.mem_append_left _ (List.mem_append_right _ h)))) (by decide +kernel))) (goodIn_sub (fun _ h => List.mem_cons_of_mem _ (List.mem_append_left _ (List.mem_append_right _ h))) (by decide +kernel))) (goodIn_sub (fun _ h => List.mem_cons_of_mem _ (List.mem_append_right _ h)) (by decide +kernel))
set_option maxRecDepth 20000 in
theorem gX4_days_X4_act : GoodIn wsX4_days (wsV RX4 163 RX4 yX4_act wsX4_act) := goodIn_app (goodIn_of _ (by decide +kernel)) ggX4_days_X4_act
theorem dX4_days_0 : decode cX4_days 0 = .ok (.aload_n 0, 1) := by decide +kernel
theorem dX4_days_1 : decode cX4_days 1 = .ok (.bipush 100, 2) := by decide +kernel
theorem dX4_days_3 : decode cX4_days 3 = .ok (.iload_n 1, 1) := by decide +kernel
theorem dX4_days_4 : decode cX4_days 4 = .ok (.iload_n 2, 1) := by decide +kernel
theorem dX4_days_5 : decode cX4_days 5 = .ok (.iload_n 3, 1) := by decide +kernel
theorem dX4_days_6 : decode cX4_days 6 = .ok (.invokevirtual 163, 3) := by decide +kernel
theorem dX4_days_9 : decode cX4_days 9 = .ok (.ireturn, 1) := by decide +kernel
set_option maxRecDepth 20000 in
theorem ggX4_winter_X4_act : GoodIn wsX4_winter wsX4_act := goodIn_ca (goodIn_ca (goodIn_ca (goodIn_r _ [5, 6, 7, 8, 9, 10, 11, 12, 13, 14, 15, 16, 17, 18, 19, 20, 21, 22, 23, 24, 25, 26, 27, 28, 29, 30, 31, 32, 33, 34, 35, 36, 37, 38, 39, 40, 41, 42, 43, 44, 45, 46, 47, 48, 49, 50, 51, 52, 53, 54, 55, 56, 57, 58, 59, 60, 61, 62, 63, 64, 65, 66, 67, 68, 69, 70, 71, 72, 73, 74, 75, 76, 77, 78, 79, 80, 81, 82, 83, 84, 85, 86, 87, 88, 89, 90, 91, 92, 93, 94, 95, 96, 97, 98, 99, 100, 101, 102, 103, 104, 105, 106, 107, 108, 109, 110, 111, 112, 113, 114, 115, 116, 117, 118, 119, 120, 121, 122, 123, 124, 125, 126, 127, 128, 129, 130, 131, 132, 133, 134, 135, 136, 137, 138, 139, 140, 141, 142, 143, 144, 145, 146, 147, 148, 149, 150, 151, 152, 153, 154, 155, 156, 157, 158, 159, 160, 161, 162, 163, 164, 165, 166, 167, 168, 169, 170, 171, 172, 173, 174, 175, 176, 177, 178, 179, 180, 181, 182, 183, 184, 185, 186, 187, 188, 189, 190, 191, 192, 193, 194, 195, 196, 197, 198, 199, 200, 201, 202, 203] (by decide +kernel) (by decide +kernel)) (goodIn_sub (fun _ h => List.mem_cons_of_mem _ (List.mem_append_left _ (List.mem_append_left _ (List.mem_append_right _ h)))) (by decide +kernel))) (goodIn_sub (fun _ h => List.mem_cons_of_mem _ (List.mem_append_left _ (List.mem_append_right _ h))) (by decide +kernel))) (goodIn_sub (fun _ h => List.mem_cons_of_mem _ (List.mem_append_right _ h)) (by decide +kernel))
set_option maxRecDepth 20000 in
theorem gX4_winter_X4_act : GoodIn wsX4_winter (wsV RX4 163 RX4 yX4_act wsX4_act) := goodIn_app (goodIn_of _ (by decide +kernel)) ggX4_winter_X4_act
theorem dX4_winter_0 : decode cX4_winter 0 = .ok (.aload_n 0, 1) := by decide +kernel
theorem dX4_winter_1 : decode cX4_winter 1 = .ok (.bipush 119, 2) := by decide +kernel
theorem dX4_winter_3 : decode cX4_winter 3 = .ok (.iconst 0, 1) := by decide +kernel
theorem dX4_winter_4 : decode cX4_winter 4 = .ok (.iconst 0, 1) := by decide +kernel
theorem dX4_winter_5 : decode cX4_winter 5 = .ok (.iconst 0, 1) := by decide +kernel
theorem dX4_winter_6 : decode cX4_winter 6 = .ok (.invokevirtual 163, 3) := by decide +kernel
theorem dX4_winter_9 : decode cX4_winter 9 = .ok (.ireturn, 1) := by decide +kernel
set_option maxRecDepth 20000 in
theorem ggX4_set_X4_act : GoodIn wsX4_set wsX4_act := goodIn_ca (goodIn_ca (goodIn_ca (goodIn_r _ [5, 6, 7, 8, 9, 10, 11, 12, 13, 14, 15, 16, 17, 18, 19, 20, 21, 22, 23, 24, 25, 26, 27, 28, 29, 30, 31, 32, 33, 34, 35, 36, 37, 38, 39, 40, 41, 42, 43, 44, 45, 46, 47, 48, 49, 50, 51, 52, 53, 54, 55, 56, 57, 58, 59, 60, 61, 62, 63, 64, 65, 66, 67, 68, 69, 70, 71, 72, 73, 74, 75, 76, 77, 78, 79, 80, 81, 82, 83, 84, 85, 86, 87, 88, 89, 90, 91, 92, 93, 94, 95, 96, 97, 98, 99, 100, 101, 102, 103, 104, 105, 106, 107, 108, 109, 110, 111, 112, 113, 114, 115, 116, 117, 118, 119, 120, 121, 122, 123, 124, 125, 126, 127, 128, 129, 130, 131, 132, 133, 134, 135, 136, 137, 138, 139, 140, 141, 142, 143, 144, 145, 146, 147, 148, 149, 150, 151, 152, 153, 154, 155, 156, 157, 158, 159, 160, 161, 162, 163, 164, 165, 166, 167, 168, 169, 170, 171, 172, 173, 174, 175, 176, 177, 178, 179, 180, 181, 182, 183, 184, 185, 186, 187, 188, 189, 190, 191, 192, 193, 194, 195, 196, 197, 198, 199, 200, 201, 202, 203] (by decide +kernel) (by decide +kernel)) (goodIn_sub (fun _ h => List.mem_cons_of_mem _ (List.mem_append_left _ (List.mem_append_left _ (List.mem_append_right _ h)))) (by decide +kernel))) (goodIn_sub (fun _ h => List.mem_cons_of_mem _ (List.mem_append_left _ (List.mem_append_right _ h))) (by decide +kernel))) (goodIn_sub (fun _ h => List.mem_cons_of_mem _ (List.mem_append_right _ h)) (by decide +kernel))
set_option maxRecDepth 20000 in
theorem gX4_set_X4_act : GoodIn wsX4_set (wsV RX4 163 RX4 yX4_act wsX4_act) := goodIn_app (goodIn_of _ (by decide +kernel)) ggX4_set_X4_act
theorem dX4_set_0 : decode cX4_set 0 = .ok (.aload_n 0, 1) := by decide +kernel
theorem dX4_set_1 : decode cX4_set 1 = .ok (.bipush 101, 2) := by decide +kernel
theorem dX4_set_3 : decode cX4_set 3 = .ok (.iload_n 1, 1) := by decide +kernel
theorem dX4_set_4 : decode cX4_set 4 = .ok (.iload_n 2, 1) := by decide +kernel
theorem dX4_set_5 : decode cX4_set 5 = .ok (.iconst 0, 1) := by decide +kernel
theorem dX4_set_6 : decode cX4_set 6 = .ok (.invokevirtual 163, 3) := by decide +kernel
theorem dX4_set_9 : decode cX4_set 9 = .ok (.ireturn, 1) := by decide +kernel
set_option maxRecDepth 20000 in
theorem ggX4_undo_X1_takeBack : GoodIn wsX4_undo wsX1_takeBack := goodIn_r _ [10, 11, 12, 13, 14, 15, 16, 17, 18, 19, 20, 21, 22, 23, 24, 25, 26, 27, 28, 29, 30, 31, 32, 33, 34, 35, 36, 37, 38, 39, 40, 41, 42, 43, 44, 45, 46, 47, 48, 49, 57, 58, 59, 60, 61, 62, 63, 64, 65, 66, 67, 68, 69, 70, 71, 72, 73, 74, 75, 76, 77, 78, 79, 80] (by decide +kernel) (by decide +kernel)
set_option maxRecDepth 20000 in
theorem gX4_undo_X1_takeBack : GoodIn wsX4_undo (wsV RX4 171 RX1 yX1_takeBack wsX1_takeBack) := goodIn_app (goodIn_of _ (by decide +kernel)) ggX4_undo_X1_takeBack
theorem dX4_undo_0 : decode cX4_undo 0 = .ok (.aload_n 0, 1) := by decide +kernel
theorem dX4_undo_1 : decode cX4_undo 1 = .ok (.getfield 32, 3) := by decide +kernel
theorem dX4_undo_4 : decode cX4_undo 4 = .ok (.getfield 166, 3) := by decide +kernel
theorem dX4_undo_7 : decode cX4_undo 7 = .ok (.ifCond .gt 13, 3) := by decide +kernel
theorem dX4_undo_10 : decode cX4_undo 10 = .ok (.new 52, 3) := by decide +kernel
theorem dX4_undo_13 : decode cX4_undo 13 = .ok (.dup, 1) := by decide +kernel
theorem dX4_undo_14 : decode cX4_undo 14 = .ok (.ldc 169, 2) := by decide +kernel
theorem dX4_undo_16 : decode cX4_undo 16 = .ok (.invokespecial 56, 3) := by decide +kernel
theorem dX4_undo_19 : decode cX4_undo 19 = .ok (.athrow, 1) := by decide +kernel
theorem dX4_undo_20 : decode cX4_undo 20 = .ok (.aload_n 0, 1) := by decide +kernel
theorem dX4_undo_21 : decode cX4_undo 21 = .ok (.getfield 32, 3) := by decide +kernel
theorem dX4_undo_24 : decode cX4_undo 24 = .ok (.aload_n 0, 1) := by decide +kernel
theorem dX4_undo_25 : decode cX4_undo 25 = .ok (.getfield 19, 3) := by decide +kernel
theorem dX4_undo_28 : decode cX4_undo 28 = .ok (.invokevirtual 171, 3) := by decide +kernel
theorem dX4_undo_31 : decode cX4_undo 31 = .ok (.aload_n 0, 1) := by decide +kernel
theorem dX4_undo_32 : decode cX4_undo 32 = .ok (.getfield 32, 3) := by decide +kernel
theorem dX4_undo_35 : decode cX4_undo 35 = .ok (.getfield 166, 3) := by decide +kernel
theorem dX4_undo_38 : decode cX4_undo 38 = .ok (.ireturn, 1) := by decide +kernel
set_option maxRecDepth 20000 in
theorem ggX4_goneIn_X4_needSite : GoodIn wsX4_goneIn wsX4_needSite := goodIn_ca (goodIn_r _ [8, 9, 10, 2, 11, 12, 13, 14, 15, 16, 100, 101, 102, 103, 104, 105, 106, 107, 108, 109, 110, 111, 112, 113, 114, 115, 116, 117, 118, 119, 120, 121] (by decide +kernel) (by decide +kernel)) (goodIn_sub (fun _ h => List.mem_cons_of_mem _ (List.mem_append_left _ (List.mem_append_right _ h))) (by decide +kernel))
set_option maxRecDepth 20000 in
theorem gX4_goneIn_X4_needSite : GoodIn wsX4_goneIn (wsV RX4 106 RX4 yX4_needSite wsX4_needSite) := goodIn_app (goodIn_of _ (by decide +kernel)) ggX4_goneIn_X4_needSite
set_option maxRecDepth 20000 in
theorem ggX4_goneIn_X4_needRange : GoodIn wsX4_goneIn wsX4_needRange := goodIn_ca (goodIn_r _ [19, 20, 21] (by decide +kernel) (by decide +kernel)) (goodIn_sub (fun _ h => List.mem_cons_of_mem _ (List.mem_append_right _ h)) (by decide +kernel))
set_option maxRecDepth 20000 in
theorem gX4_goneIn_X4_needRange : GoodIn wsX4_goneIn (va_wsS RX4 44 yX4_needRange wsX4_needRange) := goodIn_app (goodIn_of _ (by decide +kernel)) ggX4_goneIn_X4_needRange
set_option maxRecDepth 20000 in
theorem ggX4_goneIn_X0_copyFrom : GoodIn wsX4_goneIn wsX0_copyFrom := goodIn_r _ [25, 16, 26, 27, 28, 29, 30, 31, 32, 33, 34, 35, 36, 37, 38, 39, 40, 41, 42, 43, 44, 45, 46, 47, 48, 49, 50, 51, 52, 53, 54, 55, 107, 108, 109, 110, 111, 112, 113, 114, 115, 116, 117, 118, 119, 120, 121, 122, 123, 124, 125, 126, 127] (by decide +kernel) (by decide +kernel)
set_option maxRecDepth 20000 in
theorem gX4_goneIn_X0_copyFrom : GoodIn wsX4_goneIn (wsV RX4 69 RX0 yX0_copyFrom wsX0_copyFrom) := goodIn_app (goodIn_of _ (by decide +kernel)) ggX4_goneIn_X0_copyFrom
set_option maxRecDepth 20000 in
theorem ggX4_goneIn_X2_lowestWithin : GoodIn wsX4_goneIn wsX2_lowestWithin := goodIn_r _ [59, 60, 61, 62, 47, 63, 54, 122, 123, 124, 125, 126, 127] (by decide +kernel) (by decide +kernel)
set_option maxRecDepth 20000 in
theorem gX4_goneIn_X2_lowestWithin : GoodIn wsX4_goneIn (wsV RX4 174 RX2 yX2_lowestWithin wsX2_lowestWithin) := goodIn_app (goodIn_of _ (by decide +kernel)) ggX4_goneIn_X2_lowestWithin
set_option maxRecDepth 20000 in
theorem ggX4_goneIn_X0_passDaysAt : GoodIn wsX4_goneIn wsX0_passDaysAt := goodIn_r _ [67, 28, 68, 69, 70, 14, 71, 36, 31, 72, 73, 74, 75, 76, 47, 77, 49, 50, 78, 79, 80, 81, 82, 83, 84, 85, 52, 51, 53, 86, 61, 62, 63, 54, 87, 88, 89, 90, 91, 27, 39, 40, 41, 42, 92, 93, 94, 43, 95, 96, 97, 98, 99, 57, 58, 59, 60, 107, 108, 109, 110, 111, 112, 113, 114, 115, 116, 117, 118, 119, 120, 121, 122, 123, 124, 125, 126, 127] (by decide +kernel) (by decide +kernel)
set_option maxRecDepth 20000 in
theorem gX4_goneIn_X0_passDaysAt : GoodIn wsX4_goneIn (wsV RX4 177 RX0 yX0_passDaysAt wsX0_passDaysAt) := goodIn_app (goodIn_of _ (by decide +kernel)) ggX4_goneIn_X0_passDaysAt
theorem dX4_goneIn_0 : decode cX4_goneIn 0 = .ok (.aload_n 0, 1) := by decide +kernel
theorem dX4_goneIn_1 : decode cX4_goneIn 1 = .ok (.iload_n 1, 1) := by decide +kernel
theorem dX4_goneIn_2 : decode cX4_goneIn 2 = .ok (.invokevirtual 106, 3) := by decide +kernel
theorem dX4_goneIn_5 : decode cX4_goneIn 5 = .ok (.iload_n 2, 1) := by decide +kernel
theorem dX4_goneIn_6 : decode cX4_goneIn 6 = .ok (.iconst 1, 1) := by decide +kernel
theorem dX4_goneIn_7 : decode cX4_goneIn 7 = .ok (.bipush 30, 2) := by decide +kernel
theorem dX4_goneIn_9 : decode cX4_goneIn 9 = .ok (.invokestatic 44, 3) := by decide +kernel
theorem dX4_goneIn_12 : decode cX4_goneIn 12 = .ok (.aload_n 0, 1) := by decide +kernel
theorem dX4_goneIn_13 : decode cX4_goneIn 13 = .ok (.getfield 23, 3) := by decide +kernel
theorem dX4_goneIn_16 : decode cX4_goneIn 16 = .ok (.aload_n 0, 1) := by decide +kernel
theorem dX4_goneIn_17 : decode cX4_goneIn 17 = .ok (.getfield 19, 3) := by decide +kernel
theorem dX4_goneIn_20 : decode cX4_goneIn 20 = .ok (.invokevirtual 69, 3) := by decide +kernel
theorem dX4_goneIn_23 : decode cX4_goneIn 23 = .ok (.aload_n 0, 1) := by decide +kernel
theorem dX4_goneIn_24 : decode cX4_goneIn 24 = .ok (.getfield 23, 3) := by decide +kernel
theorem dX4_goneIn_27 : decode cX4_goneIn 27 = .ok (.getfield 109, 3) := by decide +kernel
theorem dX4_goneIn_30 : decode cX4_goneIn 30 = .ok (.iload_n 1, 1) := by decide +kernel
theorem dX4_goneIn_31 : decode cX4_goneIn 31 = .ok (.aaload, 1) := by decide +kernel
theorem dX4_goneIn_32 : decode cX4_goneIn 32 = .ok (.astore_n 3, 1) := by decide +kernel
theorem dX4_goneIn_33 : decode cX4_goneIn 33 = .ok (.iconst 0, 1) := by decide +kernel
theorem dX4_goneIn_34 : decode cX4_goneIn 34 = .ok (.istore 4, 2) := by decide +kernel
theorem dX4_goneIn_36 : decode cX4_goneIn 36 = .ok (.iload 4, 2) := by decide +kernel
theorem dX4_goneIn_38 : decode cX4_goneIn 38 = .ok (.sipush 400, 3) := by decide +kernel
theorem dX4_goneIn_41 : decode cX4_goneIn 41 = .ok (.if_icmp .gt 33, 3) := by decide +kernel
theorem dX4_goneIn_44 : decode cX4_goneIn 44 = .ok (.aload_n 3, 1) := by decide +kernel
theorem dX4_goneIn_45 : decode cX4_goneIn 45 = .ok (.bipush 30, 2) := by decide +kernel
theorem dX4_goneIn_47 : decode cX4_goneIn 47 = .ok (.invokevirtual 174, 3) := by decide +kernel
theorem dX4_goneIn_50 : decode cX4_goneIn 50 = .ok (.iconst (-1), 1) := by decide +kernel
theorem dX4_goneIn_51 : decode cX4_goneIn 51 = .ok (.if_icmp .ne 6, 3) := by decide +kernel
theorem dX4_goneIn_54 : decode cX4_goneIn 54 = .ok (.iload 4, 2) := by decide +kernel
theorem dX4_goneIn_56 : decode cX4_goneIn 56 = .ok (.ireturn, 1) := by decide +kernel
theorem dX4_goneIn_57 : decode cX4_goneIn 57 = .ok (.aload_n 0, 1) := by decide +kernel
theorem dX4_goneIn_58 : decode cX4_goneIn 58 = .ok (.getfield 23, 3) := by decide +kernel
theorem dX4_goneIn_61 : decode cX4_goneIn 61 = .ok (.iload_n 1, 1) := by decide +kernel
theorem dX4_goneIn_62 : decode cX4_goneIn 62 = .ok (.iload_n 2, 1) := by decide +kernel
theorem dX4_goneIn_63 : decode cX4_goneIn 63 = .ok (.iconst 0, 1) := by decide +kernel
theorem dX4_goneIn_64 : decode cX4_goneIn 64 = .ok (.iconst 1, 1) := by decide +kernel
theorem dX4_goneIn_65 : decode cX4_goneIn 65 = .ok (.invokevirtual 177, 3) := by decide +kernel
theorem dX4_goneIn_68 : decode cX4_goneIn 68 = .ok (.iinc 4 1, 3) := by decide +kernel
theorem dX4_goneIn_71 : decode cX4_goneIn 71 = .ok (.goto (-35), 3) := by decide +kernel
theorem dX4_goneIn_74 : decode cX4_goneIn 74 = .ok (.iconst (-1), 1) := by decide +kernel
theorem dX4_goneIn_75 : decode cX4_goneIn 75 = .ok (.ireturn, 1) := by decide +kernel
set_option maxRecDepth 20000 in
theorem ggX4_reachedIn_X4_needSite : GoodIn wsX4_reachedIn wsX4_needSite := goodIn_ca (goodIn_r _ [8, 9, 10, 2, 11, 12, 13, 14, 15, 16, 103, 104, 105, 106, 107, 108, 109, 110, 111, 112, 113, 114, 115, 116, 117, 118, 119, 120, 121, 122, 123, 124] (by decide +kernel) (by decide +kernel)) (goodIn_sub (fun _ h => List.mem_cons_of_mem _ (List.mem_append_left _ (List.mem_append_right _ h))) (by decide +kernel))
set_option maxRecDepth 20000 in
theorem gX4_reachedIn_X4_needSite : GoodIn wsX4_reachedIn (wsV RX4 106 RX4 yX4_needSite wsX4_needSite) := goodIn_app (goodIn_of _ (by decide +kernel)) ggX4_reachedIn_X4_needSite
set_option maxRecDepth 20000 in
theorem ggX4_reachedIn_X4_needCell : GoodIn wsX4_reachedIn wsX4_needCell := goodIn_ca (goodIn_r _ [19, 9, 10] (by decide +kernel) (by decide +kernel)) (goodIn_sub (fun _ h => List.mem_cons_of_mem _ (List.mem_append_left _ (List.mem_append_right _ h))) (by decide +kernel))
set_option maxRecDepth 20000 in
theorem gX4_reachedIn_X4_needCell : GoodIn wsX4_reachedIn (va_wsS RX4 116 yX4_needCell wsX4_needCell) := goodIn_app (goodIn_of _ (by decide +kernel)) ggX4_reachedIn_X4_needCell
set_option maxRecDepth 20000 in
theorem ggX4_reachedIn_X4_needRange : GoodIn wsX4_reachedIn wsX4_needRange := goodIn_ca (goodIn_r _ [22, 23, 24] (by decide +kernel) (by decide +kernel)) (goodIn_sub (fun _ h => List.mem_cons_of_mem _ (List.mem_append_right _ h)) (by decide +kernel))
set_option maxRecDepth 20000 in
theorem gX4_reachedIn_X4_needRange : GoodIn wsX4_reachedIn (va_wsS RX4 44 yX4_needRange wsX4_needRange) := goodIn_app (goodIn_of _ (by decide +kernel)) ggX4_reachedIn_X4_needRange
set_option maxRecDepth 20000 in
theorem ggX4_reachedIn_X0_copyFrom : GoodIn wsX4_reachedIn wsX0_copyFrom := goodIn_r _ [28, 16, 29, 30, 31, 32, 33, 34, 35, 36, 37, 38, 39, 40, 41, 42, 43, 44, 45, 46, 47, 48, 49, 50, 51, 52, 53, 54, 55, 56, 57, 58, 110, 111, 112, 113, 114, 115, 116, 117, 118, 119, 120, 121, 122, 123, 124, 125, 126, 127, 128, 129, 130] (by decide +kernel) (by decide +kernel)
set_option maxRecDepth 20000 in
theorem gX4_reachedIn_X0_copyFrom : GoodIn wsX4_reachedIn (wsV RX4 69 RX0 yX0_copyFrom wsX0_copyFrom) := goodIn_app (goodIn_of _ (by decide +kernel)) ggX4_reachedIn_X0_copyFrom
set_option maxRecDepth 20000 in
theorem ggX4_reachedIn_X2_isFrozen : GoodIn wsX4_reachedIn wsX2_isFrozen := goodIn_r _ [62, 57, 125, 126, 127, 128, 129, 130] (by decide +kernel) (by decide +kernel)
set_option maxRecDepth 20000 in
theorem gX4_reachedIn_X2_isFrozen : GoodIn wsX4_reachedIn (wsV RX4 181 RX2 yX2_isFrozen wsX2_isFrozen) := goodIn_app (goodIn_of _ (by decide +kernel)) ggX4_reachedIn_X2_isFrozen
set_option maxRecDepth 20000 in
theorem ggX4_reachedIn_X0_passDaysAt : GoodIn wsX4_reachedIn wsX0_passDaysAt := goodIn_r _ [66, 31, 67, 68, 69, 14, 70, 39, 34, 71, 72, 73, 74, 75, 50, 76, 52, 53, 77, 78, 79, 80, 81, 82, 83, 84, 55, 54, 56, 85, 60, 61, 62, 57, 86, 87, 88, 89, 90, 30, 42, 43, 44, 45, 91, 92, 93, 46, 94, 95, 96, 97, 98, 99, 100, 101, 102, 110, 111, 112, 113, 114, 115, 116, 117, 118, 119, 120, 121, 122, 123, 124, 125, 126, 127, 128, 129, 130] (by decide +kernel) (by decide +kernel)
set_option maxRecDepth 20000 in
theorem gX4_reachedIn_X0_passDaysAt : GoodIn wsX4_reachedIn (wsV RX4 177 RX0 yX0_passDaysAt wsX0_passDaysAt) := goodIn_app (goodIn_of _ (by decide +kernel)) ggX4_reachedIn_X0_passDaysAt
theorem dX4_reachedIn_0 : decode cX4_reachedIn 0 = .ok (.aload_n 0, 1) := by decide +kernel
theorem dX4_reachedIn_1 : decode cX4_reachedIn 1 = .ok (.iload_n 1, 1) := by decide +kernel
theorem dX4_reachedIn_2 : decode cX4_reachedIn 2 = .ok (.invokevirtual 106, 3) := by decide +kernel
theorem dX4_reachedIn_5 : decode cX4_reachedIn 5 = .ok (.iload_n 2, 1) := by decide +kernel
theorem dX4_reachedIn_6 : decode cX4_reachedIn 6 = .ok (.invokestatic 116, 3) := by decide +kernel
theorem dX4_reachedIn_9 : decode cX4_reachedIn 9 = .ok (.iload_n 3, 1) := by decide +kernel
theorem dX4_reachedIn_10 : decode cX4_reachedIn 10 = .ok (.bipush (-30), 2) := by decide +kernel
theorem dX4_reachedIn_12 : decode cX4_reachedIn 12 = .ok (.iconst (-1), 1) := by decide +kernel
theorem dX4_reachedIn_13 : decode cX4_reachedIn 13 = .ok (.invokestatic 44, 3) := by decide +kernel
theorem dX4_reachedIn_16 : decode cX4_reachedIn 16 = .ok (.aload_n 0, 1) := by decide +kernel
theorem dX4_reachedIn_17 : decode cX4_reachedIn 17 = .ok (.getfield 23, 3) := by decide +kernel
theorem dX4_reachedIn_20 : decode cX4_reachedIn 20 = .ok (.aload_n 0, 1) := by decide +kernel
theorem dX4_reachedIn_21 : decode cX4_reachedIn 21 = .ok (.getfield 19, 3) := by decide +kernel
theorem dX4_reachedIn_24 : decode cX4_reachedIn 24 = .ok (.invokevirtual 69, 3) := by decide +kernel
theorem dX4_reachedIn_27 : decode cX4_reachedIn 27 = .ok (.aload_n 0, 1) := by decide +kernel
theorem dX4_reachedIn_28 : decode cX4_reachedIn 28 = .ok (.getfield 23, 3) := by decide +kernel
theorem dX4_reachedIn_31 : decode cX4_reachedIn 31 = .ok (.getfield 109, 3) := by decide +kernel
theorem dX4_reachedIn_34 : decode cX4_reachedIn 34 = .ok (.iload_n 1, 1) := by decide +kernel
theorem dX4_reachedIn_35 : decode cX4_reachedIn 35 = .ok (.aaload, 1) := by decide +kernel
theorem dX4_reachedIn_36 : decode cX4_reachedIn 36 = .ok (.astore 4, 2) := by decide +kernel
theorem dX4_reachedIn_38 : decode cX4_reachedIn 38 = .ok (.iconst 0, 1) := by decide +kernel
theorem dX4_reachedIn_39 : decode cX4_reachedIn 39 = .ok (.istore 5, 2) := by decide +kernel
theorem dX4_reachedIn_41 : decode cX4_reachedIn 41 = .ok (.iload 5, 2) := by decide +kernel
theorem dX4_reachedIn_43 : decode cX4_reachedIn 43 = .ok (.sipush 400, 3) := by decide +kernel
theorem dX4_reachedIn_46 : decode cX4_reachedIn 46 = .ok (.if_icmp .gt 32, 3) := by decide +kernel
theorem dX4_reachedIn_49 : decode cX4_reachedIn 49 = .ok (.aload 4, 2) := by decide +kernel
theorem dX4_reachedIn_51 : decode cX4_reachedIn 51 = .ok (.iload_n 2, 1) := by decide +kernel
theorem dX4_reachedIn_52 : decode cX4_reachedIn 52 = .ok (.invokevirtual 181, 3) := by decide +kernel
theorem dX4_reachedIn_55 : decode cX4_reachedIn 55 = .ok (.ifCond .eq 6, 3) := by decide +kernel
theorem dX4_reachedIn_58 : decode cX4_reachedIn 58 = .ok (.iload 5, 2) := by decide +kernel
theorem dX4_reachedIn_60 : decode cX4_reachedIn 60 = .ok (.ireturn, 1) := by decide +kernel
theorem dX4_reachedIn_61 : decode cX4_reachedIn 61 = .ok (.aload_n 0, 1) := by decide +kernel
theorem dX4_reachedIn_62 : decode cX4_reachedIn 62 = .ok (.getfield 23, 3) := by decide +kernel
theorem dX4_reachedIn_65 : decode cX4_reachedIn 65 = .ok (.iload_n 1, 1) := by decide +kernel
theorem dX4_reachedIn_66 : decode cX4_reachedIn 66 = .ok (.iload_n 3, 1) := by decide +kernel
theorem dX4_reachedIn_67 : decode cX4_reachedIn 67 = .ok (.iconst 0, 1) := by decide +kernel
theorem dX4_reachedIn_68 : decode cX4_reachedIn 68 = .ok (.iconst 1, 1) := by decide +kernel
theorem dX4_reachedIn_69 : decode cX4_reachedIn 69 = .ok (.invokevirtual 177, 3) := by decide +kernel
theorem dX4_reachedIn_72 : decode cX4_reachedIn 72 = .ok (.iinc 5 1, 3) := by decide +kernel
theorem dX4_reachedIn_75 : decode cX4_reachedIn 75 = .ok (.goto (-34), 3) := by decide +kernel
theorem dX4_reachedIn_78 : decode cX4_reachedIn 78 = .ok (.iconst (-1), 1) := by decide +kernel
theorem dX4_reachedIn_79 : decode cX4_reachedIn 79 = .ok (.ireturn, 1) := by decide +kernel
set_option maxRecDepth 20000 in
theorem ggX4_bestFence_X4_needSite : GoodIn wsX4_bestFence wsX4_needSite := goodIn_ca (goodIn_r _ [9, 10, 11, 2, 12, 13, 14, 15, 16, 17, 104, 105, 106, 107, 108, 109, 110, 111, 112, 113, 114, 115, 116, 117, 118, 119, 120, 121, 122, 123, 124, 125] (by decide +kernel) (by decide +kernel)) (goodIn_sub (fun _ h => List.mem_cons_of_mem _ (List.mem_append_left _ (List.mem_append_right _ h))) (by decide +kernel))
set_option maxRecDepth 20000 in
theorem gX4_bestFence_X4_needSite : GoodIn wsX4_bestFence (wsV RX4 106 RX4 yX4_needSite wsX4_needSite) := goodIn_app (goodIn_of _ (by decide +kernel)) ggX4_bestFence_X4_needSite
set_option maxRecDepth 20000 in
theorem ggX4_bestFence_X4_needRange : GoodIn wsX4_bestFence wsX4_needRange := goodIn_ca (goodIn_r _ [20, 21, 22] (by decide +kernel) (by decide +kernel)) (goodIn_sub (fun _ h => List.mem_cons_of_mem _ (List.mem_append_right _ h)) (by decide +kernel))
set_option maxRecDepth 20000 in
theorem gX4_bestFence_X4_needRange : GoodIn wsX4_bestFence (va_wsS RX4 44 yX4_needRange wsX4_needRange) := goodIn_app (goodIn_of _ (by decide +kernel)) ggX4_bestFence_X4_needRange
set_option maxRecDepth 20000 in
theorem ggX4_bestFence_X0_copyFrom : GoodIn wsX4_bestFence wsX0_copyFrom := goodIn_r _ [26, 17, 27, 28, 29, 30, 31, 32, 33, 34, 35, 36, 37, 38, 39, 40, 41, 42, 43, 44, 45, 46, 47, 48, 49, 50, 51, 52, 53, 54, 55, 56, 111, 112, 113, 114, 115, 116, 117, 118, 119, 120, 121, 122, 123, 124, 125, 126, 127, 128, 129, 130, 131] (by decide +kernel) (by decide +kernel)
set_option maxRecDepth 20000 in
theorem gX4_bestFence_X0_copyFrom : GoodIn wsX4_bestFence (wsV RX4 69 RX0 yX0_copyFrom wsX0_copyFrom) := goodIn_app (goodIn_of _ (by decide +kernel)) ggX4_bestFence_X0_copyFrom
set_option maxRecDepth 20000 in
theorem ggX4_bestFence_X0_passDaysAt : GoodIn wsX4_bestFence wsX0_passDaysAt := goodIn_r _ [60, 29, 61, 62, 63, 15, 64, 37, 32, 65, 66, 67, 68, 69, 48, 70, 50, 51, 71, 72, 73, 74, 75, 76, 77, 78, 53, 52, 54, 79, 80, 81, 82, 55, 83, 84, 85, 86, 87, 28, 40, 41, 42, 43, 88, 89, 90, 44, 91, 92, 93, 94, 95, 96, 97, 98, 99, 111, 112, 113, 114, 115, 116, 117, 118, 119, 120, 121, 122, 123, 124, 125, 126, 127, 128, 129, 130, 131] (by decide +kernel) (by decide +kernel)
set_option maxRecDepth 20000 in
theorem gX4_bestFence_X0_passDaysAt : GoodIn wsX4_bestFence (wsV RX4 177 RX0 yX0_passDaysAt wsX0_passDaysAt) := goodIn_app (goodIn_of _ (by decide +kernel)) ggX4_bestFence_X0_passDaysAt
set_option maxRecDepth 20000 in
theorem ggX4_bestFence_X2_frozenWithin : GoodIn wsX4_bestFence wsX2_frozenWithin := goodIn_r _ [103, 99, 80, 81, 48, 82, 55, 126, 127, 128, 129, 130, 131] (by decide +kernel) (by decide +kernel)
set_option maxRecDepth 20000 in
theorem gX4_bestFence_X2_frozenWithin : GoodIn wsX4_bestFence (wsV RX4 188 RX2 yX2_frozenWithin wsX2_frozenWithin) := goodIn_app (goodIn_of _ (by decide +kernel)) ggX4_bestFence_X2_frozenWithin
theorem dX4_bestFence_0 : decode cX4_bestFence 0 = .ok (.aload_n 0, 1) := by decide +kernel
theorem dX4_bestFence_1 : decode cX4_bestFence 1 = .ok (.iload_n 1, 1) := by decide +kernel
theorem dX4_bestFence_2 : decode cX4_bestFence 2 = .ok (.invokevirtual 106, 3) := by decide +kernel
theorem dX4_bestFence_5 : decode cX4_bestFence 5 = .ok (.iload_n 2, 1) := by decide +kernel
theorem dX4_bestFence_6 : decode cX4_bestFence 6 = .ok (.bipush (-30), 2) := by decide +kernel
theorem dX4_bestFence_8 : decode cX4_bestFence 8 = .ok (.bipush 30, 2) := by decide +kernel
theorem dX4_bestFence_10 : decode cX4_bestFence 10 = .ok (.invokestatic 44, 3) := by decide +kernel
theorem dX4_bestFence_13 : decode cX4_bestFence 13 = .ok (.iload_n 3, 1) := by decide +kernel
theorem dX4_bestFence_14 : decode cX4_bestFence 14 = .ok (.iconst 0, 1) := by decide +kernel
theorem dX4_bestFence_15 : decode cX4_bestFence 15 = .ok (.bipush 30, 2) := by decide +kernel
theorem dX4_bestFence_17 : decode cX4_bestFence 17 = .ok (.invokestatic 44, 3) := by decide +kernel
theorem dX4_bestFence_20 : decode cX4_bestFence 20 = .ok (.iload 4, 2) := by decide +kernel
theorem dX4_bestFence_22 : decode cX4_bestFence 22 = .ok (.iconst 1, 1) := by decide +kernel
theorem dX4_bestFence_23 : decode cX4_bestFence 23 = .ok (.bipush 60, 2) := by decide +kernel
theorem dX4_bestFence_25 : decode cX4_bestFence 25 = .ok (.invokestatic 44, 3) := by decide +kernel
theorem dX4_bestFence_28 : decode cX4_bestFence 28 = .ok (.iconst 0, 1) := by decide +kernel
theorem dX4_bestFence_29 : decode cX4_bestFence 29 = .ok (.istore 5, 2) := by decide +kernel
theorem dX4_bestFence_31 : decode cX4_bestFence 31 = .ok (.bipush 31, 2) := by decide +kernel
theorem dX4_bestFence_33 : decode cX4_bestFence 33 = .ok (.istore 6, 2) := by decide +kernel
theorem dX4_bestFence_35 : decode cX4_bestFence 35 = .ok (.iconst 0, 1) := by decide +kernel
theorem dX4_bestFence_36 : decode cX4_bestFence 36 = .ok (.istore 7, 2) := by decide +kernel
theorem dX4_bestFence_38 : decode cX4_bestFence 38 = .ok (.iload 7, 2) := by decide +kernel
theorem dX4_bestFence_40 : decode cX4_bestFence 40 = .ok (.bipush 20, 2) := by decide +kernel
theorem dX4_bestFence_42 : decode cX4_bestFence 42 = .ok (.if_icmp .gt 77, 3) := by decide +kernel
theorem dX4_bestFence_45 : decode cX4_bestFence 45 = .ok (.aload_n 0, 1) := by decide +kernel
theorem dX4_bestFence_46 : decode cX4_bestFence 46 = .ok (.getfield 23, 3) := by decide +kernel
theorem dX4_bestFence_49 : decode cX4_bestFence 49 = .ok (.aload_n 0, 1) := by decide +kernel
theorem dX4_bestFence_50 : decode cX4_bestFence 50 = .ok (.getfield 19, 3) := by decide +kernel
theorem dX4_bestFence_53 : decode cX4_bestFence 53 = .ok (.invokevirtual 69, 3) := by decide +kernel
theorem dX4_bestFence_56 : decode cX4_bestFence 56 = .ok (.aload_n 0, 1) := by decide +kernel
theorem dX4_bestFence_57 : decode cX4_bestFence 57 = .ok (.getfield 23, 3) := by decide +kernel
theorem dX4_bestFence_60 : decode cX4_bestFence 60 = .ok (.getfield 109, 3) := by decide +kernel
theorem dX4_bestFence_63 : decode cX4_bestFence 63 = .ok (.iload_n 1, 1) := by decide +kernel
theorem dX4_bestFence_64 : decode cX4_bestFence 64 = .ok (.aaload, 1) := by decide +kernel
theorem dX4_bestFence_65 : decode cX4_bestFence 65 = .ok (.iload 7, 2) := by decide +kernel
theorem dX4_bestFence_67 : decode cX4_bestFence 67 = .ok (.putfield 185, 3) := by decide +kernel
theorem dX4_bestFence_70 : decode cX4_bestFence 70 = .ok (.aload_n 0, 1) := by decide +kernel
theorem dX4_bestFence_71 : decode cX4_bestFence 71 = .ok (.getfield 23, 3) := by decide +kernel
theorem dX4_bestFence_74 : decode cX4_bestFence 74 = .ok (.iload_n 1, 1) := by decide +kernel
theorem dX4_bestFence_75 : decode cX4_bestFence 75 = .ok (.iload_n 2, 1) := by decide +kernel
theorem dX4_bestFence_76 : decode cX4_bestFence 76 = .ok (.iload_n 3, 1) := by decide +kernel
theorem dX4_bestFence_77 : decode cX4_bestFence 77 = .ok (.iload 4, 2) := by decide +kernel
theorem dX4_bestFence_79 : decode cX4_bestFence 79 = .ok (.invokevirtual 177, 3) := by decide +kernel
theorem dX4_bestFence_82 : decode cX4_bestFence 82 = .ok (.aload_n 0, 1) := by decide +kernel
theorem dX4_bestFence_83 : decode cX4_bestFence 83 = .ok (.getfield 23, 3) := by decide +kernel
theorem dX4_bestFence_86 : decode cX4_bestFence 86 = .ok (.getfield 109, 3) := by decide +kernel
theorem dX4_bestFence_89 : decode cX4_bestFence 89 = .ok (.iload_n 1, 1) := by decide +kernel
theorem dX4_bestFence_90 : decode cX4_bestFence 90 = .ok (.aaload, 1) := by decide +kernel
theorem dX4_bestFence_91 : decode cX4_bestFence 91 = .ok (.bipush 30, 2) := by decide +kernel
theorem dX4_bestFence_93 : decode cX4_bestFence 93 = .ok (.invokevirtual 188, 3) := by decide +kernel
theorem dX4_bestFence_96 : decode cX4_bestFence 96 = .ok (.istore 8, 2) := by decide +kernel
theorem dX4_bestFence_98 : decode cX4_bestFence 98 = .ok (.iload 8, 2) := by decide +kernel
theorem dX4_bestFence_100 : decode cX4_bestFence 100 = .ok (.iload 6, 2) := by decide +kernel
theorem dX4_bestFence_102 : decode cX4_bestFence 102 = .ok (.if_icmp .ge 11, 3) := by decide +kernel
theorem dX4_bestFence_105 : decode cX4_bestFence 105 = .ok (.iload 8, 2) := by decide +kernel
theorem dX4_bestFence_107 : decode cX4_bestFence 107 = .ok (.istore 6, 2) := by decide +kernel
theorem dX4_bestFence_109 : decode cX4_bestFence 109 = .ok (.iload 7, 2) := by decide +kernel
theorem dX4_bestFence_111 : decode cX4_bestFence 111 = .ok (.istore 5, 2) := by decide +kernel
theorem dX4_bestFence_113 : decode cX4_bestFence 113 = .ok (.iinc 7 1, 3) := by decide +kernel
theorem dX4_bestFence_116 : decode cX4_bestFence 116 = .ok (.goto (-78), 3) := by decide +kernel
theorem dX4_bestFence_119 : decode cX4_bestFence 119 = .ok (.iload 5, 2) := by decide +kernel
theorem dX4_bestFence_121 : decode cX4_bestFence 121 = .ok (.ireturn, 1) := by decide +kernel
set_option maxRecDepth 20000 in
theorem ggX4_heaveIn_X4_needPipe : GoodIn wsX4_heaveIn wsX4_needPipe := goodIn_ca (goodIn_r _ [9, 10, 11, 2, 12, 13, 14, 15, 16, 17, 100, 101, 102, 103, 104, 105, 106, 107, 108, 109, 110, 111, 112, 113, 114, 115, 116, 117, 118, 119, 120, 121] (by decide +kernel) (by decide +kernel)) (goodIn_sub (fun _ h => List.mem_cons_of_mem _ (List.mem_append_left _ (List.mem_append_right _ h))) (by decide +kernel))
set_option maxRecDepth 20000 in
theorem gX4_heaveIn_X4_needPipe : GoodIn wsX4_heaveIn (wsV RX4 143 RX4 yX4_needPipe wsX4_needPipe) := goodIn_app (goodIn_of _ (by decide +kernel)) ggX4_heaveIn_X4_needPipe
set_option maxRecDepth 20000 in
theorem ggX4_heaveIn_X4_needRange : GoodIn wsX4_heaveIn wsX4_needRange := goodIn_ca (goodIn_r _ [20, 21, 22] (by decide +kernel) (by decide +kernel)) (goodIn_sub (fun _ h => List.mem_cons_of_mem _ (List.mem_append_right _ h)) (by decide +kernel))
set_option maxRecDepth 20000 in
theorem gX4_heaveIn_X4_needRange : GoodIn wsX4_heaveIn (va_wsS RX4 44 yX4_needRange wsX4_needRange) := goodIn_app (goodIn_of _ (by decide +kernel)) ggX4_heaveIn_X4_needRange
set_option maxRecDepth 20000 in
theorem ggX4_heaveIn_X0_copyFrom : GoodIn wsX4_heaveIn wsX0_copyFrom := goodIn_r _ [26, 27, 28, 17, 29, 30, 31, 32, 33, 34, 35, 36, 37, 38, 39, 40, 41, 42, 43, 44, 45, 46, 47, 48, 49, 50, 51, 52, 53, 54, 55, 56, 107, 108, 109, 110, 111, 112, 113, 114, 115, 116, 117, 118, 119, 120, 121, 122, 123, 124, 125, 126, 127] (by decide +kernel) (by decide +kernel)
set_option maxRecDepth 20000 in
theorem gX4_heaveIn_X0_copyFrom : GoodIn wsX4_heaveIn (wsV RX4 69 RX0 yX0_copyFrom wsX0_copyFrom) := goodIn_app (goodIn_of _ (by decide +kernel)) ggX4_heaveIn_X0_copyFrom
set_option maxRecDepth 20000 in
theorem ggX4_heaveIn_X0_passDaysAt : GoodIn wsX4_heaveIn wsX0_passDaysAt := goodIn_r _ [60, 29, 61, 62, 63, 15, 64, 37, 32, 65, 66, 67, 68, 69, 48, 70, 50, 51, 71, 72, 73, 74, 75, 76, 77, 78, 53, 52, 54, 79, 80, 81, 82, 55, 83, 84, 85, 86, 87, 17, 40, 41, 42, 43, 88, 89, 90, 44, 91, 92, 93, 94, 95, 96, 97, 98, 99, 107, 108, 109, 110, 111, 112, 113, 114, 115, 116, 117, 118, 119, 120, 121, 122, 123, 124, 125, 126, 127] (by decide +kernel) (by decide +kernel)
set_option maxRecDepth 20000 in
theorem gX4_heaveIn_X0_passDaysAt : GoodIn wsX4_heaveIn (wsV RX4 177 RX0 yX0_passDaysAt wsX0_passDaysAt) := goodIn_app (goodIn_of _ (by decide +kernel)) ggX4_heaveIn_X0_passDaysAt
theorem dX4_heaveIn_0 : decode cX4_heaveIn 0 = .ok (.aload_n 0, 1) := by decide +kernel
theorem dX4_heaveIn_1 : decode cX4_heaveIn 1 = .ok (.iload_n 1, 1) := by decide +kernel
theorem dX4_heaveIn_2 : decode cX4_heaveIn 2 = .ok (.invokevirtual 143, 3) := by decide +kernel
theorem dX4_heaveIn_5 : decode cX4_heaveIn 5 = .ok (.iload_n 2, 1) := by decide +kernel
theorem dX4_heaveIn_6 : decode cX4_heaveIn 6 = .ok (.bipush (-30), 2) := by decide +kernel
theorem dX4_heaveIn_8 : decode cX4_heaveIn 8 = .ok (.bipush 30, 2) := by decide +kernel
theorem dX4_heaveIn_10 : decode cX4_heaveIn 10 = .ok (.invokestatic 44, 3) := by decide +kernel
theorem dX4_heaveIn_13 : decode cX4_heaveIn 13 = .ok (.iload_n 3, 1) := by decide +kernel
theorem dX4_heaveIn_14 : decode cX4_heaveIn 14 = .ok (.iconst 1, 1) := by decide +kernel
theorem dX4_heaveIn_15 : decode cX4_heaveIn 15 = .ok (.bipush 60, 2) := by decide +kernel
theorem dX4_heaveIn_17 : decode cX4_heaveIn 17 = .ok (.invokestatic 44, 3) := by decide +kernel
theorem dX4_heaveIn_20 : decode cX4_heaveIn 20 = .ok (.aload_n 0, 1) := by decide +kernel
theorem dX4_heaveIn_21 : decode cX4_heaveIn 21 = .ok (.getfield 23, 3) := by decide +kernel
theorem dX4_heaveIn_24 : decode cX4_heaveIn 24 = .ok (.aload_n 0, 1) := by decide +kernel
theorem dX4_heaveIn_25 : decode cX4_heaveIn 25 = .ok (.getfield 19, 3) := by decide +kernel
theorem dX4_heaveIn_28 : decode cX4_heaveIn 28 = .ok (.invokevirtual 69, 3) := by decide +kernel
theorem dX4_heaveIn_31 : decode cX4_heaveIn 31 = .ok (.aload_n 0, 1) := by decide +kernel
theorem dX4_heaveIn_32 : decode cX4_heaveIn 32 = .ok (.getfield 23, 3) := by decide +kernel
theorem dX4_heaveIn_35 : decode cX4_heaveIn 35 = .ok (.aload_n 0, 1) := by decide +kernel
theorem dX4_heaveIn_36 : decode cX4_heaveIn 36 = .ok (.getfield 23, 3) := by decide +kernel
theorem dX4_heaveIn_39 : decode cX4_heaveIn 39 = .ok (.getfield 191, 3) := by decide +kernel
theorem dX4_heaveIn_42 : decode cX4_heaveIn 42 = .ok (.iload_n 1, 1) := by decide +kernel
theorem dX4_heaveIn_43 : decode cX4_heaveIn 43 = .ok (.iaload, 1) := by decide +kernel
theorem dX4_heaveIn_44 : decode cX4_heaveIn 44 = .ok (.iload_n 2, 1) := by decide +kernel
theorem dX4_heaveIn_45 : decode cX4_heaveIn 45 = .ok (.iconst 0, 1) := by decide +kernel
theorem dX4_heaveIn_46 : decode cX4_heaveIn 46 = .ok (.iload_n 3, 1) := by decide +kernel
theorem dX4_heaveIn_47 : decode cX4_heaveIn 47 = .ok (.invokevirtual 177, 3) := by decide +kernel
theorem dX4_heaveIn_50 : decode cX4_heaveIn 50 = .ok (.aload_n 0, 1) := by decide +kernel
theorem dX4_heaveIn_51 : decode cX4_heaveIn 51 = .ok (.getfield 23, 3) := by decide +kernel
theorem dX4_heaveIn_54 : decode cX4_heaveIn 54 = .ok (.getfield 194, 3) := by decide +kernel
theorem dX4_heaveIn_57 : decode cX4_heaveIn 57 = .ok (.iload_n 1, 1) := by decide +kernel
theorem dX4_heaveIn_58 : decode cX4_heaveIn 58 = .ok (.iaload, 1) := by decide +kernel
theorem dX4_heaveIn_59 : decode cX4_heaveIn 59 = .ok (.ireturn, 1) := by decide +kernel
set_option maxRecDepth 20000 in
theorem ggX4_deepest_X2_lowestWithin : GoodIn wsX4_deepest wsX2_lowestWithin := goodIn_r _ [8, 9, 10, 11, 7, 12, 13, 40, 41, 42, 43, 44, 45] (by decide +kernel) (by decide +kernel)
set_option maxRecDepth 20000 in
theorem gX4_deepest_X2_lowestWithin : GoodIn wsX4_deepest (wsV RX4 174 RX2 yX2_lowestWithin wsX2_lowestWithin) := goodIn_app (goodIn_of _ (by decide +kernel)) ggX4_deepest_X2_lowestWithin
set_option maxRecDepth 20000 in
theorem ggX4_deepest_X2_frozenWithin : GoodIn wsX4_deepest wsX2_frozenWithin := goodIn_r _ [17, 9, 10, 11, 7, 12, 13, 40, 41, 42, 43, 44, 45] (by decide +kernel) (by decide +kernel)
set_option maxRecDepth 20000 in
theorem gX4_deepest_X2_frozenWithin : GoodIn wsX4_deepest (wsV RX4 188 RX2 yX2_frozenWithin wsX2_frozenWithin) := goodIn_app (goodIn_of _ (by decide +kernel)) ggX4_deepest_X2_frozenWithin
theorem dX4_deepest_0 : decode cX4_deepest 0 = .ok (.iconst (-1), 1) := by decide +kernel
theorem dX4_deepest_1 : decode cX4_deepest 1 = .ok (.istore_n 1, 1) := by decide +kernel
theorem dX4_deepest_2 : decode cX4_deepest 2 = .ok (.iconst (-1), 1) := by decide +kernel
theorem dX4_deepest_3 : decode cX4_deepest 3 = .ok (.istore_n 2, 1) := by decide +kernel
theorem dX4_deepest_4 : decode cX4_deepest 4 = .ok (.iconst 0, 1) := by decide +kernel
theorem dX4_deepest_5 : decode cX4_deepest 5 = .ok (.istore_n 3, 1) := by decide +kernel
theorem dX4_deepest_6 : decode cX4_deepest 6 = .ok (.iconst 0, 1) := by decide +kernel
theorem dX4_deepest_7 : decode cX4_deepest 7 = .ok (.istore 4, 2) := by decide +kernel
theorem dX4_deepest_9 : decode cX4_deepest 9 = .ok (.iload 4, 2) := by decide +kernel
theorem dX4_deepest_11 : decode cX4_deepest 11 = .ok (.aload_n 0, 1) := by decide +kernel
theorem dX4_deepest_12 : decode cX4_deepest 12 = .ok (.getfield 19, 3) := by decide +kernel
theorem dX4_deepest_15 : decode cX4_deepest 15 = .ok (.getfield 197, 3) := by decide +kernel
theorem dX4_deepest_18 : decode cX4_deepest 18 = .ok (.if_icmp .ge 70, 3) := by decide +kernel
theorem dX4_deepest_21 : decode cX4_deepest 21 = .ok (.aload_n 0, 1) := by decide +kernel
theorem dX4_deepest_22 : decode cX4_deepest 22 = .ok (.getfield 19, 3) := by decide +kernel
theorem dX4_deepest_25 : decode cX4_deepest 25 = .ok (.getfield 109, 3) := by decide +kernel
theorem dX4_deepest_28 : decode cX4_deepest 28 = .ok (.iload 4, 2) := by decide +kernel
theorem dX4_deepest_30 : decode cX4_deepest 30 = .ok (.aaload, 1) := by decide +kernel
theorem dX4_deepest_31 : decode cX4_deepest 31 = .ok (.bipush 30, 2) := by decide +kernel
theorem dX4_deepest_33 : decode cX4_deepest 33 = .ok (.invokevirtual 174, 3) := by decide +kernel
theorem dX4_deepest_36 : decode cX4_deepest 36 = .ok (.istore 5, 2) := by decide +kernel
theorem dX4_deepest_38 : decode cX4_deepest 38 = .ok (.aload_n 0, 1) := by decide +kernel
theorem dX4_deepest_39 : decode cX4_deepest 39 = .ok (.getfield 19, 3) := by decide +kernel
theorem dX4_deepest_42 : decode cX4_deepest 42 = .ok (.getfield 109, 3) := by decide +kernel
theorem dX4_deepest_45 : decode cX4_deepest 45 = .ok (.iload 4, 2) := by decide +kernel
theorem dX4_deepest_47 : decode cX4_deepest 47 = .ok (.aaload, 1) := by decide +kernel
theorem dX4_deepest_48 : decode cX4_deepest 48 = .ok (.bipush 30, 2) := by decide +kernel
theorem dX4_deepest_50 : decode cX4_deepest 50 = .ok (.invokevirtual 188, 3) := by decide +kernel
theorem dX4_deepest_53 : decode cX4_deepest 53 = .ok (.istore 6, 2) := by decide +kernel
theorem dX4_deepest_55 : decode cX4_deepest 55 = .ok (.iload 5, 2) := by decide +kernel
theorem dX4_deepest_57 : decode cX4_deepest 57 = .ok (.iload_n 2, 1) := by decide +kernel
theorem dX4_deepest_58 : decode cX4_deepest 58 = .ok (.if_icmp .gt 15, 3) := by decide +kernel
theorem dX4_deepest_61 : decode cX4_deepest 61 = .ok (.iload 5, 2) := by decide +kernel
theorem dX4_deepest_63 : decode cX4_deepest 63 = .ok (.iload_n 2, 1) := by decide +kernel
theorem dX4_deepest_64 : decode cX4_deepest 64 = .ok (.if_icmp .ne 18, 3) := by decide +kernel
theorem dX4_deepest_67 : decode cX4_deepest 67 = .ok (.iload 6, 2) := by decide +kernel
theorem dX4_deepest_69 : decode cX4_deepest 69 = .ok (.iload_n 3, 1) := by decide +kernel
theorem dX4_deepest_70 : decode cX4_deepest 70 = .ok (.if_icmp .le 12, 3) := by decide +kernel
theorem dX4_deepest_73 : decode cX4_deepest 73 = .ok (.iload 4, 2) := by decide +kernel
theorem dX4_deepest_75 : decode cX4_deepest 75 = .ok (.istore_n 1, 1) := by decide +kernel
theorem dX4_deepest_76 : decode cX4_deepest 76 = .ok (.iload 5, 2) := by decide +kernel
theorem dX4_deepest_78 : decode cX4_deepest 78 = .ok (.istore_n 2, 1) := by decide +kernel
theorem dX4_deepest_79 : decode cX4_deepest 79 = .ok (.iload 6, 2) := by decide +kernel
theorem dX4_deepest_81 : decode cX4_deepest 81 = .ok (.istore_n 3, 1) := by decide +kernel
theorem dX4_deepest_82 : decode cX4_deepest 82 = .ok (.iinc 4 1, 3) := by decide +kernel
theorem dX4_deepest_85 : decode cX4_deepest 85 = .ok (.goto (-76), 3) := by decide +kernel
theorem dX4_deepest_88 : decode cX4_deepest 88 = .ok (.iload_n 1, 1) := by decide +kernel
theorem dX4_deepest_89 : decode cX4_deepest 89 = .ok (.ireturn, 1) := by decide +kernel
set_option maxRecDepth 20000 in
theorem ggX4_runScript_X4_needRange : GoodIn wsX4_runScript wsX4_needRange := goodIn_ca (goodIn_r _ [9, 1, 2] (by decide +kernel) (by decide +kernel)) (goodIn_sub (fun _ h => List.mem_cons_of_mem _ (List.mem_append_right _ h)) (by decide +kernel))
set_option maxRecDepth 20000 in
theorem gX4_runScript_X4_needRange : GoodIn wsX4_runScript (va_wsS RX4 44 yX4_needRange wsX4_needRange) := goodIn_app (goodIn_of _ (by decide +kernel)) ggX4_runScript_X4_needRange
set_option maxRecDepth 20000 in
theorem ggX4_runScript_X0_copyFrom : GoodIn wsX4_runScript wsX0_copyFrom := goodIn_r _ [14, 15, 16, 17, 18, 19, 20, 21, 22, 23, 24, 25, 26, 27, 28, 29, 30, 31, 32, 33, 34, 35, 36, 37, 38, 39, 40, 41, 42, 43, 44, 45, 192, 193, 194, 195, 196, 197, 198, 199, 200, 201, 202, 203, 204, 205, 206, 207, 208, 209, 210, 211, 212] (by decide +kernel) (by decide +kernel)
set_option maxRecDepth 20000 in
theorem gX4_runScript_X0_copyFrom : GoodIn wsX4_runScript (wsV RX4 69 RX0 yX0_copyFrom wsX0_copyFrom) := goodIn_app (goodIn_of _ (by decide +kernel)) ggX4_runScript_X0_copyFrom
set_option maxRecDepth 20000 in
theorem ggX4_runScript_X4_scriptGroup : GoodIn wsX4_runScript wsX4_scriptGroup := goodIn_r _ [48, 3] (by decide +kernel) (by decide +kernel)
set_option maxRecDepth 20000 in
theorem gX4_runScript_X4_scriptGroup : GoodIn wsX4_runScript (va_wsS RX4 207 yX4_scriptGroup wsX4_scriptGroup) := goodIn_app (goodIn_of _ (by decide +kernel)) ggX4_runScript_X4_scriptGroup
set_option maxRecDepth 20000 in
theorem ggX4_runScript_X4_scriptCommand : GoodIn wsX4_runScript wsX4_scriptCommand := goodIn_r _ [52, 53, 4, 54, 55, 56, 57, 58, 13, 59, 15, 60, 61, 62, 63, 64, 65, 66, 67, 16, 68, 69, 70, 71, 72, 73, 74, 75, 17, 26, 76, 77, 78, 37, 79, 44, 80, 81, 82, 83, 84, 85, 86, 87, 18, 88, 89, 90, 91, 92, 93, 94, 95, 27, 28, 96, 97, 98, 99, 29, 30, 100, 101, 102, 103, 104, 105, 106, 107, 108, 109, 110, 111, 112, 113, 114, 115, 116, 117, 21, 118, 119, 120, 121, 122, 123, 39, 40, 124, 125, 126, 127, 128, 129, 130, 131, 42, 41, 43, 132, 133, 134, 135, 136, 31, 32, 137, 138, 139, 33, 140, 141, 142, 143, 144, 145, 146, 147, 148, 149, 150, 151, 152, 153, 154, 155, 156, 157, 158, 159, 160, 161, 162, 163, 164, 20, 19, 165, 166, 167, 168, 169, 170, 171, 172, 173, 174, 175, 176, 177, 178, 179, 180, 181, 182, 183, 184, 185, 186, 187, 188, 189, 190, 191, 192, 193, 194, 195, 196, 197, 198, 199, 200, 201, 202, 203, 204, 205, 206, 207, 208, 209, 210, 211, 212] (by decide +kernel) (by decide +kernel)
set_option maxRecDepth 20000 in
theorem gX4_runScript_X4_scriptCommand : GoodIn wsX4_runScript (wsV RX4 211 RX4 yX4_scriptCommand wsX4_scriptCommand) := goodIn_app (goodIn_of _ (by decide +kernel)) ggX4_runScript_X4_scriptCommand
theorem dX4_runScript_0 : decode cX4_runScript 0 = .ok (.iload_n 1, 1) := by decide +kernel
theorem dX4_runScript_1 : decode cX4_runScript 1 = .ok (.iconst 1, 1) := by decide +kernel
theorem dX4_runScript_2 : decode cX4_runScript 2 = .ok (.iconst 3, 1) := by decide +kernel
theorem dX4_runScript_3 : decode cX4_runScript 3 = .ok (.invokestatic 44, 3) := by decide +kernel
theorem dX4_runScript_6 : decode cX4_runScript 6 = .ok (.lconst 1, 1) := by decide +kernel
theorem dX4_runScript_7 : decode cX4_runScript 7 = .ok (.lstore 4, 2) := by decide +kernel
theorem dX4_runScript_9 : decode cX4_runScript 9 = .ok (.iconst 0, 1) := by decide +kernel
theorem dX4_runScript_10 : decode cX4_runScript 10 = .ok (.istore 6, 2) := by decide +kernel
theorem dX4_runScript_12 : decode cX4_runScript 12 = .ok (.iload 6, 2) := by decide +kernel
theorem dX4_runScript_14 : decode cX4_runScript 14 = .ok (.iload_n 1, 1) := by decide +kernel
theorem dX4_runScript_15 : decode cX4_runScript 15 = .ok (.if_icmp .ge 17, 3) := by decide +kernel
theorem dX4_runScript_18 : decode cX4_runScript 18 = .ok (.lload 4, 2) := by decide +kernel
theorem dX4_runScript_20 : decode cX4_runScript 20 = .ok (.ldc2_w 200, 3) := by decide +kernel
theorem dX4_runScript_23 : decode cX4_runScript 23 = .ok (.lmul, 1) := by decide +kernel
theorem dX4_runScript_24 : decode cX4_runScript 24 = .ok (.lstore 4, 2) := by decide +kernel
theorem dX4_runScript_26 : decode cX4_runScript 26 = .ok (.iinc 6 1, 3) := by decide +kernel
theorem dX4_runScript_29 : decode cX4_runScript 29 = .ok (.goto (-17), 3) := by decide +kernel
theorem dX4_runScript_32 : decode cX4_runScript 32 = .ok (.lload_n 2, 1) := by decide +kernel
theorem dX4_runScript_33 : decode cX4_runScript 33 = .ok (.lconst 0, 1) := by decide +kernel
theorem dX4_runScript_34 : decode cX4_runScript 34 = .ok (.lcmp, 1) := by decide +kernel
theorem dX4_runScript_35 : decode cX4_runScript 35 = .ok (.ifCond .lt 10, 3) := by decide +kernel
theorem dX4_runScript_38 : decode cX4_runScript 38 = .ok (.lload_n 2, 1) := by decide +kernel
theorem dX4_runScript_39 : decode cX4_runScript 39 = .ok (.lload 4, 2) := by decide +kernel
theorem dX4_runScript_41 : decode cX4_runScript 41 = .ok (.lcmp, 1) := by decide +kernel
theorem dX4_runScript_42 : decode cX4_runScript 42 = .ok (.ifCond .lt 13, 3) := by decide +kernel
theorem dX4_runScript_45 : decode cX4_runScript 45 = .ok (.new 202, 3) := by decide +kernel
theorem dX4_runScript_48 : decode cX4_runScript 48 = .ok (.dup, 1) := by decide +kernel
theorem dX4_runScript_49 : decode cX4_runScript 49 = .ok (.ldc 204, 2) := by decide +kernel
theorem dX4_runScript_51 : decode cX4_runScript 51 = .ok (.invokespecial 206, 3) := by decide +kernel
theorem dX4_runScript_54 : decode cX4_runScript 54 = .ok (.athrow, 1) := by decide +kernel
theorem dX4_runScript_55 : decode cX4_runScript 55 = .ok (.aload_n 0, 1) := by decide +kernel
theorem dX4_runScript_56 : decode cX4_runScript 56 = .ok (.getfield 23, 3) := by decide +kernel
theorem dX4_runScript_59 : decode cX4_runScript 59 = .ok (.aload_n 0, 1) := by decide +kernel
theorem dX4_runScript_60 : decode cX4_runScript 60 = .ok (.getfield 19, 3) := by decide +kernel
theorem dX4_runScript_63 : decode cX4_runScript 63 = .ok (.invokevirtual 69, 3) := by decide +kernel
theorem dX4_runScript_66 : decode cX4_runScript 66 = .ok (.iconst 0, 1) := by decide +kernel
theorem dX4_runScript_67 : decode cX4_runScript 67 = .ok (.istore 6, 2) := by decide +kernel
theorem dX4_runScript_69 : decode cX4_runScript 69 = .ok (.iload 6, 2) := by decide +kernel
theorem dX4_runScript_71 : decode cX4_runScript 71 = .ok (.iload_n 1, 1) := by decide +kernel
theorem dX4_runScript_72 : decode cX4_runScript 72 = .ok (.if_icmp .ge 26, 3) := by decide +kernel
theorem dX4_runScript_75 : decode cX4_runScript 75 = .ok (.aload_n 0, 1) := by decide +kernel
theorem dX4_runScript_76 : decode cX4_runScript 76 = .ok (.iload_n 1, 1) := by decide +kernel
theorem dX4_runScript_77 : decode cX4_runScript 77 = .ok (.lload_n 2, 1) := by decide +kernel
theorem dX4_runScript_78 : decode cX4_runScript 78 = .ok (.iload 6, 2) := by decide +kernel
theorem dX4_runScript_80 : decode cX4_runScript 80 = .ok (.invokestatic 207, 3) := by decide +kernel
theorem dX4_runScript_83 : decode cX4_runScript 83 = .ok (.invokevirtual 211, 3) := by decide +kernel
theorem dX4_runScript_86 : decode cX4_runScript 86 = .ok (.ifCond .ne 6, 3) := by decide +kernel
theorem dX4_runScript_89 : decode cX4_runScript 89 = .ok (.iload 6, 2) := by decide +kernel
theorem dX4_runScript_91 : decode cX4_runScript 91 = .ok (.ireturn, 1) := by decide +kernel
theorem dX4_runScript_92 : decode cX4_runScript 92 = .ok (.iinc 6 1, 3) := by decide +kernel
theorem dX4_runScript_95 : decode cX4_runScript 95 = .ok (.goto (-26), 3) := by decide +kernel
theorem dX4_runScript_98 : decode cX4_runScript 98 = .ok (.iconst (-1), 1) := by decide +kernel
theorem dX4_runScript_99 : decode cX4_runScript 99 = .ok (.ireturn, 1) := by decide +kernel
set_option maxRecDepth 20000 in
theorem ggX4_simulate_X4_needRange : GoodIn wsX4_simulate wsX4_needRange := goodIn_ca (goodIn_r _ [9, 10, 11] (by decide +kernel) (by decide +kernel)) (goodIn_sub (fun _ h => List.mem_cons_of_mem _ (List.mem_append_right _ h)) (by decide +kernel))
set_option maxRecDepth 20000 in
theorem gX4_simulate_X4_needRange : GoodIn wsX4_simulate (va_wsS RX4 44 yX4_needRange wsX4_needRange) := goodIn_app (goodIn_of _ (by decide +kernel)) ggX4_simulate_X4_needRange
set_option maxRecDepth 20000 in
theorem ggX4_simulate_X0_copyFrom : GoodIn wsX4_simulate wsX0_copyFrom := goodIn_r _ [16, 17, 18, 19, 20, 21, 22, 23, 24, 25, 26, 27, 28, 29, 30, 31, 32, 33, 34, 35, 36, 37, 38, 39, 40, 41, 42, 43, 44, 45, 46, 47, 186, 187, 188, 189, 190, 191, 192, 193, 194, 195, 196, 197, 198, 199, 200, 201, 202, 203, 204, 205, 206] (by decide +kernel) (by decide +kernel)
set_option maxRecDepth 20000 in
theorem gX4_simulate_X0_copyFrom : GoodIn wsX4_simulate (wsV RX4 69 RX0 yX0_copyFrom wsX0_copyFrom) := goodIn_app (goodIn_of _ (by decide +kernel)) ggX4_simulate_X0_copyFrom
set_option maxRecDepth 20000 in
theorem ggX4_simulate_X4_simulatedTurn : GoodIn wsX4_simulate wsX4_simulatedTurn := goodIn_r _ [51, 1, 52, 53, 54, 15, 55, 17, 56, 57, 58, 59, 60, 61, 62, 63, 18, 64, 65, 66, 67, 68, 69, 70, 71, 19, 28, 72, 73, 74, 39, 75, 46, 76, 77, 78, 79, 80, 81, 82, 83, 20, 84, 85, 86, 87, 88, 89, 90, 91, 29, 30, 92, 93, 94, 95, 31, 32, 96, 97, 98, 99, 100, 101, 102, 103, 104, 105, 106, 107, 108, 109, 110, 111, 112, 113, 23, 114, 115, 116, 117, 118, 119, 41, 42, 120, 121, 122, 123, 124, 125, 126, 127, 44, 43, 45, 128, 129, 130, 131, 132, 33, 34, 133, 134, 135, 35, 136, 137, 138, 139, 140, 141, 142, 143, 144, 145, 146, 147, 148, 149, 150, 151, 152, 153, 154, 155, 156, 157, 158, 159, 160, 22, 21, 161, 162, 163, 164, 165, 179, 180, 181, 182, 183, 184, 185, 186, 187, 188, 189, 190, 191, 192, 193, 194, 195, 196, 197, 198, 199, 200, 201, 202, 203, 204, 205, 206] (by decide +kernel) (by decide +kernel)
set_option maxRecDepth 20000 in
theorem gX4_simulate_X4_simulatedTurn : GoodIn wsX4_simulate (wsV RX4 218 RX4 yX4_simulatedTurn wsX4_simulatedTurn) := goodIn_app (goodIn_of _ (by decide +kernel)) ggX4_simulate_X4_simulatedTurn
set_option maxRecDepth 20000 in
theorem ggX4_simulate_X0_layersOfAll : GoodIn wsX4_simulate wsX0_layersOfAll := goodIn_r _ [169, 17, 28, 170, 171, 172, 39, 173, 174, 175, 176, 177, 144, 73, 74, 75, 46, 186, 187, 188, 189, 190, 191, 192, 193, 194, 195, 196, 197, 198, 199, 200, 201, 202, 203, 204, 205, 206] (by decide +kernel) (by decide +kernel)
set_option maxRecDepth 20000 in
theorem gX4_simulate_X0_layersOfAll : GoodIn wsX4_simulate (wsV RX4 221 RX0 yX0_layersOfAll wsX0_layersOfAll) := goodIn_app (goodIn_of _ (by decide +kernel)) ggX4_simulate_X0_layersOfAll
set_option maxRecDepth 20000 in
theorem ggX4_simulate_X0_frozenCells : GoodIn wsX4_simulate wsX0_frozenCells := goodIn_r _ [148, 17, 28, 149, 150, 151, 39, 152, 144, 73, 74, 75, 46, 186, 187, 188, 189, 190, 191, 192, 193, 194, 195, 196, 197, 198, 199, 200, 201, 202, 203, 204, 205, 206] (by decide +kernel) (by decide +kernel)
set_option maxRecDepth 20000 in
theorem gX4_simulate_X0_frozenCells : GoodIn wsX4_simulate (wsV RX4 155 RX0 yX0_frozenCells wsX0_frozenCells) := goodIn_app (goodIn_of _ (by decide +kernel)) ggX4_simulate_X0_frozenCells
theorem dX4_simulate_0 : decode cX4_simulate 0 = .ok (.iload_n 3, 1) := by decide +kernel
theorem dX4_simulate_1 : decode cX4_simulate 1 = .ok (.iconst 1, 1) := by decide +kernel
theorem dX4_simulate_2 : decode cX4_simulate 2 = .ok (.bipush 60, 2) := by decide +kernel
theorem dX4_simulate_4 : decode cX4_simulate 4 = .ok (.invokestatic 44, 3) := by decide +kernel
theorem dX4_simulate_7 : decode cX4_simulate 7 = .ok (.aload_n 0, 1) := by decide +kernel
theorem dX4_simulate_8 : decode cX4_simulate 8 = .ok (.getfield 23, 3) := by decide +kernel
theorem dX4_simulate_11 : decode cX4_simulate 11 = .ok (.aload_n 0, 1) := by decide +kernel
theorem dX4_simulate_12 : decode cX4_simulate 12 = .ok (.getfield 19, 3) := by decide +kernel
theorem dX4_simulate_15 : decode cX4_simulate 15 = .ok (.invokevirtual 69, 3) := by decide +kernel
theorem dX4_simulate_18 : decode cX4_simulate 18 = .ok (.lload_n 1, 1) := by decide +kernel
theorem dX4_simulate_19 : decode cX4_simulate 19 = .ok (.lstore 4, 2) := by decide +kernel
theorem dX4_simulate_21 : decode cX4_simulate 21 = .ok (.iconst 0, 1) := by decide +kernel
theorem dX4_simulate_22 : decode cX4_simulate 22 = .ok (.istore 6, 2) := by decide +kernel
theorem dX4_simulate_24 : decode cX4_simulate 24 = .ok (.iload 6, 2) := by decide +kernel
theorem dX4_simulate_26 : decode cX4_simulate 26 = .ok (.iload_n 3, 1) := by decide +kernel
theorem dX4_simulate_27 : decode cX4_simulate 27 = .ok (.if_icmp .ge 31, 3) := by decide +kernel
theorem dX4_simulate_30 : decode cX4_simulate 30 = .ok (.lload 4, 2) := by decide +kernel
theorem dX4_simulate_32 : decode cX4_simulate 32 = .ok (.ldc2_w 214, 3) := by decide +kernel
theorem dX4_simulate_35 : decode cX4_simulate 35 = .ok (.lmul, 1) := by decide +kernel
theorem dX4_simulate_36 : decode cX4_simulate 36 = .ok (.ldc2_w 216, 3) := by decide +kernel
theorem dX4_simulate_39 : decode cX4_simulate 39 = .ok (.ladd, 1) := by decide +kernel
theorem dX4_simulate_40 : decode cX4_simulate 40 = .ok (.lstore 4, 2) := by decide +kernel
theorem dX4_simulate_42 : decode cX4_simulate 42 = .ok (.aload_n 0, 1) := by decide +kernel
theorem dX4_simulate_43 : decode cX4_simulate 43 = .ok (.lload 4, 2) := by decide +kernel
theorem dX4_simulate_45 : decode cX4_simulate 45 = .ok (.bipush 33, 2) := by decide +kernel
theorem dX4_simulate_47 : decode cX4_simulate 47 = .ok (.lushr, 1) := by decide +kernel
theorem dX4_simulate_48 : decode cX4_simulate 48 = .ok (.l2i, 1) := by decide +kernel
theorem dX4_simulate_49 : decode cX4_simulate 49 = .ok (.invokevirtual 218, 3) := by decide +kernel
theorem dX4_simulate_52 : decode cX4_simulate 52 = .ok (.iinc 6 1, 3) := by decide +kernel
theorem dX4_simulate_55 : decode cX4_simulate 55 = .ok (.goto (-31), 3) := by decide +kernel
theorem dX4_simulate_58 : decode cX4_simulate 58 = .ok (.sipush 10000, 3) := by decide +kernel
theorem dX4_simulate_61 : decode cX4_simulate 61 = .ok (.aload_n 0, 1) := by decide +kernel
theorem dX4_simulate_62 : decode cX4_simulate 62 = .ok (.getfield 23, 3) := by decide +kernel
theorem dX4_simulate_65 : decode cX4_simulate 65 = .ok (.invokevirtual 221, 3) := by decide +kernel
theorem dX4_simulate_68 : decode cX4_simulate 68 = .ok (.imul, 1) := by decide +kernel
theorem dX4_simulate_69 : decode cX4_simulate 69 = .ok (.bipush 10, 2) := by decide +kernel
theorem dX4_simulate_71 : decode cX4_simulate 71 = .ok (.aload_n 0, 1) := by decide +kernel
theorem dX4_simulate_72 : decode cX4_simulate 72 = .ok (.getfield 23, 3) := by decide +kernel
theorem dX4_simulate_75 : decode cX4_simulate 75 = .ok (.invokevirtual 155, 3) := by decide +kernel
theorem dX4_simulate_78 : decode cX4_simulate 78 = .ok (.imul, 1) := by decide +kernel
theorem dX4_simulate_79 : decode cX4_simulate 79 = .ok (.iadd, 1) := by decide +kernel
theorem dX4_simulate_80 : decode cX4_simulate 80 = .ok (.aload_n 0, 1) := by decide +kernel
theorem dX4_simulate_81 : decode cX4_simulate 81 = .ok (.getfield 23, 3) := by decide +kernel
theorem dX4_simulate_84 : decode cX4_simulate 84 = .ok (.getfield 197, 3) := by decide +kernel
theorem dX4_simulate_87 : decode cX4_simulate 87 = .ok (.iadd, 1) := by decide +kernel
theorem dX4_simulate_88 : decode cX4_simulate 88 = .ok (.ireturn, 1) := by decide +kernel
set_option maxRecDepth 20000 in
theorem ggX4_save_X4_needSlot : GoodIn wsX4_save wsX4_needSlot := goodIn_ca (goodIn_r _ [8, 9, 10] (by decide +kernel) (by decide +kernel)) (goodIn_sub (fun _ h => List.mem_cons_of_mem _ (List.mem_append_right _ h)) (by decide +kernel))
set_option maxRecDepth 20000 in
theorem gX4_save_X4_needSlot : GoodIn wsX4_save (va_wsS RX4 224 yX4_needSlot wsX4_needSlot) := goodIn_app (goodIn_of _ (by decide +kernel)) ggX4_save_X4_needSlot
set_option maxRecDepth 20000 in
theorem ggX4_save_X0_copyFrom : GoodIn wsX4_save wsX0_copyFrom := goodIn_r _ [15, 16, 17, 18, 19, 20, 21, 22, 23, 24, 25, 26, 27, 28, 29, 30, 31, 32, 33, 34, 35, 36, 37, 38, 39, 40, 41, 42, 43, 44, 45, 46, 54, 55, 56, 57, 58, 59, 60, 61, 62, 63, 64, 65, 66, 67, 68, 69, 70, 71, 72, 73, 74] (by decide +kernel) (by decide +kernel)
set_option maxRecDepth 20000 in
theorem gX4_save_X0_copyFrom : GoodIn wsX4_save (wsV RX4 69 RX0 yX0_copyFrom wsX0_copyFrom) := goodIn_app (goodIn_of _ (by decide +kernel)) ggX4_save_X0_copyFrom
theorem dX4_save_0 : decode cX4_save 0 = .ok (.iload_n 1, 1) := by decide +kernel
theorem dX4_save_1 : decode cX4_save 1 = .ok (.invokestatic 224, 3) := by decide +kernel
theorem dX4_save_4 : decode cX4_save 4 = .ok (.aload_n 0, 1) := by decide +kernel
theorem dX4_save_5 : decode cX4_save 5 = .ok (.getfield 36, 3) := by decide +kernel
theorem dX4_save_8 : decode cX4_save 8 = .ok (.iload_n 1, 1) := by decide +kernel
theorem dX4_save_9 : decode cX4_save 9 = .ok (.aaload, 1) := by decide +kernel
theorem dX4_save_10 : decode cX4_save 10 = .ok (.aload_n 0, 1) := by decide +kernel
theorem dX4_save_11 : decode cX4_save 11 = .ok (.getfield 19, 3) := by decide +kernel
theorem dX4_save_14 : decode cX4_save 14 = .ok (.invokevirtual 69, 3) := by decide +kernel
theorem dX4_save_17 : decode cX4_save 17 = .ok (.aload_n 0, 1) := by decide +kernel
theorem dX4_save_18 : decode cX4_save 18 = .ok (.getfield 40, 3) := by decide +kernel
theorem dX4_save_21 : decode cX4_save 21 = .ok (.iload_n 1, 1) := by decide +kernel
theorem dX4_save_22 : decode cX4_save 22 = .ok (.iconst 1, 1) := by decide +kernel
theorem dX4_save_23 : decode cX4_save 23 = .ok (.bastore, 1) := by decide +kernel
theorem dX4_save_24 : decode cX4_save 24 = .ok (.aload_n 0, 1) := by decide +kernel
theorem dX4_save_25 : decode cX4_save 25 = .ok (.getfield 19, 3) := by decide +kernel
theorem dX4_save_28 : decode cX4_save 28 = .ok (.getfield 227, 3) := by decide +kernel
theorem dX4_save_31 : decode cX4_save 31 = .ok (.ireturn, 1) := by decide +kernel
set_option maxRecDepth 20000 in
theorem ggX4_restore_X4_needSlot : GoodIn wsX4_restore wsX4_needSlot := goodIn_ca (goodIn_r _ [11, 12, 13] (by decide +kernel) (by decide +kernel)) (goodIn_sub (fun _ h => List.mem_cons_of_mem _ (List.mem_append_right _ h)) (by decide +kernel))
set_option maxRecDepth 20000 in
theorem gX4_restore_X4_needSlot : GoodIn wsX4_restore (va_wsS RX4 224 yX4_needSlot wsX4_needSlot) := goodIn_app (goodIn_of _ (by decide +kernel)) ggX4_restore_X4_needSlot
set_option maxRecDepth 20000 in
theorem ggX4_restore_X0_copyFrom : GoodIn wsX4_restore wsX0_copyFrom := goodIn_r _ [18, 19, 20, 21, 22, 23, 24, 25, 26, 27, 28, 29, 30, 31, 32, 33, 34, 35, 36, 37, 38, 39, 40, 41, 42, 43, 44, 45, 46, 47, 48, 49, 64, 65, 66, 67, 68, 69, 70, 71, 72, 73, 74, 75, 76, 77, 78, 79, 80, 81, 82, 83, 84] (by decide +kernel) (by decide +kernel)
set_option maxRecDepth 20000 in
theorem gX4_restore_X0_copyFrom : GoodIn wsX4_restore (wsV RX4 69 RX0 yX0_copyFrom wsX0_copyFrom) := goodIn_app (goodIn_of _ (by decide +kernel)) ggX4_restore_X0_copyFrom
set_option maxRecDepth 20000 in
theorem ggX4_restore_X1_forgetAll : GoodIn wsX4_restore wsX1_forgetAll := goodIn_r _ [54, 55, 56, 85, 86, 87] (by decide +kernel) (by decide +kernel)
set_option maxRecDepth 20000 in
theorem gX4_restore_X1_forgetAll : GoodIn wsX4_restore (wsV RX4 73 RX1 yX1_forgetAll wsX1_forgetAll) := goodIn_app (goodIn_of _ (by decide +kernel)) ggX4_restore_X1_forgetAll
theorem dX4_restore_0 : decode cX4_restore 0 = .ok (.iload_n 1, 1) := by decide +kernel
theorem dX4_restore_1 : decode cX4_restore 1 = .ok (.invokestatic 224, 3) := by decide +kernel
theorem dX4_restore_4 : decode cX4_restore 4 = .ok (.aload_n 0, 1) := by decide +kernel
theorem dX4_restore_5 : decode cX4_restore 5 = .ok (.getfield 40, 3) := by decide +kernel
theorem dX4_restore_8 : decode cX4_restore 8 = .ok (.iload_n 1, 1) := by decide +kernel
theorem dX4_restore_9 : decode cX4_restore 9 = .ok (.baload, 1) := by decide +kernel
theorem dX4_restore_10 : decode cX4_restore 10 = .ok (.ifCond .ne 13, 3) := by decide +kernel
theorem dX4_restore_13 : decode cX4_restore 13 = .ok (.new 52, 3) := by decide +kernel
theorem dX4_restore_16 : decode cX4_restore 16 = .ok (.dup, 1) := by decide +kernel
theorem dX4_restore_17 : decode cX4_restore 17 = .ok (.ldc 230, 2) := by decide +kernel
theorem dX4_restore_19 : decode cX4_restore 19 = .ok (.invokespecial 56, 3) := by decide +kernel
theorem dX4_restore_22 : decode cX4_restore 22 = .ok (.athrow, 1) := by decide +kernel
theorem dX4_restore_23 : decode cX4_restore 23 = .ok (.aload_n 0, 1) := by decide +kernel
theorem dX4_restore_24 : decode cX4_restore 24 = .ok (.getfield 19, 3) := by decide +kernel
theorem dX4_restore_27 : decode cX4_restore 27 = .ok (.aload_n 0, 1) := by decide +kernel
theorem dX4_restore_28 : decode cX4_restore 28 = .ok (.getfield 36, 3) := by decide +kernel
theorem dX4_restore_31 : decode cX4_restore 31 = .ok (.iload_n 1, 1) := by decide +kernel
theorem dX4_restore_32 : decode cX4_restore 32 = .ok (.aaload, 1) := by decide +kernel
theorem dX4_restore_33 : decode cX4_restore 33 = .ok (.invokevirtual 69, 3) := by decide +kernel
theorem dX4_restore_36 : decode cX4_restore 36 = .ok (.aload_n 0, 1) := by decide +kernel
theorem dX4_restore_37 : decode cX4_restore 37 = .ok (.getfield 32, 3) := by decide +kernel
theorem dX4_restore_40 : decode cX4_restore 40 = .ok (.invokevirtual 73, 3) := by decide +kernel
theorem dX4_restore_43 : decode cX4_restore 43 = .ok (.aload_n 0, 1) := by decide +kernel
theorem dX4_restore_44 : decode cX4_restore 44 = .ok (.getfield 19, 3) := by decide +kernel
theorem dX4_restore_47 : decode cX4_restore 47 = .ok (.getfield 227, 3) := by decide +kernel
theorem dX4_restore_50 : decode cX4_restore 50 = .ok (.ireturn, 1) := by decide +kernel
set_option maxRecDepth 20000 in
theorem ggX4_act_X0_faultOf : GoodIn wsX4_act wsX0_faultOf := goodIn_r _ [13, 14, 15, 16, 17, 12, 18, 19, 20, 21, 22, 23, 24, 25, 26, 27, 28, 29, 30, 31, 32, 33, 34, 35, 36, 37, 38, 39, 40, 41, 42, 43, 44, 45, 46, 47, 48, 175, 176, 177, 178, 179, 180, 181, 182, 183, 184, 185, 186, 187, 188, 189, 190, 191, 192, 193, 194, 195] (by decide +kernel) (by decide +kernel)
set_option maxRecDepth 20000 in
theorem gX4_act_X0_faultOf : GoodIn wsX4_act (wsV RX4 232 RX0 yX0_faultOf wsX0_faultOf) := goodIn_app (goodIn_of _ (by decide +kernel)) ggX4_act_X0_faultOf
set_option maxRecDepth 20000 in
theorem ggX4_act_X1_remember : GoodIn wsX4_act wsX1_remember := goodIn_r _ [53, 54, 55, 56, 57, 58, 59, 12, 60, 14, 19, 28, 44, 61, 62, 63, 64, 65, 66, 67, 29, 68, 69, 70, 71, 72, 73, 74, 75, 76, 77, 33, 78, 79, 80, 81, 82, 83, 35, 84, 196, 197, 198, 175, 176, 177, 178, 179, 180, 181, 182, 183, 184, 185, 186, 187, 188, 189, 190, 191, 192, 193, 194, 195] (by decide +kernel) (by decide +kernel)
set_option maxRecDepth 20000 in
theorem gX4_act_X1_remember : GoodIn wsX4_act (wsV RX4 241 RX1 yX1_remember wsX1_remember) := goodIn_app (goodIn_of _ (by decide +kernel)) ggX4_act_X1_remember
set_option maxRecDepth 20000 in
theorem ggX4_act_X0_perform : GoodIn wsX4_act wsX0_perform := goodIn_r _ [88, 14, 89, 10, 11, 12, 13, 15, 16, 17, 18, 19, 20, 21, 22, 23, 24, 25, 26, 27, 28, 29, 30, 31, 32, 33, 34, 35, 36, 37, 38, 39, 40, 41, 42, 43, 44, 45, 46, 47, 48, 90, 91, 92, 93, 68, 69, 94, 95, 96, 97, 70, 71, 98, 99, 100, 101, 102, 103, 104, 105, 106, 107, 108, 109, 110, 111, 112, 113, 114, 115, 63, 116, 117, 118, 119, 120, 121, 79, 80, 122, 123, 124, 125, 126, 127, 128, 129, 82, 81, 83, 130, 131, 132, 133, 134, 72, 73, 135, 136, 137, 74, 138, 139, 140, 141, 142, 143, 144, 145, 146, 147, 148, 149, 150, 151, 152, 153, 154, 155, 156, 157, 158, 159, 160, 161, 162, 62, 61, 163, 164, 165, 166, 167, 175, 176, 177, 178, 179, 180, 181, 182, 183, 184, 185, 186, 187, 188, 189, 190, 191, 192, 193, 194, 195] (by decide +kernel) (by decide +kernel)
set_option maxRecDepth 20000 in
theorem gX4_act_X0_perform : GoodIn wsX4_act (wsV RX4 98 RX0 yX0_perform wsX0_perform) := goodIn_app (goodIn_of _ (by decide +kernel)) ggX4_act_X0_perform
theorem dX4_act_0 : decode cX4_act 0 = .ok (.aload_n 0, 1) := by decide +kernel
theorem dX4_act_1 : decode cX4_act 1 = .ok (.getfield 19, 3) := by decide +kernel
theorem dX4_act_4 : decode cX4_act 4 = .ok (.iload_n 1, 1) := by decide +kernel
theorem dX4_act_5 : decode cX4_act 5 = .ok (.iload_n 2, 1) := by decide +kernel
theorem dX4_act_6 : decode cX4_act 6 = .ok (.iload_n 3, 1) := by decide +kernel
theorem dX4_act_7 : decode cX4_act 7 = .ok (.iload 4, 2) := by decide +kernel
theorem dX4_act_9 : decode cX4_act 9 = .ok (.invokevirtual 232, 3) := by decide +kernel
theorem dX4_act_12 : decode cX4_act 12 = .ok (.istore 5, 2) := by decide +kernel
theorem dX4_act_14 : decode cX4_act 14 = .ok (.iload 5, 2) := by decide +kernel
theorem dX4_act_16 : decode cX4_act 16 = .ok (.iconst 1, 1) := by decide +kernel
theorem dX4_act_17 : decode cX4_act 17 = .ok (.if_icmp .ne 13, 3) := by decide +kernel
theorem dX4_act_20 : decode cX4_act 20 = .ok (.new 126, 3) := by decide +kernel
theorem dX4_act_23 : decode cX4_act 23 = .ok (.dup, 1) := by decide +kernel
theorem dX4_act_24 : decode cX4_act 24 = .ok (.ldc 235, 2) := by decide +kernel
theorem dX4_act_26 : decode cX4_act 26 = .ok (.invokespecial 130, 3) := by decide +kernel
theorem dX4_act_29 : decode cX4_act 29 = .ok (.athrow, 1) := by decide +kernel
theorem dX4_act_30 : decode cX4_act 30 = .ok (.iload 5, 2) := by decide +kernel
theorem dX4_act_32 : decode cX4_act 32 = .ok (.iconst 2, 1) := by decide +kernel
theorem dX4_act_33 : decode cX4_act 33 = .ok (.if_icmp .ne 13, 3) := by decide +kernel
theorem dX4_act_36 : decode cX4_act 36 = .ok (.new 202, 3) := by decide +kernel
theorem dX4_act_39 : decode cX4_act 39 = .ok (.dup, 1) := by decide +kernel
theorem dX4_act_40 : decode cX4_act 40 = .ok (.ldc 237, 2) := by decide +kernel
theorem dX4_act_42 : decode cX4_act 42 = .ok (.invokespecial 206, 3) := by decide +kernel
theorem dX4_act_45 : decode cX4_act 45 = .ok (.athrow, 1) := by decide +kernel
theorem dX4_act_46 : decode cX4_act 46 = .ok (.iload 5, 2) := by decide +kernel
theorem dX4_act_48 : decode cX4_act 48 = .ok (.iconst 3, 1) := by decide +kernel
theorem dX4_act_49 : decode cX4_act 49 = .ok (.if_icmp .ne 13, 3) := by decide +kernel
theorem dX4_act_52 : decode cX4_act 52 = .ok (.new 52, 3) := by decide +kernel
theorem dX4_act_55 : decode cX4_act 55 = .ok (.dup, 1) := by decide +kernel
theorem dX4_act_56 : decode cX4_act 56 = .ok (.ldc 239, 2) := by decide +kernel
theorem dX4_act_58 : decode cX4_act 58 = .ok (.invokespecial 56, 3) := by decide +kernel
theorem dX4_act_61 : decode cX4_act 61 = .ok (.athrow, 1) := by decide +kernel
theorem dX4_act_62 : decode cX4_act 62 = .ok (.aload_n 0, 1) := by decide +kernel
theorem dX4_act_63 : decode cX4_act 63 = .ok (.getfield 32, 3) := by decide +kernel
theorem dX4_act_66 : decode cX4_act 66 = .ok (.aload_n 0, 1) := by decide +kernel
theorem dX4_act_67 : decode cX4_act 67 = .ok (.getfield 19, 3) := by decide +kernel
theorem dX4_act_70 : decode cX4_act 70 = .ok (.invokevirtual 241, 3) := by decide +kernel
theorem dX4_act_73 : decode cX4_act 73 = .ok (.aload_n 0, 1) := by decide +kernel
theorem dX4_act_74 : decode cX4_act 74 = .ok (.getfield 19, 3) := by decide +kernel
theorem dX4_act_77 : decode cX4_act 77 = .ok (.iload_n 1, 1) := by decide +kernel
theorem dX4_act_78 : decode cX4_act 78 = .ok (.iload_n 2, 1) := by decide +kernel
theorem dX4_act_79 : decode cX4_act 79 = .ok (.iload_n 3, 1) := by decide +kernel
theorem dX4_act_80 : decode cX4_act 80 = .ok (.iload 4, 2) := by decide +kernel
theorem dX4_act_82 : decode cX4_act 82 = .ok (.invokevirtual 98, 3) := by decide +kernel
theorem dX4_act_85 : decode cX4_act 85 = .ok (.ireturn, 1) := by decide +kernel
theorem dX4_needRange_0 : decode cX4_needRange 0 = .ok (.iload_n 0, 1) := by decide +kernel
theorem dX4_needRange_1 : decode cX4_needRange 1 = .ok (.iload_n 1, 1) := by decide +kernel
theorem dX4_needRange_2 : decode cX4_needRange 2 = .ok (.if_icmp .lt 8, 3) := by decide +kernel
theorem dX4_needRange_5 : decode cX4_needRange 5 = .ok (.iload_n 0, 1) := by decide +kernel
theorem dX4_needRange_6 : decode cX4_needRange 6 = .ok (.iload_n 2, 1) := by decide +kernel
theorem dX4_needRange_7 : decode cX4_needRange 7 = .ok (.if_icmp .le 13, 3) := by decide +kernel
theorem dX4_needRange_10 : decode cX4_needRange 10 = .ok (.new 202, 3) := by decide +kernel
theorem dX4_needRange_13 : decode cX4_needRange 13 = .ok (.dup, 1) := by decide +kernel
theorem dX4_needRange_14 : decode cX4_needRange 14 = .ok (.ldc 237, 2) := by decide +kernel
theorem dX4_needRange_16 : decode cX4_needRange 16 = .ok (.invokespecial 206, 3) := by decide +kernel
theorem dX4_needRange_19 : decode cX4_needRange 19 = .ok (.athrow, 1) := by decide +kernel
theorem dX4_needRange_20 : decode cX4_needRange 20 = .ok (.return_, 1) := by decide +kernel
theorem dX4_needCell_0 : decode cX4_needCell 0 = .ok (.iload_n 0, 1) := by decide +kernel
theorem dX4_needCell_1 : decode cX4_needCell 1 = .ok (.ifCond .lt 9, 3) := by decide +kernel
theorem dX4_needCell_4 : decode cX4_needCell 4 = .ok (.iload_n 0, 1) := by decide +kernel
theorem dX4_needCell_5 : decode cX4_needCell 5 = .ok (.bipush 30, 2) := by decide +kernel
theorem dX4_needCell_7 : decode cX4_needCell 7 = .ok (.if_icmp .lt 13, 3) := by decide +kernel
theorem dX4_needCell_10 : decode cX4_needCell 10 = .ok (.new 126, 3) := by decide +kernel
theorem dX4_needCell_13 : decode cX4_needCell 13 = .ok (.dup, 1) := by decide +kernel
theorem dX4_needCell_14 : decode cX4_needCell 14 = .ok (.ldc 244, 2) := by decide +kernel
theorem dX4_needCell_16 : decode cX4_needCell 16 = .ok (.invokespecial 130, 3) := by decide +kernel
theorem dX4_needCell_19 : decode cX4_needCell 19 = .ok (.athrow, 1) := by decide +kernel
theorem dX4_needCell_20 : decode cX4_needCell 20 = .ok (.return_, 1) := by decide +kernel
theorem dX4_needSlot_0 : decode cX4_needSlot 0 = .ok (.iload_n 0, 1) := by decide +kernel
theorem dX4_needSlot_1 : decode cX4_needSlot 1 = .ok (.ifCond .lt 8, 3) := by decide +kernel
theorem dX4_needSlot_4 : decode cX4_needSlot 4 = .ok (.iload_n 0, 1) := by decide +kernel
theorem dX4_needSlot_5 : decode cX4_needSlot 5 = .ok (.iconst 2, 1) := by decide +kernel
theorem dX4_needSlot_6 : decode cX4_needSlot 6 = .ok (.if_icmp .lt 13, 3) := by decide +kernel
theorem dX4_needSlot_9 : decode cX4_needSlot 9 = .ok (.new 126, 3) := by decide +kernel
theorem dX4_needSlot_12 : decode cX4_needSlot 12 = .ok (.dup, 1) := by decide +kernel
theorem dX4_needSlot_13 : decode cX4_needSlot 13 = .ok (.ldc 246, 2) := by decide +kernel
theorem dX4_needSlot_15 : decode cX4_needSlot 15 = .ok (.invokespecial 130, 3) := by decide +kernel
theorem dX4_needSlot_18 : decode cX4_needSlot 18 = .ok (.athrow, 1) := by decide +kernel
theorem dX4_needSlot_19 : decode cX4_needSlot 19 = .ok (.return_, 1) := by decide +kernel
set_option maxRecDepth 20000 in
theorem ggX4_needSite_X0_hasSite : GoodIn wsX4_needSite wsX0_hasSite := goodIn_r _ [8, 9, 17, 18, 19, 20, 21, 22, 23, 24, 25, 26, 27, 28, 29, 30, 31] (by decide +kernel) (by decide +kernel)
set_option maxRecDepth 20000 in
theorem gX4_needSite_X0_hasSite : GoodIn wsX4_needSite (wsV RX4 248 RX0 yX0_hasSite wsX0_hasSite) := goodIn_app (goodIn_of _ (by decide +kernel)) ggX4_needSite_X0_hasSite
theorem dX4_needSite_0 : decode cX4_needSite 0 = .ok (.aload_n 0, 1) := by decide +kernel
theorem dX4_needSite_1 : decode cX4_needSite 1 = .ok (.getfield 19, 3) := by decide +kernel
theorem dX4_needSite_4 : decode cX4_needSite 4 = .ok (.iload_n 1, 1) := by decide +kernel
theorem dX4_needSite_5 : decode cX4_needSite 5 = .ok (.invokevirtual 248, 3) := by decide +kernel
theorem dX4_needSite_8 : decode cX4_needSite 8 = .ok (.ifCond .ne 13, 3) := by decide +kernel
theorem dX4_needSite_11 : decode cX4_needSite 11 = .ok (.new 126, 3) := by decide +kernel
theorem dX4_needSite_14 : decode cX4_needSite 14 = .ok (.dup, 1) := by decide +kernel
theorem dX4_needSite_15 : decode cX4_needSite 15 = .ok (.ldc 251, 2) := by decide +kernel
theorem dX4_needSite_17 : decode cX4_needSite 17 = .ok (.invokespecial 130, 3) := by decide +kernel
theorem dX4_needSite_20 : decode cX4_needSite 20 = .ok (.athrow, 1) := by decide +kernel
theorem dX4_needSite_21 : decode cX4_needSite 21 = .ok (.return_, 1) := by decide +kernel
set_option maxRecDepth 20000 in
theorem ggX4_needPipe_X0_hasPipe : GoodIn wsX4_needPipe wsX0_hasPipe := goodIn_r _ [8, 9, 17, 18, 19, 20, 21, 22, 23, 24, 25, 26, 27, 28, 29, 30, 31] (by decide +kernel) (by decide +kernel)
set_option maxRecDepth 20000 in
theorem gX4_needPipe_X0_hasPipe : GoodIn wsX4_needPipe (wsV RX4 253 RX0 yX0_hasPipe wsX0_hasPipe) := goodIn_app (goodIn_of _ (by decide +kernel)) ggX4_needPipe_X0_hasPipe
theorem dX4_needPipe_0 : decode cX4_needPipe 0 = .ok (.aload_n 0, 1) := by decide +kernel
theorem dX4_needPipe_1 : decode cX4_needPipe 1 = .ok (.getfield 19, 3) := by decide +kernel
theorem dX4_needPipe_4 : decode cX4_needPipe 4 = .ok (.iload_n 1, 1) := by decide +kernel
theorem dX4_needPipe_5 : decode cX4_needPipe 5 = .ok (.invokevirtual 253, 3) := by decide +kernel
theorem dX4_needPipe_8 : decode cX4_needPipe 8 = .ok (.ifCond .ne 14, 3) := by decide +kernel
theorem dX4_needPipe_11 : decode cX4_needPipe 11 = .ok (.new 126, 3) := by decide +kernel
theorem dX4_needPipe_14 : decode cX4_needPipe 14 = .ok (.dup, 1) := by decide +kernel
theorem dX4_needPipe_15 : decode cX4_needPipe 15 = .ok (.ldc_w 256, 3) := by decide +kernel
theorem dX4_needPipe_18 : decode cX4_needPipe 18 = .ok (.invokespecial 130, 3) := by decide +kernel
theorem dX4_needPipe_21 : decode cX4_needPipe 21 = .ok (.athrow, 1) := by decide +kernel
theorem dX4_needPipe_22 : decode cX4_needPipe 22 = .ok (.return_, 1) := by decide +kernel
theorem dX4_scriptGroup_0 : decode cX4_scriptGroup 0 = .ok (.lload_n 1, 1) := by decide +kernel
theorem dX4_scriptGroup_1 : decode cX4_scriptGroup 1 = .ok (.lstore 4, 2) := by decide +kernel
theorem dX4_scriptGroup_3 : decode cX4_scriptGroup 3 = .ok (.iload_n 0, 1) := by decide +kernel
theorem dX4_scriptGroup_4 : decode cX4_scriptGroup 4 = .ok (.iconst 1, 1) := by decide +kernel
theorem dX4_scriptGroup_5 : decode cX4_scriptGroup 5 = .ok (.isub, 1) := by decide +kernel
theorem dX4_scriptGroup_6 : decode cX4_scriptGroup 6 = .ok (.istore 6, 2) := by decide +kernel
theorem dX4_scriptGroup_8 : decode cX4_scriptGroup 8 = .ok (.iload 6, 2) := by decide +kernel
theorem dX4_scriptGroup_10 : decode cX4_scriptGroup 10 = .ok (.iload_n 3, 1) := by decide +kernel
theorem dX4_scriptGroup_11 : decode cX4_scriptGroup 11 = .ok (.if_icmp .le 17, 3) := by decide +kernel
theorem dX4_scriptGroup_14 : decode cX4_scriptGroup 14 = .ok (.lload 4, 2) := by decide +kernel
theorem dX4_scriptGroup_16 : decode cX4_scriptGroup 16 = .ok (.ldc2_w 200, 3) := by decide +kernel
theorem dX4_scriptGroup_19 : decode cX4_scriptGroup 19 = .ok (.ldiv, 1) := by decide +kernel
theorem dX4_scriptGroup_20 : decode cX4_scriptGroup 20 = .ok (.lstore 4, 2) := by decide +kernel
theorem dX4_scriptGroup_22 : decode cX4_scriptGroup 22 = .ok (.iinc 6 (-1), 3) := by decide +kernel
theorem dX4_scriptGroup_25 : decode cX4_scriptGroup 25 = .ok (.goto (-17), 3) := by decide +kernel
theorem dX4_scriptGroup_28 : decode cX4_scriptGroup 28 = .ok (.lload 4, 2) := by decide +kernel
theorem dX4_scriptGroup_30 : decode cX4_scriptGroup 30 = .ok (.ldc2_w 200, 3) := by decide +kernel
theorem dX4_scriptGroup_33 : decode cX4_scriptGroup 33 = .ok (.lrem, 1) := by decide +kernel
theorem dX4_scriptGroup_34 : decode cX4_scriptGroup 34 = .ok (.l2i, 1) := by decide +kernel
theorem dX4_scriptGroup_35 : decode cX4_scriptGroup 35 = .ok (.ireturn, 1) := by decide +kernel
set_option maxRecDepth 20000 in
theorem ggX4_scriptCommand_X0_perform : GoodIn wsX4_scriptCommand wsX0_perform := goodIn_r _ [9, 10, 11, 12, 13, 8, 14, 15, 16, 17, 18, 19, 20, 21, 22, 23, 24, 25, 26, 27, 28, 29, 30, 31, 32, 33, 34, 35, 36, 37, 38, 39, 40, 41, 42, 43, 44, 45, 46, 47, 48, 49, 50, 51, 52, 53, 54, 55, 56, 57, 58, 59, 60, 61, 62, 63, 64, 65, 66, 67, 68, 69, 70, 71, 72, 73, 74, 75, 76, 77, 78, 79, 80, 81, 82, 83, 84, 85, 86, 87, 88, 89, 90, 91, 92, 93, 94, 95, 96, 97, 98, 99, 100, 101, 102, 103, 104, 105, 106, 107, 108, 109, 110, 111, 112, 113, 114, 115, 116, 117, 118, 119, 120, 121, 122, 123, 124, 125, 126, 127, 128, 129, 130, 131, 132, 133, 134, 135, 136, 137, 138, 139, 140, 141, 164, 165, 166, 167, 168, 169, 170, 171, 172, 173, 174, 175, 176, 177, 178, 179, 180, 181, 182, 183, 184] (by decide +kernel) (by decide +kernel)
set_option maxRecDepth 20000 in
theorem gX4_scriptCommand_X0_perform : GoodIn wsX4_scriptCommand (wsV RX4 98 RX0 yX0_perform wsX0_perform) := goodIn_app (goodIn_of _ (by decide +kernel)) ggX4_scriptCommand_X0_perform
set_option maxRecDepth 20000 in
theorem ggX4_scriptCommand_X0_hasSite : GoodIn wsX4_scriptCommand wsX0_hasSite := goodIn_r _ [23, 10, 164, 165, 166, 167, 168, 169, 170, 171, 172, 173, 174, 175, 176, 177, 178] (by decide +kernel) (by decide +kernel)
set_option maxRecDepth 20000 in
theorem gX4_scriptCommand_X0_hasSite : GoodIn wsX4_scriptCommand (wsV RX4 248 RX0 yX0_hasSite wsX0_hasSite) := goodIn_app (goodIn_of _ (by decide +kernel)) ggX4_scriptCommand_X0_hasSite
set_option maxRecDepth 20000 in
theorem ggX4_scriptCommand_X2_isFrozen : GoodIn wsX4_scriptCommand wsX2_isFrozen := goodIn_r _ [34, 35, 179, 180, 181, 182, 183, 184] (by decide +kernel) (by decide +kernel)
set_option maxRecDepth 20000 in
theorem gX4_scriptCommand_X2_isFrozen : GoodIn wsX4_scriptCommand (wsV RX4 181 RX2 yX2_isFrozen wsX2_isFrozen) := goodIn_app (goodIn_of _ (by decide +kernel)) ggX4_scriptCommand_X2_isFrozen
set_option maxRecDepth 20000 in
theorem ggX4_scriptCommand_X2_frozenWithin : GoodIn wsX4_scriptCommand wsX2_frozenWithin := goodIn_r _ [126, 118, 31, 32, 33, 34, 35, 179, 180, 181, 182, 183, 184] (by decide +kernel) (by decide +kernel)
set_option maxRecDepth 20000 in
theorem gX4_scriptCommand_X2_frozenWithin : GoodIn wsX4_scriptCommand (wsV RX4 188 RX2 yX2_frozenWithin wsX2_frozenWithin) := goodIn_app (goodIn_of _ (by decide +kernel)) ggX4_scriptCommand_X2_frozenWithin
set_option maxRecDepth 20000 in
theorem ggX4_scriptCommand_X2_layersWithin : GoodIn wsX4_scriptCommand wsX2_layersWithin := goodIn_r _ [148, 149, 150, 151, 33, 152, 118, 31, 32, 34, 35, 179, 180, 181, 182, 183, 184] (by decide +kernel) (by decide +kernel)
set_option maxRecDepth 20000 in
theorem gX4_scriptCommand_X2_layersWithin : GoodIn wsX4_scriptCommand (wsV RX4 149 RX2 yX2_layersWithin wsX2_layersWithin) := goodIn_app (goodIn_of _ (by decide +kernel)) ggX4_scriptCommand_X2_layersWithin
set_option maxRecDepth 20000 in
theorem ggX4_scriptCommand_X0_hasPipe : GoodIn wsX4_scriptCommand wsX0_hasPipe := goodIn_r _ [156, 28, 164, 165, 166, 167, 168, 169, 170, 171, 172, 173, 174, 175, 176, 177, 178] (by decide +kernel) (by decide +kernel)
set_option maxRecDepth 20000 in
theorem gX4_scriptCommand_X0_hasPipe : GoodIn wsX4_scriptCommand (wsV RX4 253 RX0 yX0_hasPipe wsX0_hasPipe) := goodIn_app (goodIn_of _ (by decide +kernel)) ggX4_scriptCommand_X0_hasPipe
theorem dX4_scriptCommand_0 : decode cX4_scriptCommand 0 = .ok (.iload_n 1, 1) := by decide +kernel
theorem dX4_scriptCommand_1 : decode cX4_scriptCommand 1 = .ok (.sipush 10000, 3) := by decide +kernel
theorem dX4_scriptCommand_4 : decode cX4_scriptCommand 4 = .ok (.idiv, 1) := by decide +kernel
theorem dX4_scriptCommand_5 : decode cX4_scriptCommand 5 = .ok (.bipush 10, 2) := by decide +kernel
theorem dX4_scriptCommand_7 : decode cX4_scriptCommand 7 = .ok (.irem, 1) := by decide +kernel
theorem dX4_scriptCommand_8 : decode cX4_scriptCommand 8 = .ok (.istore_n 2, 1) := by decide +kernel
theorem dX4_scriptCommand_9 : decode cX4_scriptCommand 9 = .ok (.iload_n 1, 1) := by decide +kernel
theorem dX4_scriptCommand_10 : decode cX4_scriptCommand 10 = .ok (.sipush 1000, 3) := by decide +kernel
theorem dX4_scriptCommand_13 : decode cX4_scriptCommand 13 = .ok (.idiv, 1) := by decide +kernel
theorem dX4_scriptCommand_14 : decode cX4_scriptCommand 14 = .ok (.bipush 10, 2) := by decide +kernel
theorem dX4_scriptCommand_16 : decode cX4_scriptCommand 16 = .ok (.irem, 1) := by decide +kernel
theorem dX4_scriptCommand_17 : decode cX4_scriptCommand 17 = .ok (.istore_n 3, 1) := by decide +kernel
theorem dX4_scriptCommand_18 : decode cX4_scriptCommand 18 = .ok (.iload_n 1, 1) := by decide +kernel
theorem dX4_scriptCommand_19 : decode cX4_scriptCommand 19 = .ok (.bipush 100, 2) := by decide +kernel
theorem dX4_scriptCommand_21 : decode cX4_scriptCommand 21 = .ok (.idiv, 1) := by decide +kernel
theorem dX4_scriptCommand_22 : decode cX4_scriptCommand 22 = .ok (.bipush 10, 2) := by decide +kernel
theorem dX4_scriptCommand_24 : decode cX4_scriptCommand 24 = .ok (.irem, 1) := by decide +kernel
theorem dX4_scriptCommand_25 : decode cX4_scriptCommand 25 = .ok (.istore 4, 2) := by decide +kernel
theorem dX4_scriptCommand_27 : decode cX4_scriptCommand 27 = .ok (.iload_n 1, 1) := by decide +kernel
theorem dX4_scriptCommand_28 : decode cX4_scriptCommand 28 = .ok (.bipush 10, 2) := by decide +kernel
theorem dX4_scriptCommand_30 : decode cX4_scriptCommand 30 = .ok (.irem, 1) := by decide +kernel
theorem dX4_scriptCommand_31 : decode cX4_scriptCommand 31 = .ok (.istore 5, 2) := by decide +kernel
theorem dX4_scriptCommand_33 : decode cX4_scriptCommand 33 = .ok (.iload_n 1, 1) := by decide +kernel
theorem dX4_scriptCommand_34 : decode cX4_scriptCommand 34 = .ok (.sipush 1000, 3) := by decide +kernel
theorem dX4_scriptCommand_37 : decode cX4_scriptCommand 37 = .ok (.idiv, 1) := by decide +kernel
theorem dX4_scriptCommand_38 : decode cX4_scriptCommand 38 = .ok (.bipush 100, 2) := by decide +kernel
theorem dX4_scriptCommand_40 : decode cX4_scriptCommand 40 = .ok (.irem, 1) := by decide +kernel
theorem dX4_scriptCommand_41 : decode cX4_scriptCommand 41 = .ok (.istore 6, 2) := by decide +kernel
theorem dX4_scriptCommand_43 : decode cX4_scriptCommand 43 = .ok (.iload_n 1, 1) := by decide +kernel
theorem dX4_scriptCommand_44 : decode cX4_scriptCommand 44 = .ok (.bipush 10, 2) := by decide +kernel
theorem dX4_scriptCommand_46 : decode cX4_scriptCommand 46 = .ok (.idiv, 1) := by decide +kernel
theorem dX4_scriptCommand_47 : decode cX4_scriptCommand 47 = .ok (.bipush 100, 2) := by decide +kernel
theorem dX4_scriptCommand_49 : decode cX4_scriptCommand 49 = .ok (.irem, 1) := by decide +kernel
theorem dX4_scriptCommand_50 : decode cX4_scriptCommand 50 = .ok (.istore 7, 2) := by decide +kernel
theorem dX4_scriptCommand_52 : decode cX4_scriptCommand 52 = .ok (.iload_n 1, 1) := by decide +kernel
theorem dX4_scriptCommand_53 : decode cX4_scriptCommand 53 = .ok (.ldc_w 258, 3) := by decide +kernel
theorem dX4_scriptCommand_56 : decode cX4_scriptCommand 56 = .ok (.idiv, 1) := by decide +kernel
theorem dX4_scriptCommand_57 : decode cX4_scriptCommand 57 = .ok (.tableswitch 392 1 9 #[51, 77, 106, 138, 168, 200, 262, 309, 354], 51) := by decide +kernel
theorem dX4_scriptCommand_108 : decode cX4_scriptCommand 108 = .ok (.aload_n 0, 1) := by decide +kernel
theorem dX4_scriptCommand_109 : decode cX4_scriptCommand 109 = .ok (.getfield 23, 3) := by decide +kernel
theorem dX4_scriptCommand_112 : decode cX4_scriptCommand 112 = .ok (.bipush 100, 2) := by decide +kernel
theorem dX4_scriptCommand_114 : decode cX4_scriptCommand 114 = .ok (.iload 6, 2) := by decide +kernel
theorem dX4_scriptCommand_116 : decode cX4_scriptCommand 116 = .ok (.ineg, 1) := by decide +kernel
theorem dX4_scriptCommand_117 : decode cX4_scriptCommand 117 = .ok (.iload 7, 2) := by decide +kernel
theorem dX4_scriptCommand_119 : decode cX4_scriptCommand 119 = .ok (.iload 5, 2) := by decide +kernel
theorem dX4_scriptCommand_121 : decode cX4_scriptCommand 121 = .ok (.invokevirtual 98, 3) := by decide +kernel
theorem dX4_scriptCommand_124 : decode cX4_scriptCommand 124 = .ok (.iconst (-1), 1) := by decide +kernel
theorem dX4_scriptCommand_125 : decode cX4_scriptCommand 125 = .ok (.if_icmp .eq 7, 3) := by decide +kernel
theorem dX4_scriptCommand_128 : decode cX4_scriptCommand 128 = .ok (.iconst 1, 1) := by decide +kernel
theorem dX4_scriptCommand_129 : decode cX4_scriptCommand 129 = .ok (.goto 4, 3) := by decide +kernel
theorem dX4_scriptCommand_132 : decode cX4_scriptCommand 132 = .ok (.iconst 0, 1) := by decide +kernel
theorem dX4_scriptCommand_133 : decode cX4_scriptCommand 133 = .ok (.ireturn, 1) := by decide +kernel
theorem dX4_scriptCommand_134 : decode cX4_scriptCommand 134 = .ok (.iload 7, 2) := by decide +kernel
theorem dX4_scriptCommand_136 : decode cX4_scriptCommand 136 = .ok (.ifCond .ne 25, 3) := by decide +kernel
theorem dX4_scriptCommand_139 : decode cX4_scriptCommand 139 = .ok (.aload_n 0, 1) := by decide +kernel
theorem dX4_scriptCommand_140 : decode cX4_scriptCommand 140 = .ok (.getfield 23, 3) := by decide +kernel
theorem dX4_scriptCommand_143 : decode cX4_scriptCommand 143 = .ok (.bipush 100, 2) := by decide +kernel
theorem dX4_scriptCommand_145 : decode cX4_scriptCommand 145 = .ok (.iload 6, 2) := by decide +kernel
theorem dX4_scriptCommand_147 : decode cX4_scriptCommand 147 = .ok (.iconst 0, 1) := by decide +kernel
theorem dX4_scriptCommand_148 : decode cX4_scriptCommand 148 = .ok (.iload 5, 2) := by decide +kernel
theorem dX4_scriptCommand_150 : decode cX4_scriptCommand 150 = .ok (.invokevirtual 98, 3) := by decide +kernel
theorem dX4_scriptCommand_153 : decode cX4_scriptCommand 153 = .ok (.iconst (-1), 1) := by decide +kernel
theorem dX4_scriptCommand_154 : decode cX4_scriptCommand 154 = .ok (.if_icmp .eq 7, 3) := by decide +kernel
theorem dX4_scriptCommand_157 : decode cX4_scriptCommand 157 = .ok (.iconst 1, 1) := by decide +kernel
theorem dX4_scriptCommand_158 : decode cX4_scriptCommand 158 = .ok (.goto 4, 3) := by decide +kernel
theorem dX4_scriptCommand_161 : decode cX4_scriptCommand 161 = .ok (.iconst 0, 1) := by decide +kernel
theorem dX4_scriptCommand_162 : decode cX4_scriptCommand 162 = .ok (.ireturn, 1) := by decide +kernel
theorem dX4_scriptCommand_163 : decode cX4_scriptCommand 163 = .ok (.iload_n 3, 1) := by decide +kernel
theorem dX4_scriptCommand_164 : decode cX4_scriptCommand 164 = .ok (.ifCond .ne 29, 3) := by decide +kernel
theorem dX4_scriptCommand_167 : decode cX4_scriptCommand 167 = .ok (.iload 5, 2) := by decide +kernel
theorem dX4_scriptCommand_169 : decode cX4_scriptCommand 169 = .ok (.ifCond .ne 24, 3) := by decide +kernel
theorem dX4_scriptCommand_172 : decode cX4_scriptCommand 172 = .ok (.aload_n 0, 1) := by decide +kernel
theorem dX4_scriptCommand_173 : decode cX4_scriptCommand 173 = .ok (.getfield 23, 3) := by decide +kernel
theorem dX4_scriptCommand_176 : decode cX4_scriptCommand 176 = .ok (.bipush 102, 2) := by decide +kernel
theorem dX4_scriptCommand_178 : decode cX4_scriptCommand 178 = .ok (.iload_n 2, 1) := by decide +kernel
theorem dX4_scriptCommand_179 : decode cX4_scriptCommand 179 = .ok (.iload 7, 2) := by decide +kernel
theorem dX4_scriptCommand_181 : decode cX4_scriptCommand 181 = .ok (.iconst 0, 1) := by decide +kernel
theorem dX4_scriptCommand_182 : decode cX4_scriptCommand 182 = .ok (.invokevirtual 98, 3) := by decide +kernel
theorem dX4_scriptCommand_185 : decode cX4_scriptCommand 185 = .ok (.iconst (-1), 1) := by decide +kernel
theorem dX4_scriptCommand_186 : decode cX4_scriptCommand 186 = .ok (.if_icmp .eq 7, 3) := by decide +kernel
theorem dX4_scriptCommand_189 : decode cX4_scriptCommand 189 = .ok (.iconst 1, 1) := by decide +kernel
theorem dX4_scriptCommand_190 : decode cX4_scriptCommand 190 = .ok (.goto 4, 3) := by decide +kernel
theorem dX4_scriptCommand_193 : decode cX4_scriptCommand 193 = .ok (.iconst 0, 1) := by decide +kernel
theorem dX4_scriptCommand_194 : decode cX4_scriptCommand 194 = .ok (.ireturn, 1) := by decide +kernel
theorem dX4_scriptCommand_195 : decode cX4_scriptCommand 195 = .ok (.iload_n 1, 1) := by decide +kernel
theorem dX4_scriptCommand_196 : decode cX4_scriptCommand 196 = .ok (.sipush 10000, 3) := by decide +kernel
theorem dX4_scriptCommand_199 : decode cX4_scriptCommand 199 = .ok (.irem, 1) := by decide +kernel
theorem dX4_scriptCommand_200 : decode cX4_scriptCommand 200 = .ok (.ifCond .ne 23, 3) := by decide +kernel
theorem dX4_scriptCommand_203 : decode cX4_scriptCommand 203 = .ok (.aload_n 0, 1) := by decide +kernel
theorem dX4_scriptCommand_204 : decode cX4_scriptCommand 204 = .ok (.getfield 23, 3) := by decide +kernel
theorem dX4_scriptCommand_207 : decode cX4_scriptCommand 207 = .ok (.bipush 120, 2) := by decide +kernel
theorem dX4_scriptCommand_209 : decode cX4_scriptCommand 209 = .ok (.iload_n 2, 1) := by decide +kernel
theorem dX4_scriptCommand_210 : decode cX4_scriptCommand 210 = .ok (.iconst 0, 1) := by decide +kernel
theorem dX4_scriptCommand_211 : decode cX4_scriptCommand 211 = .ok (.iconst 0, 1) := by decide +kernel
theorem dX4_scriptCommand_212 : decode cX4_scriptCommand 212 = .ok (.invokevirtual 98, 3) := by decide +kernel
theorem dX4_scriptCommand_215 : decode cX4_scriptCommand 215 = .ok (.iconst (-1), 1) := by decide +kernel
theorem dX4_scriptCommand_216 : decode cX4_scriptCommand 216 = .ok (.if_icmp .eq 7, 3) := by decide +kernel
theorem dX4_scriptCommand_219 : decode cX4_scriptCommand 219 = .ok (.iconst 1, 1) := by decide +kernel
theorem dX4_scriptCommand_220 : decode cX4_scriptCommand 220 = .ok (.goto 4, 3) := by decide +kernel
theorem dX4_scriptCommand_223 : decode cX4_scriptCommand 223 = .ok (.iconst 0, 1) := by decide +kernel
theorem dX4_scriptCommand_224 : decode cX4_scriptCommand 224 = .ok (.ireturn, 1) := by decide +kernel
theorem dX4_scriptCommand_225 : decode cX4_scriptCommand 225 = .ok (.iload_n 3, 1) := by decide +kernel
theorem dX4_scriptCommand_226 : decode cX4_scriptCommand 226 = .ok (.ifCond .ne 29, 3) := by decide +kernel
theorem dX4_scriptCommand_229 : decode cX4_scriptCommand 229 = .ok (.iload 5, 2) := by decide +kernel
theorem dX4_scriptCommand_231 : decode cX4_scriptCommand 231 = .ok (.ifCond .ne 24, 3) := by decide +kernel
theorem dX4_scriptCommand_234 : decode cX4_scriptCommand 234 = .ok (.aload_n 0, 1) := by decide +kernel
theorem dX4_scriptCommand_235 : decode cX4_scriptCommand 235 = .ok (.getfield 23, 3) := by decide +kernel
theorem dX4_scriptCommand_238 : decode cX4_scriptCommand 238 = .ok (.bipush 101, 2) := by decide +kernel
theorem dX4_scriptCommand_240 : decode cX4_scriptCommand 240 = .ok (.iload_n 2, 1) := by decide +kernel
theorem dX4_scriptCommand_241 : decode cX4_scriptCommand 241 = .ok (.iload 7, 2) := by decide +kernel
theorem dX4_scriptCommand_243 : decode cX4_scriptCommand 243 = .ok (.iconst 0, 1) := by decide +kernel
theorem dX4_scriptCommand_244 : decode cX4_scriptCommand 244 = .ok (.invokevirtual 98, 3) := by decide +kernel
theorem dX4_scriptCommand_247 : decode cX4_scriptCommand 247 = .ok (.iconst (-1), 1) := by decide +kernel
theorem dX4_scriptCommand_248 : decode cX4_scriptCommand 248 = .ok (.if_icmp .eq 7, 3) := by decide +kernel
theorem dX4_scriptCommand_251 : decode cX4_scriptCommand 251 = .ok (.iconst 1, 1) := by decide +kernel
theorem dX4_scriptCommand_252 : decode cX4_scriptCommand 252 = .ok (.goto 4, 3) := by decide +kernel
theorem dX4_scriptCommand_255 : decode cX4_scriptCommand 255 = .ok (.iconst 0, 1) := by decide +kernel
theorem dX4_scriptCommand_256 : decode cX4_scriptCommand 256 = .ok (.ireturn, 1) := by decide +kernel
theorem dX4_scriptCommand_257 : decode cX4_scriptCommand 257 = .ok (.iload_n 3, 1) := by decide +kernel
theorem dX4_scriptCommand_258 : decode cX4_scriptCommand 258 = .ok (.ifCond .ne 59, 3) := by decide +kernel
theorem dX4_scriptCommand_261 : decode cX4_scriptCommand 261 = .ok (.iload 5, 2) := by decide +kernel
theorem dX4_scriptCommand_263 : decode cX4_scriptCommand 263 = .ok (.iconst 1, 1) := by decide +kernel
theorem dX4_scriptCommand_264 : decode cX4_scriptCommand 264 = .ok (.if_icmp .gt 53, 3) := by decide +kernel
theorem dX4_scriptCommand_267 : decode cX4_scriptCommand 267 = .ok (.iload 7, 2) := by decide +kernel
theorem dX4_scriptCommand_269 : decode cX4_scriptCommand 269 = .ok (.bipush 30, 2) := by decide +kernel
theorem dX4_scriptCommand_271 : decode cX4_scriptCommand 271 = .ok (.if_icmp .ge 46, 3) := by decide +kernel
theorem dX4_scriptCommand_274 : decode cX4_scriptCommand 274 = .ok (.aload_n 0, 1) := by decide +kernel
theorem dX4_scriptCommand_275 : decode cX4_scriptCommand 275 = .ok (.getfield 23, 3) := by decide +kernel
theorem dX4_scriptCommand_278 : decode cX4_scriptCommand 278 = .ok (.iload_n 2, 1) := by decide +kernel
theorem dX4_scriptCommand_279 : decode cX4_scriptCommand 279 = .ok (.invokevirtual 248, 3) := by decide +kernel
theorem dX4_scriptCommand_282 : decode cX4_scriptCommand 282 = .ok (.ifCond .eq 35, 3) := by decide +kernel
theorem dX4_scriptCommand_285 : decode cX4_scriptCommand 285 = .ok (.aload_n 0, 1) := by decide +kernel
theorem dX4_scriptCommand_286 : decode cX4_scriptCommand 286 = .ok (.getfield 23, 3) := by decide +kernel
theorem dX4_scriptCommand_289 : decode cX4_scriptCommand 289 = .ok (.getfield 109, 3) := by decide +kernel
theorem dX4_scriptCommand_292 : decode cX4_scriptCommand 292 = .ok (.iload_n 2, 1) := by decide +kernel
theorem dX4_scriptCommand_293 : decode cX4_scriptCommand 293 = .ok (.aaload, 1) := by decide +kernel
theorem dX4_scriptCommand_294 : decode cX4_scriptCommand 294 = .ok (.iload 7, 2) := by decide +kernel
theorem dX4_scriptCommand_296 : decode cX4_scriptCommand 296 = .ok (.invokevirtual 181, 3) := by decide +kernel
theorem dX4_scriptCommand_299 : decode cX4_scriptCommand 299 = .ok (.iload 5, 2) := by decide +kernel
theorem dX4_scriptCommand_301 : decode cX4_scriptCommand 301 = .ok (.iconst 1, 1) := by decide +kernel
theorem dX4_scriptCommand_302 : decode cX4_scriptCommand 302 = .ok (.if_icmp .ne 7, 3) := by decide +kernel
theorem dX4_scriptCommand_305 : decode cX4_scriptCommand 305 = .ok (.iconst 1, 1) := by decide +kernel
theorem dX4_scriptCommand_306 : decode cX4_scriptCommand 306 = .ok (.goto 4, 3) := by decide +kernel
theorem dX4_scriptCommand_309 : decode cX4_scriptCommand 309 = .ok (.iconst 0, 1) := by decide +kernel
theorem dX4_scriptCommand_310 : decode cX4_scriptCommand 310 = .ok (.if_icmp .ne 7, 3) := by decide +kernel
theorem dX4_scriptCommand_313 : decode cX4_scriptCommand 313 = .ok (.iconst 1, 1) := by decide +kernel
theorem dX4_scriptCommand_314 : decode cX4_scriptCommand 314 = .ok (.goto 4, 3) := by decide +kernel
theorem dX4_scriptCommand_317 : decode cX4_scriptCommand 317 = .ok (.iconst 0, 1) := by decide +kernel
theorem dX4_scriptCommand_318 : decode cX4_scriptCommand 318 = .ok (.ireturn, 1) := by decide +kernel
theorem dX4_scriptCommand_319 : decode cX4_scriptCommand 319 = .ok (.iload_n 3, 1) := by decide +kernel
theorem dX4_scriptCommand_320 : decode cX4_scriptCommand 320 = .ok (.ifCond .ne 44, 3) := by decide +kernel
theorem dX4_scriptCommand_323 : decode cX4_scriptCommand 323 = .ok (.iload 4, 2) := by decide +kernel
theorem dX4_scriptCommand_325 : decode cX4_scriptCommand 325 = .ok (.ifCond .ne 39, 3) := by decide +kernel
theorem dX4_scriptCommand_328 : decode cX4_scriptCommand 328 = .ok (.aload_n 0, 1) := by decide +kernel
theorem dX4_scriptCommand_329 : decode cX4_scriptCommand 329 = .ok (.getfield 23, 3) := by decide +kernel
theorem dX4_scriptCommand_332 : decode cX4_scriptCommand 332 = .ok (.iload_n 2, 1) := by decide +kernel
theorem dX4_scriptCommand_333 : decode cX4_scriptCommand 333 = .ok (.invokevirtual 248, 3) := by decide +kernel
theorem dX4_scriptCommand_336 : decode cX4_scriptCommand 336 = .ok (.ifCond .eq 28, 3) := by decide +kernel
theorem dX4_scriptCommand_339 : decode cX4_scriptCommand 339 = .ok (.aload_n 0, 1) := by decide +kernel
theorem dX4_scriptCommand_340 : decode cX4_scriptCommand 340 = .ok (.getfield 23, 3) := by decide +kernel
theorem dX4_scriptCommand_343 : decode cX4_scriptCommand 343 = .ok (.getfield 109, 3) := by decide +kernel
theorem dX4_scriptCommand_346 : decode cX4_scriptCommand 346 = .ok (.iload_n 2, 1) := by decide +kernel
theorem dX4_scriptCommand_347 : decode cX4_scriptCommand 347 = .ok (.aaload, 1) := by decide +kernel
theorem dX4_scriptCommand_348 : decode cX4_scriptCommand 348 = .ok (.bipush 30, 2) := by decide +kernel
theorem dX4_scriptCommand_350 : decode cX4_scriptCommand 350 = .ok (.invokevirtual 188, 3) := by decide +kernel
theorem dX4_scriptCommand_353 : decode cX4_scriptCommand 353 = .ok (.iload_n 1, 1) := by decide +kernel
theorem dX4_scriptCommand_354 : decode cX4_scriptCommand 354 = .ok (.bipush 100, 2) := by decide +kernel
theorem dX4_scriptCommand_356 : decode cX4_scriptCommand 356 = .ok (.irem, 1) := by decide +kernel
theorem dX4_scriptCommand_357 : decode cX4_scriptCommand 357 = .ok (.if_icmp .lt 7, 3) := by decide +kernel
theorem dX4_scriptCommand_360 : decode cX4_scriptCommand 360 = .ok (.iconst 1, 1) := by decide +kernel
theorem dX4_scriptCommand_361 : decode cX4_scriptCommand 361 = .ok (.goto 4, 3) := by decide +kernel
theorem dX4_scriptCommand_364 : decode cX4_scriptCommand 364 = .ok (.iconst 0, 1) := by decide +kernel
theorem dX4_scriptCommand_365 : decode cX4_scriptCommand 365 = .ok (.ireturn, 1) := by decide +kernel
theorem dX4_scriptCommand_366 : decode cX4_scriptCommand 366 = .ok (.iload_n 3, 1) := by decide +kernel
theorem dX4_scriptCommand_367 : decode cX4_scriptCommand 367 = .ok (.ifCond .ne 42, 3) := by decide +kernel
theorem dX4_scriptCommand_370 : decode cX4_scriptCommand 370 = .ok (.iload 7, 2) := by decide +kernel
theorem dX4_scriptCommand_372 : decode cX4_scriptCommand 372 = .ok (.ifCond .ne 37, 3) := by decide +kernel
theorem dX4_scriptCommand_375 : decode cX4_scriptCommand 375 = .ok (.aload_n 0, 1) := by decide +kernel
theorem dX4_scriptCommand_376 : decode cX4_scriptCommand 376 = .ok (.getfield 23, 3) := by decide +kernel
theorem dX4_scriptCommand_379 : decode cX4_scriptCommand 379 = .ok (.iload_n 2, 1) := by decide +kernel
theorem dX4_scriptCommand_380 : decode cX4_scriptCommand 380 = .ok (.invokevirtual 248, 3) := by decide +kernel
theorem dX4_scriptCommand_383 : decode cX4_scriptCommand 383 = .ok (.ifCond .eq 26, 3) := by decide +kernel
theorem dX4_scriptCommand_386 : decode cX4_scriptCommand 386 = .ok (.aload_n 0, 1) := by decide +kernel
theorem dX4_scriptCommand_387 : decode cX4_scriptCommand 387 = .ok (.getfield 23, 3) := by decide +kernel
theorem dX4_scriptCommand_390 : decode cX4_scriptCommand 390 = .ok (.getfield 109, 3) := by decide +kernel
theorem dX4_scriptCommand_393 : decode cX4_scriptCommand 393 = .ok (.iload_n 2, 1) := by decide +kernel
theorem dX4_scriptCommand_394 : decode cX4_scriptCommand 394 = .ok (.aaload, 1) := by decide +kernel
theorem dX4_scriptCommand_395 : decode cX4_scriptCommand 395 = .ok (.bipush 30, 2) := by decide +kernel
theorem dX4_scriptCommand_397 : decode cX4_scriptCommand 397 = .ok (.invokevirtual 149, 3) := by decide +kernel
theorem dX4_scriptCommand_400 : decode cX4_scriptCommand 400 = .ok (.iload 5, 2) := by decide +kernel
theorem dX4_scriptCommand_402 : decode cX4_scriptCommand 402 = .ok (.if_icmp .ne 7, 3) := by decide +kernel
theorem dX4_scriptCommand_405 : decode cX4_scriptCommand 405 = .ok (.iconst 1, 1) := by decide +kernel
theorem dX4_scriptCommand_406 : decode cX4_scriptCommand 406 = .ok (.goto 4, 3) := by decide +kernel
theorem dX4_scriptCommand_409 : decode cX4_scriptCommand 409 = .ok (.iconst 0, 1) := by decide +kernel
theorem dX4_scriptCommand_410 : decode cX4_scriptCommand 410 = .ok (.ireturn, 1) := by decide +kernel
theorem dX4_scriptCommand_411 : decode cX4_scriptCommand 411 = .ok (.iload_n 3, 1) := by decide +kernel
theorem dX4_scriptCommand_412 : decode cX4_scriptCommand 412 = .ok (.ifCond .ne 35, 3) := by decide +kernel
theorem dX4_scriptCommand_415 : decode cX4_scriptCommand 415 = .ok (.aload_n 0, 1) := by decide +kernel
theorem dX4_scriptCommand_416 : decode cX4_scriptCommand 416 = .ok (.getfield 23, 3) := by decide +kernel
theorem dX4_scriptCommand_419 : decode cX4_scriptCommand 419 = .ok (.iload_n 2, 1) := by decide +kernel
theorem dX4_scriptCommand_420 : decode cX4_scriptCommand 420 = .ok (.invokevirtual 253, 3) := by decide +kernel
theorem dX4_scriptCommand_423 : decode cX4_scriptCommand 423 = .ok (.ifCond .eq 24, 3) := by decide +kernel
theorem dX4_scriptCommand_426 : decode cX4_scriptCommand 426 = .ok (.aload_n 0, 1) := by decide +kernel
theorem dX4_scriptCommand_427 : decode cX4_scriptCommand 427 = .ok (.getfield 23, 3) := by decide +kernel
theorem dX4_scriptCommand_430 : decode cX4_scriptCommand 430 = .ok (.getfield 194, 3) := by decide +kernel
theorem dX4_scriptCommand_433 : decode cX4_scriptCommand 433 = .ok (.iload_n 2, 1) := by decide +kernel
theorem dX4_scriptCommand_434 : decode cX4_scriptCommand 434 = .ok (.iaload, 1) := by decide +kernel
theorem dX4_scriptCommand_435 : decode cX4_scriptCommand 435 = .ok (.iload_n 1, 1) := by decide +kernel
theorem dX4_scriptCommand_436 : decode cX4_scriptCommand 436 = .ok (.sipush 1000, 3) := by decide +kernel
theorem dX4_scriptCommand_439 : decode cX4_scriptCommand 439 = .ok (.irem, 1) := by decide +kernel
theorem dX4_scriptCommand_440 : decode cX4_scriptCommand 440 = .ok (.if_icmp .lt 7, 3) := by decide +kernel
theorem dX4_scriptCommand_443 : decode cX4_scriptCommand 443 = .ok (.iconst 1, 1) := by decide +kernel
theorem dX4_scriptCommand_444 : decode cX4_scriptCommand 444 = .ok (.goto 4, 3) := by decide +kernel
theorem dX4_scriptCommand_447 : decode cX4_scriptCommand 447 = .ok (.iconst 0, 1) := by decide +kernel
theorem dX4_scriptCommand_448 : decode cX4_scriptCommand 448 = .ok (.ireturn, 1) := by decide +kernel
theorem dX4_scriptCommand_449 : decode cX4_scriptCommand 449 = .ok (.iconst 0, 1) := by decide +kernel
theorem dX4_scriptCommand_450 : decode cX4_scriptCommand 450 = .ok (.ireturn, 1) := by decide +kernel
set_option maxRecDepth 20000 in
theorem ggX4_simulatedTurn_X0_perform : GoodIn wsX4_simulatedTurn wsX0_perform := goodIn_r _ [6, 7, 8, 9, 10, 5, 11, 12, 13, 14, 15, 16, 17, 18, 19, 20, 21, 22, 23, 24, 25, 26, 27, 28, 29, 30, 31, 32, 33, 34, 35, 36, 37, 38, 39, 40, 41, 42, 43, 44, 45, 46, 47, 48, 49, 50, 51, 52, 53, 54, 55, 56, 57, 58, 59, 60, 61, 62, 63, 64, 65, 66, 67, 68, 69, 70, 71, 72, 73, 74, 75, 76, 77, 78, 79, 80, 81, 82, 83, 84, 85, 86, 87, 88, 89, 90, 91, 92, 93, 94, 95, 96, 97, 98, 99, 100, 101, 102, 103, 104, 105, 106, 107, 108, 109, 110, 111, 112, 113, 114, 115, 116, 117, 118, 119, 120, 121, 122, 123, 124, 125, 126, 127, 128, 129, 130, 131, 132, 133, 134, 135, 136, 137, 138, 146, 147, 148, 149, 150, 151, 152, 153, 154, 155, 156, 157, 158, 159, 160, 161, 162, 163, 164, 165, 166] (by decide +kernel) (by decide +kernel)
set_option maxRecDepth 20000 in
theorem gX4_simulatedTurn_X0_perform : GoodIn wsX4_simulatedTurn (wsV RX4 98 RX0 yX0_perform wsX0_perform) := goodIn_app (goodIn_of _ (by decide +kernel)) ggX4_simulatedTurn_X0_perform
theorem dX4_simulatedTurn_0 : decode cX4_simulatedTurn 0 = .ok (.iload_n 1, 1) := by decide +kernel
theorem dX4_simulatedTurn_1 : decode cX4_simulatedTurn 1 = .ok (.bipush 16, 2) := by decide +kernel
theorem dX4_simulatedTurn_3 : decode cX4_simulatedTurn 3 = .ok (.idiv, 1) := by decide +kernel
theorem dX4_simulatedTurn_4 : decode cX4_simulatedTurn 4 = .ok (.istore_n 2, 1) := by decide +kernel
theorem dX4_simulatedTurn_5 : decode cX4_simulatedTurn 5 = .ok (.iload_n 1, 1) := by decide +kernel
theorem dX4_simulatedTurn_6 : decode cX4_simulatedTurn 6 = .ok (.bipush 16, 2) := by decide +kernel
theorem dX4_simulatedTurn_8 : decode cX4_simulatedTurn 8 = .ok (.irem, 1) := by decide +kernel
theorem dX4_simulatedTurn_9 : decode cX4_simulatedTurn 9 = .ok (.tableswitch 241 0 11 #[63, 79, 104, 127, 150, 168, 191, 207, 207, 207, 207, 207], 63) := by decide +kernel
theorem dX4_simulatedTurn_72 : decode cX4_simulatedTurn 72 = .ok (.aload_n 0, 1) := by decide +kernel
theorem dX4_simulatedTurn_73 : decode cX4_simulatedTurn 73 = .ok (.getfield 23, 3) := by decide +kernel
theorem dX4_simulatedTurn_76 : decode cX4_simulatedTurn 76 = .ok (.bipush 115, 2) := by decide +kernel
theorem dX4_simulatedTurn_78 : decode cX4_simulatedTurn 78 = .ok (.iconst 0, 1) := by decide +kernel
theorem dX4_simulatedTurn_79 : decode cX4_simulatedTurn 79 = .ok (.iconst 0, 1) := by decide +kernel
theorem dX4_simulatedTurn_80 : decode cX4_simulatedTurn 80 = .ok (.iconst 0, 1) := by decide +kernel
theorem dX4_simulatedTurn_81 : decode cX4_simulatedTurn 81 = .ok (.invokevirtual 98, 3) := by decide +kernel
theorem dX4_simulatedTurn_84 : decode cX4_simulatedTurn 84 = .ok (.pop, 1) := by decide +kernel
theorem dX4_simulatedTurn_85 : decode cX4_simulatedTurn 85 = .ok (.goto 188, 3) := by decide +kernel
theorem dX4_simulatedTurn_88 : decode cX4_simulatedTurn 88 = .ok (.aload_n 0, 1) := by decide +kernel
theorem dX4_simulatedTurn_89 : decode cX4_simulatedTurn 89 = .ok (.getfield 23, 3) := by decide +kernel
theorem dX4_simulatedTurn_92 : decode cX4_simulatedTurn 92 = .ok (.bipush 116, 2) := by decide +kernel
theorem dX4_simulatedTurn_94 : decode cX4_simulatedTurn 94 = .ok (.iload_n 2, 1) := by decide +kernel
theorem dX4_simulatedTurn_95 : decode cX4_simulatedTurn 95 = .ok (.iconst 4, 1) := by decide +kernel
theorem dX4_simulatedTurn_96 : decode cX4_simulatedTurn 96 = .ok (.irem, 1) := by decide +kernel
theorem dX4_simulatedTurn_97 : decode cX4_simulatedTurn 97 = .ok (.iconst 1, 1) := by decide +kernel
theorem dX4_simulatedTurn_98 : decode cX4_simulatedTurn 98 = .ok (.iload_n 2, 1) := by decide +kernel
theorem dX4_simulatedTurn_99 : decode cX4_simulatedTurn 99 = .ok (.iconst 4, 1) := by decide +kernel
theorem dX4_simulatedTurn_100 : decode cX4_simulatedTurn 100 = .ok (.idiv, 1) := by decide +kernel
theorem dX4_simulatedTurn_101 : decode cX4_simulatedTurn 101 = .ok (.bipush 30, 2) := by decide +kernel
theorem dX4_simulatedTurn_103 : decode cX4_simulatedTurn 103 = .ok (.irem, 1) := by decide +kernel
theorem dX4_simulatedTurn_104 : decode cX4_simulatedTurn 104 = .ok (.iadd, 1) := by decide +kernel
theorem dX4_simulatedTurn_105 : decode cX4_simulatedTurn 105 = .ok (.iconst 0, 1) := by decide +kernel
theorem dX4_simulatedTurn_106 : decode cX4_simulatedTurn 106 = .ok (.invokevirtual 98, 3) := by decide +kernel
theorem dX4_simulatedTurn_109 : decode cX4_simulatedTurn 109 = .ok (.pop, 1) := by decide +kernel
theorem dX4_simulatedTurn_110 : decode cX4_simulatedTurn 110 = .ok (.goto 163, 3) := by decide +kernel
theorem dX4_simulatedTurn_113 : decode cX4_simulatedTurn 113 = .ok (.aload_n 0, 1) := by decide +kernel
theorem dX4_simulatedTurn_114 : decode cX4_simulatedTurn 114 = .ok (.getfield 23, 3) := by decide +kernel
theorem dX4_simulatedTurn_117 : decode cX4_simulatedTurn 117 = .ok (.bipush 112, 2) := by decide +kernel
theorem dX4_simulatedTurn_119 : decode cX4_simulatedTurn 119 = .ok (.iload_n 2, 1) := by decide +kernel
theorem dX4_simulatedTurn_120 : decode cX4_simulatedTurn 120 = .ok (.iconst 4, 1) := by decide +kernel
theorem dX4_simulatedTurn_121 : decode cX4_simulatedTurn 121 = .ok (.irem, 1) := by decide +kernel
theorem dX4_simulatedTurn_122 : decode cX4_simulatedTurn 122 = .ok (.iload_n 2, 1) := by decide +kernel
theorem dX4_simulatedTurn_123 : decode cX4_simulatedTurn 123 = .ok (.iconst 4, 1) := by decide +kernel
theorem dX4_simulatedTurn_124 : decode cX4_simulatedTurn 124 = .ok (.idiv, 1) := by decide +kernel
theorem dX4_simulatedTurn_125 : decode cX4_simulatedTurn 125 = .ok (.bipush 30, 2) := by decide +kernel
theorem dX4_simulatedTurn_127 : decode cX4_simulatedTurn 127 = .ok (.irem, 1) := by decide +kernel
theorem dX4_simulatedTurn_128 : decode cX4_simulatedTurn 128 = .ok (.iconst 0, 1) := by decide +kernel
theorem dX4_simulatedTurn_129 : decode cX4_simulatedTurn 129 = .ok (.invokevirtual 98, 3) := by decide +kernel
theorem dX4_simulatedTurn_132 : decode cX4_simulatedTurn 132 = .ok (.pop, 1) := by decide +kernel
theorem dX4_simulatedTurn_133 : decode cX4_simulatedTurn 133 = .ok (.goto 140, 3) := by decide +kernel
theorem dX4_simulatedTurn_136 : decode cX4_simulatedTurn 136 = .ok (.aload_n 0, 1) := by decide +kernel
theorem dX4_simulatedTurn_137 : decode cX4_simulatedTurn 137 = .ok (.getfield 23, 3) := by decide +kernel
theorem dX4_simulatedTurn_140 : decode cX4_simulatedTurn 140 = .ok (.bipush 102, 2) := by decide +kernel
theorem dX4_simulatedTurn_142 : decode cX4_simulatedTurn 142 = .ok (.iload_n 2, 1) := by decide +kernel
theorem dX4_simulatedTurn_143 : decode cX4_simulatedTurn 143 = .ok (.iconst 4, 1) := by decide +kernel
theorem dX4_simulatedTurn_144 : decode cX4_simulatedTurn 144 = .ok (.irem, 1) := by decide +kernel
theorem dX4_simulatedTurn_145 : decode cX4_simulatedTurn 145 = .ok (.iload_n 2, 1) := by decide +kernel
theorem dX4_simulatedTurn_146 : decode cX4_simulatedTurn 146 = .ok (.iconst 4, 1) := by decide +kernel
theorem dX4_simulatedTurn_147 : decode cX4_simulatedTurn 147 = .ok (.idiv, 1) := by decide +kernel
theorem dX4_simulatedTurn_148 : decode cX4_simulatedTurn 148 = .ok (.bipush 21, 2) := by decide +kernel
theorem dX4_simulatedTurn_150 : decode cX4_simulatedTurn 150 = .ok (.irem, 1) := by decide +kernel
theorem dX4_simulatedTurn_151 : decode cX4_simulatedTurn 151 = .ok (.iconst 0, 1) := by decide +kernel
theorem dX4_simulatedTurn_152 : decode cX4_simulatedTurn 152 = .ok (.invokevirtual 98, 3) := by decide +kernel
theorem dX4_simulatedTurn_155 : decode cX4_simulatedTurn 155 = .ok (.pop, 1) := by decide +kernel
theorem dX4_simulatedTurn_156 : decode cX4_simulatedTurn 156 = .ok (.goto 117, 3) := by decide +kernel
theorem dX4_simulatedTurn_159 : decode cX4_simulatedTurn 159 = .ok (.aload_n 0, 1) := by decide +kernel
theorem dX4_simulatedTurn_160 : decode cX4_simulatedTurn 160 = .ok (.getfield 23, 3) := by decide +kernel
theorem dX4_simulatedTurn_163 : decode cX4_simulatedTurn 163 = .ok (.bipush 120, 2) := by decide +kernel
theorem dX4_simulatedTurn_165 : decode cX4_simulatedTurn 165 = .ok (.iload_n 2, 1) := by decide +kernel
theorem dX4_simulatedTurn_166 : decode cX4_simulatedTurn 166 = .ok (.iconst 4, 1) := by decide +kernel
theorem dX4_simulatedTurn_167 : decode cX4_simulatedTurn 167 = .ok (.irem, 1) := by decide +kernel
theorem dX4_simulatedTurn_168 : decode cX4_simulatedTurn 168 = .ok (.iconst 0, 1) := by decide +kernel
theorem dX4_simulatedTurn_169 : decode cX4_simulatedTurn 169 = .ok (.iconst 0, 1) := by decide +kernel
theorem dX4_simulatedTurn_170 : decode cX4_simulatedTurn 170 = .ok (.invokevirtual 98, 3) := by decide +kernel
theorem dX4_simulatedTurn_173 : decode cX4_simulatedTurn 173 = .ok (.pop, 1) := by decide +kernel
theorem dX4_simulatedTurn_174 : decode cX4_simulatedTurn 174 = .ok (.goto 99, 3) := by decide +kernel
theorem dX4_simulatedTurn_177 : decode cX4_simulatedTurn 177 = .ok (.aload_n 0, 1) := by decide +kernel
theorem dX4_simulatedTurn_178 : decode cX4_simulatedTurn 178 = .ok (.getfield 23, 3) := by decide +kernel
theorem dX4_simulatedTurn_181 : decode cX4_simulatedTurn 181 = .ok (.bipush 101, 2) := by decide +kernel
theorem dX4_simulatedTurn_183 : decode cX4_simulatedTurn 183 = .ok (.iload_n 2, 1) := by decide +kernel
theorem dX4_simulatedTurn_184 : decode cX4_simulatedTurn 184 = .ok (.iconst 3, 1) := by decide +kernel
theorem dX4_simulatedTurn_185 : decode cX4_simulatedTurn 185 = .ok (.irem, 1) := by decide +kernel
theorem dX4_simulatedTurn_186 : decode cX4_simulatedTurn 186 = .ok (.iload_n 2, 1) := by decide +kernel
theorem dX4_simulatedTurn_187 : decode cX4_simulatedTurn 187 = .ok (.iconst 4, 1) := by decide +kernel
theorem dX4_simulatedTurn_188 : decode cX4_simulatedTurn 188 = .ok (.idiv, 1) := by decide +kernel
theorem dX4_simulatedTurn_189 : decode cX4_simulatedTurn 189 = .ok (.bipush 31, 2) := by decide +kernel
theorem dX4_simulatedTurn_191 : decode cX4_simulatedTurn 191 = .ok (.irem, 1) := by decide +kernel
theorem dX4_simulatedTurn_192 : decode cX4_simulatedTurn 192 = .ok (.iconst 0, 1) := by decide +kernel
theorem dX4_simulatedTurn_193 : decode cX4_simulatedTurn 193 = .ok (.invokevirtual 98, 3) := by decide +kernel
theorem dX4_simulatedTurn_196 : decode cX4_simulatedTurn 196 = .ok (.pop, 1) := by decide +kernel
theorem dX4_simulatedTurn_197 : decode cX4_simulatedTurn 197 = .ok (.goto 76, 3) := by decide +kernel
theorem dX4_simulatedTurn_200 : decode cX4_simulatedTurn 200 = .ok (.aload_n 0, 1) := by decide +kernel
theorem dX4_simulatedTurn_201 : decode cX4_simulatedTurn 201 = .ok (.getfield 23, 3) := by decide +kernel
theorem dX4_simulatedTurn_204 : decode cX4_simulatedTurn 204 = .ok (.bipush 119, 2) := by decide +kernel
theorem dX4_simulatedTurn_206 : decode cX4_simulatedTurn 206 = .ok (.iconst 0, 1) := by decide +kernel
theorem dX4_simulatedTurn_207 : decode cX4_simulatedTurn 207 = .ok (.iconst 0, 1) := by decide +kernel
theorem dX4_simulatedTurn_208 : decode cX4_simulatedTurn 208 = .ok (.iconst 0, 1) := by decide +kernel
theorem dX4_simulatedTurn_209 : decode cX4_simulatedTurn 209 = .ok (.invokevirtual 98, 3) := by decide +kernel
theorem dX4_simulatedTurn_212 : decode cX4_simulatedTurn 212 = .ok (.pop, 1) := by decide +kernel
theorem dX4_simulatedTurn_213 : decode cX4_simulatedTurn 213 = .ok (.goto 60, 3) := by decide +kernel
theorem dX4_simulatedTurn_216 : decode cX4_simulatedTurn 216 = .ok (.aload_n 0, 1) := by decide +kernel
theorem dX4_simulatedTurn_217 : decode cX4_simulatedTurn 217 = .ok (.getfield 23, 3) := by decide +kernel
theorem dX4_simulatedTurn_220 : decode cX4_simulatedTurn 220 = .ok (.bipush 100, 2) := by decide +kernel
theorem dX4_simulatedTurn_222 : decode cX4_simulatedTurn 222 = .ok (.iload_n 2, 1) := by decide +kernel
theorem dX4_simulatedTurn_223 : decode cX4_simulatedTurn 223 = .ok (.bipush 31, 2) := by decide +kernel
theorem dX4_simulatedTurn_225 : decode cX4_simulatedTurn 225 = .ok (.irem, 1) := by decide +kernel
theorem dX4_simulatedTurn_226 : decode cX4_simulatedTurn 226 = .ok (.ineg, 1) := by decide +kernel
theorem dX4_simulatedTurn_227 : decode cX4_simulatedTurn 227 = .ok (.iload_n 2, 1) := by decide +kernel
theorem dX4_simulatedTurn_228 : decode cX4_simulatedTurn 228 = .ok (.bipush 32, 2) := by decide +kernel
theorem dX4_simulatedTurn_230 : decode cX4_simulatedTurn 230 = .ok (.idiv, 1) := by decide +kernel
theorem dX4_simulatedTurn_231 : decode cX4_simulatedTurn 231 = .ok (.iconst 4, 1) := by decide +kernel
theorem dX4_simulatedTurn_232 : decode cX4_simulatedTurn 232 = .ok (.irem, 1) := by decide +kernel
theorem dX4_simulatedTurn_233 : decode cX4_simulatedTurn 233 = .ok (.iconst 1, 1) := by decide +kernel
theorem dX4_simulatedTurn_234 : decode cX4_simulatedTurn 234 = .ok (.iload_n 2, 1) := by decide +kernel
theorem dX4_simulatedTurn_235 : decode cX4_simulatedTurn 235 = .ok (.sipush 128, 3) := by decide +kernel
theorem dX4_simulatedTurn_238 : decode cX4_simulatedTurn 238 = .ok (.idiv, 1) := by decide +kernel
theorem dX4_simulatedTurn_239 : decode cX4_simulatedTurn 239 = .ok (.bipush 6, 2) := by decide +kernel
theorem dX4_simulatedTurn_241 : decode cX4_simulatedTurn 241 = .ok (.irem, 1) := by decide +kernel
theorem dX4_simulatedTurn_242 : decode cX4_simulatedTurn 242 = .ok (.iadd, 1) := by decide +kernel
theorem dX4_simulatedTurn_243 : decode cX4_simulatedTurn 243 = .ok (.invokevirtual 98, 3) := by decide +kernel
theorem dX4_simulatedTurn_246 : decode cX4_simulatedTurn 246 = .ok (.pop, 1) := by decide +kernel
theorem dX4_simulatedTurn_247 : decode cX4_simulatedTurn 247 = .ok (.goto 26, 3) := by decide +kernel
theorem dX4_simulatedTurn_250 : decode cX4_simulatedTurn 250 = .ok (.aload_n 0, 1) := by decide +kernel
theorem dX4_simulatedTurn_251 : decode cX4_simulatedTurn 251 = .ok (.getfield 23, 3) := by decide +kernel
theorem dX4_simulatedTurn_254 : decode cX4_simulatedTurn 254 = .ok (.bipush 100, 2) := by decide +kernel
theorem dX4_simulatedTurn_256 : decode cX4_simulatedTurn 256 = .ok (.iload_n 2, 1) := by decide +kernel
theorem dX4_simulatedTurn_257 : decode cX4_simulatedTurn 257 = .ok (.bipush 16, 2) := by decide +kernel
theorem dX4_simulatedTurn_259 : decode cX4_simulatedTurn 259 = .ok (.irem, 1) := by decide +kernel
theorem dX4_simulatedTurn_260 : decode cX4_simulatedTurn 260 = .ok (.iconst 0, 1) := by decide +kernel
theorem dX4_simulatedTurn_261 : decode cX4_simulatedTurn 261 = .ok (.iconst 1, 1) := by decide +kernel
theorem dX4_simulatedTurn_262 : decode cX4_simulatedTurn 262 = .ok (.iload_n 2, 1) := by decide +kernel
theorem dX4_simulatedTurn_263 : decode cX4_simulatedTurn 263 = .ok (.bipush 16, 2) := by decide +kernel
theorem dX4_simulatedTurn_265 : decode cX4_simulatedTurn 265 = .ok (.idiv, 1) := by decide +kernel
theorem dX4_simulatedTurn_266 : decode cX4_simulatedTurn 266 = .ok (.iconst 4, 1) := by decide +kernel
theorem dX4_simulatedTurn_267 : decode cX4_simulatedTurn 267 = .ok (.irem, 1) := by decide +kernel
theorem dX4_simulatedTurn_268 : decode cX4_simulatedTurn 268 = .ok (.iadd, 1) := by decide +kernel
theorem dX4_simulatedTurn_269 : decode cX4_simulatedTurn 269 = .ok (.invokevirtual 98, 3) := by decide +kernel
theorem dX4_simulatedTurn_272 : decode cX4_simulatedTurn 272 = .ok (.pop, 1) := by decide +kernel
theorem dX4_simulatedTurn_273 : decode cX4_simulatedTurn 273 = .ok (.return_, 1) := by decide +kernel
set_option maxRecDepth 20000 in
theorem ggX5_init_X5_fresh : GoodIn wsX5_init wsX5_fresh := goodIn_r _ [16] (by decide +kernel) (by decide +kernel)
set_option maxRecDepth 20000 in
theorem gX5_init_X5_fresh : GoodIn wsX5_init (va_wsS RX5 32 yX5_fresh wsX5_fresh) := goodIn_app (goodIn_of _ (by decide +kernel)) ggX5_init_X5_fresh
theorem dX5_init_0 : decode cX5_init 0 = .ok (.aload_n 0, 1) := by decide +kernel
theorem dX5_init_1 : decode cX5_init 1 = .ok (.invokespecial 1, 3) := by decide +kernel
theorem dX5_init_4 : decode cX5_init 4 = .ok (.aload_n 0, 1) := by decide +kernel
theorem dX5_init_5 : decode cX5_init 5 = .ok (.sipush 205, 3) := by decide +kernel
theorem dX5_init_8 : decode cX5_init 8 = .ok (.newarray .int, 2) := by decide +kernel
theorem dX5_init_10 : decode cX5_init 10 = .ok (.putfield 7, 3) := by decide +kernel
theorem dX5_init_13 : decode cX5_init 13 = .ok (.aload_n 0, 1) := by decide +kernel
theorem dX5_init_14 : decode cX5_init 14 = .ok (.sipush 205, 3) := by decide +kernel
theorem dX5_init_17 : decode cX5_init 17 = .ok (.newarray .int, 2) := by decide +kernel
theorem dX5_init_19 : decode cX5_init 19 = .ok (.putfield 13, 3) := by decide +kernel
theorem dX5_init_22 : decode cX5_init 22 = .ok (.aload_n 0, 1) := by decide +kernel
theorem dX5_init_23 : decode cX5_init 23 = .ok (.sipush 205, 3) := by decide +kernel
theorem dX5_init_26 : decode cX5_init 26 = .ok (.newarray .int, 2) := by decide +kernel
theorem dX5_init_28 : decode cX5_init 28 = .ok (.putfield 16, 3) := by decide +kernel
theorem dX5_init_31 : decode cX5_init 31 = .ok (.aload_n 0, 1) := by decide +kernel
theorem dX5_init_32 : decode cX5_init 32 = .ok (.sipush 2870, 3) := by decide +kernel
theorem dX5_init_35 : decode cX5_init 35 = .ok (.newarray .int, 2) := by decide +kernel
theorem dX5_init_37 : decode cX5_init 37 = .ok (.putfield 19, 3) := by decide +kernel
theorem dX5_init_40 : decode cX5_init 40 = .ok (.aload_n 0, 1) := by decide +kernel
theorem dX5_init_41 : decode cX5_init 41 = .ok (.sipush 410, 3) := by decide +kernel
theorem dX5_init_44 : decode cX5_init 44 = .ok (.newarray .int, 2) := by decide +kernel
theorem dX5_init_46 : decode cX5_init 46 = .ok (.putfield 22, 3) := by decide +kernel
theorem dX5_init_49 : decode cX5_init 49 = .ok (.aload_n 0, 1) := by decide +kernel
theorem dX5_init_50 : decode cX5_init 50 = .ok (.iconst 2, 1) := by decide +kernel
theorem dX5_init_51 : decode cX5_init 51 = .ok (.newarray .boolean, 2) := by decide +kernel
theorem dX5_init_53 : decode cX5_init 53 = .ok (.putfield 25, 3) := by decide +kernel
theorem dX5_init_56 : decode cX5_init 56 = .ok (.aload_n 0, 1) := by decide +kernel
theorem dX5_init_57 : decode cX5_init 57 = .ok (.bipush 120, 2) := by decide +kernel
theorem dX5_init_59 : decode cX5_init 59 = .ok (.newarray .int, 2) := by decide +kernel
theorem dX5_init_61 : decode cX5_init 61 = .ok (.putfield 29, 3) := by decide +kernel
theorem dX5_init_64 : decode cX5_init 64 = .ok (.aload_n 0, 1) := by decide +kernel
theorem dX5_init_65 : decode cX5_init 65 = .ok (.getfield 7, 3) := by decide +kernel
theorem dX5_init_68 : decode cX5_init 68 = .ok (.invokestatic 32, 3) := by decide +kernel
theorem dX5_init_71 : decode cX5_init 71 = .ok (.return_, 1) := by decide +kernel
theorem dX5_thrown_0 : decode cX5_thrown 0 = .ok (.aload_n 0, 1) := by decide +kernel
theorem dX5_thrown_1 : decode cX5_thrown 1 = .ok (.getfield 36, 3) := by decide +kernel
theorem dX5_thrown_4 : decode cX5_thrown 4 = .ok (.ireturn, 1) := by decide +kernel
theorem dX5_refused_0 : decode cX5_refused 0 = .ok (.aload_n 0, 1) := by decide +kernel
theorem dX5_refused_1 : decode cX5_refused 1 = .ok (.iload_n 1, 1) := by decide +kernel
theorem dX5_refused_2 : decode cX5_refused 2 = .ok (.putfield 36, 3) := by decide +kernel
theorem dX5_refused_5 : decode cX5_refused 5 = .ok (.iload_n 1, 1) := by decide +kernel
theorem dX5_refused_6 : decode cX5_refused 6 = .ok (.ifCond .eq 7, 3) := by decide +kernel
theorem dX5_refused_9 : decode cX5_refused 9 = .ok (.iconst 1, 1) := by decide +kernel
theorem dX5_refused_10 : decode cX5_refused 10 = .ok (.goto 4, 3) := by decide +kernel
theorem dX5_refused_13 : decode cX5_refused 13 = .ok (.iconst 0, 1) := by decide +kernel
theorem dX5_refused_14 : decode cX5_refused 14 = .ok (.ireturn, 1) := by decide +kernel
theorem dX5_in_0 : decode cX5_in 0 = .ok (.lload_n 0, 1) := by decide +kernel
theorem dX5_in_1 : decode cX5_in 1 = .ok (.lload_n 2, 1) := by decide +kernel
theorem dX5_in_2 : decode cX5_in 2 = .ok (.lcmp, 1) := by decide +kernel
theorem dX5_in_3 : decode cX5_in 3 = .ok (.ifCond .lt 14, 3) := by decide +kernel
theorem dX5_in_6 : decode cX5_in 6 = .ok (.lload_n 0, 1) := by decide +kernel
theorem dX5_in_7 : decode cX5_in 7 = .ok (.lload 4, 2) := by decide +kernel
theorem dX5_in_9 : decode cX5_in 9 = .ok (.lcmp, 1) := by decide +kernel
theorem dX5_in_10 : decode cX5_in 10 = .ok (.ifCond .gt 7, 3) := by decide +kernel
theorem dX5_in_13 : decode cX5_in 13 = .ok (.iconst 1, 1) := by decide +kernel
theorem dX5_in_14 : decode cX5_in 14 = .ok (.goto 4, 3) := by decide +kernel
theorem dX5_in_17 : decode cX5_in 17 = .ok (.iconst 0, 1) := by decide +kernel
theorem dX5_in_18 : decode cX5_in 18 = .ok (.ireturn, 1) := by decide +kernel
theorem dX5_tens_0 : decode cX5_tens 0 = .ok (.lconst 1, 1) := by decide +kernel
theorem dX5_tens_1 : decode cX5_tens 1 = .ok (.lstore_n 1, 1) := by decide +kernel
theorem dX5_tens_2 : decode cX5_tens 2 = .ok (.iconst 0, 1) := by decide +kernel
theorem dX5_tens_3 : decode cX5_tens 3 = .ok (.istore_n 3, 1) := by decide +kernel
theorem dX5_tens_4 : decode cX5_tens 4 = .ok (.iload_n 3, 1) := by decide +kernel
theorem dX5_tens_5 : decode cX5_tens 5 = .ok (.iload_n 0, 1) := by decide +kernel
theorem dX5_tens_6 : decode cX5_tens 6 = .ok (.if_icmp .ge 15, 3) := by decide +kernel
theorem dX5_tens_9 : decode cX5_tens 9 = .ok (.lload_n 1, 1) := by decide +kernel
theorem dX5_tens_10 : decode cX5_tens 10 = .ok (.ldc2_w 40, 3) := by decide +kernel
theorem dX5_tens_13 : decode cX5_tens 13 = .ok (.lmul, 1) := by decide +kernel
theorem dX5_tens_14 : decode cX5_tens 14 = .ok (.lstore_n 1, 1) := by decide +kernel
theorem dX5_tens_15 : decode cX5_tens 15 = .ok (.iinc 3 1, 3) := by decide +kernel
theorem dX5_tens_18 : decode cX5_tens 18 = .ok (.goto (-14), 3) := by decide +kernel
theorem dX5_tens_21 : decode cX5_tens 21 = .ok (.lload_n 1, 1) := by decide +kernel
theorem dX5_tens_22 : decode cX5_tens 22 = .ok (.lreturn, 1) := by decide +kernel
theorem dX5_min_0 : decode cX5_min 0 = .ok (.iload_n 0, 1) := by decide +kernel
theorem dX5_min_1 : decode cX5_min 1 = .ok (.iload_n 1, 1) := by decide +kernel
theorem dX5_min_2 : decode cX5_min 2 = .ok (.if_icmp .ge 7, 3) := by decide +kernel
theorem dX5_min_5 : decode cX5_min 5 = .ok (.iload_n 0, 1) := by decide +kernel
theorem dX5_min_6 : decode cX5_min 6 = .ok (.goto 4, 3) := by decide +kernel
theorem dX5_min_9 : decode cX5_min 9 = .ok (.iload_n 1, 1) := by decide +kernel
theorem dX5_min_10 : decode cX5_min 10 = .ok (.ireturn, 1) := by decide +kernel
theorem dX5_fresh_0 : decode cX5_fresh 0 = .ok (.iconst 0, 1) := by decide +kernel
theorem dX5_fresh_1 : decode cX5_fresh 1 = .ok (.istore_n 1, 1) := by decide +kernel
theorem dX5_fresh_2 : decode cX5_fresh 2 = .ok (.iload_n 1, 1) := by decide +kernel
theorem dX5_fresh_3 : decode cX5_fresh 3 = .ok (.sipush 205, 3) := by decide +kernel
theorem dX5_fresh_6 : decode cX5_fresh 6 = .ok (.if_icmp .ge 13, 3) := by decide +kernel
theorem dX5_fresh_9 : decode cX5_fresh 9 = .ok (.aload_n 0, 1) := by decide +kernel
theorem dX5_fresh_10 : decode cX5_fresh 10 = .ok (.iload_n 1, 1) := by decide +kernel
theorem dX5_fresh_11 : decode cX5_fresh 11 = .ok (.iconst 0, 1) := by decide +kernel
theorem dX5_fresh_12 : decode cX5_fresh 12 = .ok (.iastore, 1) := by decide +kernel
theorem dX5_fresh_13 : decode cX5_fresh 13 = .ok (.iinc 1 1, 3) := by decide +kernel
theorem dX5_fresh_16 : decode cX5_fresh 16 = .ok (.goto (-14), 3) := by decide +kernel
theorem dX5_fresh_19 : decode cX5_fresh 19 = .ok (.aload_n 0, 1) := by decide +kernel
theorem dX5_fresh_20 : decode cX5_fresh 20 = .ok (.sipush 202, 3) := by decide +kernel
theorem dX5_fresh_23 : decode cX5_fresh 23 = .ok (.iconst 5, 1) := by decide +kernel
theorem dX5_fresh_24 : decode cX5_fresh 24 = .ok (.iastore, 1) := by decide +kernel
theorem dX5_fresh_25 : decode cX5_fresh 25 = .ok (.aload_n 0, 1) := by decide +kernel
theorem dX5_fresh_26 : decode cX5_fresh 26 = .ok (.sipush 203, 3) := by decide +kernel
theorem dX5_fresh_29 : decode cX5_fresh 29 = .ok (.iconst 2, 1) := by decide +kernel
theorem dX5_fresh_30 : decode cX5_fresh 30 = .ok (.iastore, 1) := by decide +kernel
theorem dX5_fresh_31 : decode cX5_fresh 31 = .ok (.aload_n 0, 1) := by decide +kernel
theorem dX5_fresh_32 : decode cX5_fresh 32 = .ok (.sipush 204, 3) := by decide +kernel
theorem dX5_fresh_35 : decode cX5_fresh 35 = .ok (.bipush 10, 2) := by decide +kernel
theorem dX5_fresh_37 : decode cX5_fresh 37 = .ok (.iastore, 1) := by decide +kernel
theorem dX5_fresh_38 : decode cX5_fresh 38 = .ok (.return_, 1) := by decide +kernel
theorem dX5_copy_0 : decode cX5_copy 0 = .ok (.iconst 0, 1) := by decide +kernel
theorem dX5_copy_1 : decode cX5_copy 1 = .ok (.istore_n 2, 1) := by decide +kernel
theorem dX5_copy_2 : decode cX5_copy 2 = .ok (.iload_n 2, 1) := by decide +kernel
theorem dX5_copy_3 : decode cX5_copy 3 = .ok (.sipush 205, 3) := by decide +kernel
theorem dX5_copy_6 : decode cX5_copy 6 = .ok (.if_icmp .ge 15, 3) := by decide +kernel
theorem dX5_copy_9 : decode cX5_copy 9 = .ok (.aload_n 1, 1) := by decide +kernel
theorem dX5_copy_10 : decode cX5_copy 10 = .ok (.iload_n 2, 1) := by decide +kernel
theorem dX5_copy_11 : decode cX5_copy 11 = .ok (.aload_n 0, 1) := by decide +kernel
theorem dX5_copy_12 : decode cX5_copy 12 = .ok (.iload_n 2, 1) := by decide +kernel
theorem dX5_copy_13 : decode cX5_copy 13 = .ok (.iaload, 1) := by decide +kernel
theorem dX5_copy_14 : decode cX5_copy 14 = .ok (.iastore, 1) := by decide +kernel
theorem dX5_copy_15 : decode cX5_copy 15 = .ok (.iinc 2 1, 3) := by decide +kernel
theorem dX5_copy_18 : decode cX5_copy 18 = .ok (.goto (-16), 3) := by decide +kernel
theorem dX5_copy_21 : decode cX5_copy 21 = .ok (.return_, 1) := by decide +kernel
set_option maxRecDepth 20000 in
theorem ggX5_isSite_X5_in : GoodIn wsX5_isSite wsX5_in := goodIn_r _ [4] (by decide +kernel) (by decide +kernel)
set_option maxRecDepth 20000 in
theorem gX5_isSite_X5_in : GoodIn wsX5_isSite (va_wsS RX5 42 yX5_in wsX5_in) := goodIn_app (goodIn_of _ (by decide +kernel)) ggX5_isSite_X5_in
theorem dX5_isSite_0 : decode cX5_isSite 0 = .ok (.iload_n 1, 1) := by decide +kernel
theorem dX5_isSite_1 : decode cX5_isSite 1 = .ok (.i2l, 1) := by decide +kernel
theorem dX5_isSite_2 : decode cX5_isSite 2 = .ok (.lconst 0, 1) := by decide +kernel
theorem dX5_isSite_3 : decode cX5_isSite 3 = .ok (.aload_n 0, 1) := by decide +kernel
theorem dX5_isSite_4 : decode cX5_isSite 4 = .ok (.sipush 196, 3) := by decide +kernel
theorem dX5_isSite_7 : decode cX5_isSite 7 = .ok (.iaload, 1) := by decide +kernel
theorem dX5_isSite_8 : decode cX5_isSite 8 = .ok (.iconst 1, 1) := by decide +kernel
theorem dX5_isSite_9 : decode cX5_isSite 9 = .ok (.isub, 1) := by decide +kernel
theorem dX5_isSite_10 : decode cX5_isSite 10 = .ok (.i2l, 1) := by decide +kernel
theorem dX5_isSite_11 : decode cX5_isSite 11 = .ok (.invokestatic 42, 3) := by decide +kernel
theorem dX5_isSite_14 : decode cX5_isSite 14 = .ok (.ireturn, 1) := by decide +kernel
set_option maxRecDepth 20000 in
theorem ggX5_isCell_X5_in : GoodIn wsX5_isCell wsX5_in := goodIn_r _ [5] (by decide +kernel) (by decide +kernel)
set_option maxRecDepth 20000 in
theorem gX5_isCell_X5_in : GoodIn wsX5_isCell (va_wsS RX5 42 yX5_in wsX5_in) := goodIn_app (goodIn_of _ (by decide +kernel)) ggX5_isCell_X5_in
theorem dX5_isCell_0 : decode cX5_isCell 0 = .ok (.iload_n 0, 1) := by decide +kernel
theorem dX5_isCell_1 : decode cX5_isCell 1 = .ok (.i2l, 1) := by decide +kernel
theorem dX5_isCell_2 : decode cX5_isCell 2 = .ok (.lconst 0, 1) := by decide +kernel
theorem dX5_isCell_3 : decode cX5_isCell 3 = .ok (.ldc2_w 46, 3) := by decide +kernel
theorem dX5_isCell_6 : decode cX5_isCell 6 = .ok (.invokestatic 42, 3) := by decide +kernel
theorem dX5_isCell_9 : decode cX5_isCell 9 = .ok (.ireturn, 1) := by decide +kernel
set_option maxRecDepth 20000 in
theorem ggX5_isTube_X5_in : GoodIn wsX5_isTube wsX5_in := goodIn_r _ [4] (by decide +kernel) (by decide +kernel)
set_option maxRecDepth 20000 in
theorem gX5_isTube_X5_in : GoodIn wsX5_isTube (va_wsS RX5 42 yX5_in wsX5_in) := goodIn_app (goodIn_of _ (by decide +kernel)) ggX5_isTube_X5_in
theorem dX5_isTube_0 : decode cX5_isTube 0 = .ok (.iload_n 1, 1) := by decide +kernel
theorem dX5_isTube_1 : decode cX5_isTube 1 = .ok (.i2l, 1) := by decide +kernel
theorem dX5_isTube_2 : decode cX5_isTube 2 = .ok (.lconst 0, 1) := by decide +kernel
theorem dX5_isTube_3 : decode cX5_isTube 3 = .ok (.aload_n 0, 1) := by decide +kernel
theorem dX5_isTube_4 : decode cX5_isTube 4 = .ok (.sipush 197, 3) := by decide +kernel
theorem dX5_isTube_7 : decode cX5_isTube 7 = .ok (.iaload, 1) := by decide +kernel
theorem dX5_isTube_8 : decode cX5_isTube 8 = .ok (.iconst 1, 1) := by decide +kernel
theorem dX5_isTube_9 : decode cX5_isTube 9 = .ok (.isub, 1) := by decide +kernel
theorem dX5_isTube_10 : decode cX5_isTube 10 = .ok (.i2l, 1) := by decide +kernel
theorem dX5_isTube_11 : decode cX5_isTube 11 = .ok (.invokestatic 42, 3) := by decide +kernel
theorem dX5_isTube_14 : decode cX5_isTube 14 = .ok (.ireturn, 1) := by decide +kernel
set_option maxRecDepth 20000 in
theorem ggX5_isPipe_X5_in : GoodIn wsX5_isPipe wsX5_in := goodIn_r _ [4] (by decide +kernel) (by decide +kernel)
set_option maxRecDepth 20000 in
theorem gX5_isPipe_X5_in : GoodIn wsX5_isPipe (va_wsS RX5 42 yX5_in wsX5_in) := goodIn_app (goodIn_of _ (by decide +kernel)) ggX5_isPipe_X5_in
theorem dX5_isPipe_0 : decode cX5_isPipe 0 = .ok (.iload_n 1, 1) := by decide +kernel
theorem dX5_isPipe_1 : decode cX5_isPipe 1 = .ok (.i2l, 1) := by decide +kernel
theorem dX5_isPipe_2 : decode cX5_isPipe 2 = .ok (.lconst 0, 1) := by decide +kernel
theorem dX5_isPipe_3 : decode cX5_isPipe 3 = .ok (.aload_n 0, 1) := by decide +kernel
theorem dX5_isPipe_4 : decode cX5_isPipe 4 = .ok (.sipush 198, 3) := by decide +kernel
theorem dX5_isPipe_7 : decode cX5_isPipe 7 = .ok (.iaload, 1) := by decide +kernel
theorem dX5_isPipe_8 : decode cX5_isPipe 8 = .ok (.iconst 1, 1) := by decide +kernel
theorem dX5_isPipe_9 : decode cX5_isPipe 9 = .ok (.isub, 1) := by decide +kernel
theorem dX5_isPipe_10 : decode cX5_isPipe 10 = .ok (.i2l, 1) := by decide +kernel
theorem dX5_isPipe_11 : decode cX5_isPipe 11 = .ok (.invokestatic 42, 3) := by decide +kernel
theorem dX5_isPipe_14 : decode cX5_isPipe 14 = .ok (.ireturn, 1) := by decide +kernel
set_option maxRecDepth 20000 in
theorem ggX5_isDegree_X5_in : GoodIn wsX5_isDegree wsX5_in := goodIn_r _ [6] (by decide +kernel) (by decide +kernel)
set_option maxRecDepth 20000 in
theorem gX5_isDegree_X5_in : GoodIn wsX5_isDegree (va_wsS RX5 42 yX5_in wsX5_in) := goodIn_app (goodIn_of _ (by decide +kernel)) ggX5_isDegree_X5_in
theorem dX5_isDegree_0 : decode cX5_isDegree 0 = .ok (.iload_n 0, 1) := by decide +kernel
theorem dX5_isDegree_1 : decode cX5_isDegree 1 = .ok (.i2l, 1) := by decide +kernel
theorem dX5_isDegree_2 : decode cX5_isDegree 2 = .ok (.ldc2_w 48, 3) := by decide +kernel
theorem dX5_isDegree_5 : decode cX5_isDegree 5 = .ok (.ldc2_w 50, 3) := by decide +kernel
theorem dX5_isDegree_8 : decode cX5_isDegree 8 = .ok (.invokestatic 42, 3) := by decide +kernel
theorem dX5_isDegree_11 : decode cX5_isDegree 11 = .ok (.ireturn, 1) := by decide +kernel
set_option maxRecDepth 20000 in
theorem ggX5_isSetting_X5_in : GoodIn wsX5_isSetting wsX5_in := goodIn_r _ [7] (by decide +kernel) (by decide +kernel)
set_option maxRecDepth 20000 in
theorem gX5_isSetting_X5_in : GoodIn wsX5_isSetting (va_wsS RX5 42 yX5_in wsX5_in) := goodIn_app (goodIn_of _ (by decide +kernel)) ggX5_isSetting_X5_in
theorem dX5_isSetting_0 : decode cX5_isSetting 0 = .ok (.iload_n 0, 1) := by decide +kernel
theorem dX5_isSetting_1 : decode cX5_isSetting 1 = .ok (.ifCond .ne 15, 3) := by decide +kernel
theorem dX5_isSetting_4 : decode cX5_isSetting 4 = .ok (.iload_n 1, 1) := by decide +kernel
theorem dX5_isSetting_5 : decode cX5_isSetting 5 = .ok (.i2l, 1) := by decide +kernel
theorem dX5_isSetting_6 : decode cX5_isSetting 6 = .ok (.lconst 0, 1) := by decide +kernel
theorem dX5_isSetting_7 : decode cX5_isSetting 7 = .ok (.ldc2_w 50, 3) := by decide +kernel
theorem dX5_isSetting_10 : decode cX5_isSetting 10 = .ok (.invokestatic 42, 3) := by decide +kernel
theorem dX5_isSetting_13 : decode cX5_isSetting 13 = .ok (.goto 42, 3) := by decide +kernel
theorem dX5_isSetting_16 : decode cX5_isSetting 16 = .ok (.iload_n 0, 1) := by decide +kernel
theorem dX5_isSetting_17 : decode cX5_isSetting 17 = .ok (.iconst 1, 1) := by decide +kernel
theorem dX5_isSetting_18 : decode cX5_isSetting 18 = .ok (.if_icmp .ne 15, 3) := by decide +kernel
theorem dX5_isSetting_21 : decode cX5_isSetting 21 = .ok (.iload_n 1, 1) := by decide +kernel
theorem dX5_isSetting_22 : decode cX5_isSetting 22 = .ok (.i2l, 1) := by decide +kernel
theorem dX5_isSetting_23 : decode cX5_isSetting 23 = .ok (.lconst 1, 1) := by decide +kernel
theorem dX5_isSetting_24 : decode cX5_isSetting 24 = .ok (.ldc2_w 52, 3) := by decide +kernel
theorem dX5_isSetting_27 : decode cX5_isSetting 27 = .ok (.invokestatic 42, 3) := by decide +kernel
theorem dX5_isSetting_30 : decode cX5_isSetting 30 = .ok (.goto 25, 3) := by decide +kernel
theorem dX5_isSetting_33 : decode cX5_isSetting 33 = .ok (.iload_n 0, 1) := by decide +kernel
theorem dX5_isSetting_34 : decode cX5_isSetting 34 = .ok (.iconst 2, 1) := by decide +kernel
theorem dX5_isSetting_35 : decode cX5_isSetting 35 = .ok (.if_icmp .ne 19, 3) := by decide +kernel
theorem dX5_isSetting_38 : decode cX5_isSetting 38 = .ok (.iload_n 1, 1) := by decide +kernel
theorem dX5_isSetting_39 : decode cX5_isSetting 39 = .ok (.i2l, 1) := by decide +kernel
theorem dX5_isSetting_40 : decode cX5_isSetting 40 = .ok (.lconst 0, 1) := by decide +kernel
theorem dX5_isSetting_41 : decode cX5_isSetting 41 = .ok (.ldc2_w 54, 3) := by decide +kernel
theorem dX5_isSetting_44 : decode cX5_isSetting 44 = .ok (.invokestatic 42, 3) := by decide +kernel
theorem dX5_isSetting_47 : decode cX5_isSetting 47 = .ok (.ifCond .eq 7, 3) := by decide +kernel
theorem dX5_isSetting_50 : decode cX5_isSetting 50 = .ok (.iconst 1, 1) := by decide +kernel
theorem dX5_isSetting_51 : decode cX5_isSetting 51 = .ok (.goto 4, 3) := by decide +kernel
theorem dX5_isSetting_54 : decode cX5_isSetting 54 = .ok (.iconst 0, 1) := by decide +kernel
theorem dX5_isSetting_55 : decode cX5_isSetting 55 = .ok (.ireturn, 1) := by decide +kernel
theorem dX5_cell_0 : decode cX5_cell 0 = .ok (.bipush 35, 2) := by decide +kernel
theorem dX5_cell_2 : decode cX5_cell 2 = .ok (.iload_n 0, 1) := by decide +kernel
theorem dX5_cell_3 : decode cX5_cell 3 = .ok (.imul, 1) := by decide +kernel
theorem dX5_cell_4 : decode cX5_cell 4 = .ok (.iconst 5, 1) := by decide +kernel
theorem dX5_cell_5 : decode cX5_cell 5 = .ok (.iadd, 1) := by decide +kernel
theorem dX5_cell_6 : decode cX5_cell 6 = .ok (.iload_n 1, 1) := by decide +kernel
theorem dX5_cell_7 : decode cX5_cell 7 = .ok (.iadd, 1) := by decide +kernel
theorem dX5_cell_8 : decode cX5_cell 8 = .ok (.ireturn, 1) := by decide +kernel
set_option maxRecDepth 20000 in
theorem ggX5_frozen_X5_cell : GoodIn wsX5_frozen wsX5_cell := goodIn_r _ [4] (by decide +kernel) (by decide +kernel)
set_option maxRecDepth 20000 in
theorem gX5_frozen_X5_cell : GoodIn wsX5_frozen (va_wsS RX5 56 yX5_cell wsX5_cell) := goodIn_app (goodIn_of _ (by decide +kernel)) ggX5_frozen_X5_cell
theorem dX5_frozen_0 : decode cX5_frozen 0 = .ok (.aload_n 0, 1) := by decide +kernel
theorem dX5_frozen_1 : decode cX5_frozen 1 = .ok (.iload_n 1, 1) := by decide +kernel
theorem dX5_frozen_2 : decode cX5_frozen 2 = .ok (.iload_n 2, 1) := by decide +kernel
theorem dX5_frozen_3 : decode cX5_frozen 3 = .ok (.invokestatic 56, 3) := by decide +kernel
theorem dX5_frozen_6 : decode cX5_frozen 6 = .ok (.iaload, 1) := by decide +kernel
theorem dX5_frozen_7 : decode cX5_frozen 7 = .ok (.ifCond .le 7, 3) := by decide +kernel
theorem dX5_frozen_10 : decode cX5_frozen 10 = .ok (.iconst 1, 1) := by decide +kernel
theorem dX5_frozen_11 : decode cX5_frozen 11 = .ok (.goto 4, 3) := by decide +kernel
theorem dX5_frozen_14 : decode cX5_frozen 14 = .ok (.iconst 0, 1) := by decide +kernel
theorem dX5_frozen_15 : decode cX5_frozen 15 = .ok (.ireturn, 1) := by decide +kernel
set_option maxRecDepth 20000 in
theorem ggX5_first_X5_frozen : GoodIn wsX5_first wsX5_frozen := goodIn_r _ [4, 5, 6, 3, 7] (by decide +kernel) (by decide +kernel)
set_option maxRecDepth 20000 in
theorem gX5_first_X5_frozen : GoodIn wsX5_first (va_wsS RX5 60 yX5_frozen wsX5_frozen) := goodIn_app (goodIn_of _ (by decide +kernel)) ggX5_first_X5_frozen
theorem dX5_first_0 : decode cX5_first 0 = .ok (.iconst 0, 1) := by decide +kernel
theorem dX5_first_1 : decode cX5_first 1 = .ok (.istore_n 3, 1) := by decide +kernel
theorem dX5_first_2 : decode cX5_first 2 = .ok (.iload_n 3, 1) := by decide +kernel
theorem dX5_first_3 : decode cX5_first 3 = .ok (.bipush 30, 2) := by decide +kernel
theorem dX5_first_5 : decode cX5_first 5 = .ok (.if_icmp .ge 19, 3) := by decide +kernel
theorem dX5_first_8 : decode cX5_first 8 = .ok (.aload_n 0, 1) := by decide +kernel
theorem dX5_first_9 : decode cX5_first 9 = .ok (.iload_n 1, 1) := by decide +kernel
theorem dX5_first_10 : decode cX5_first 10 = .ok (.iload_n 3, 1) := by decide +kernel
theorem dX5_first_11 : decode cX5_first 11 = .ok (.invokestatic 60, 3) := by decide +kernel
theorem dX5_first_14 : decode cX5_first 14 = .ok (.iload_n 2, 1) := by decide +kernel
theorem dX5_first_15 : decode cX5_first 15 = .ok (.if_icmp .eq 9, 3) := by decide +kernel
theorem dX5_first_18 : decode cX5_first 18 = .ok (.iinc 3 1, 3) := by decide +kernel
theorem dX5_first_21 : decode cX5_first 21 = .ok (.goto (-19), 3) := by decide +kernel
theorem dX5_first_24 : decode cX5_first 24 = .ok (.iload_n 3, 1) := by decide +kernel
theorem dX5_first_25 : decode cX5_first 25 = .ok (.ireturn, 1) := by decide +kernel
set_option maxRecDepth 20000 in
theorem ggX5_lowest_X5_frozen : GoodIn wsX5_lowest wsX5_frozen := goodIn_r _ [4, 5, 6, 3, 7] (by decide +kernel) (by decide +kernel)
set_option maxRecDepth 20000 in
theorem gX5_lowest_X5_frozen : GoodIn wsX5_lowest (va_wsS RX5 60 yX5_frozen wsX5_frozen) := goodIn_app (goodIn_of _ (by decide +kernel)) ggX5_lowest_X5_frozen
theorem dX5_lowest_0 : decode cX5_lowest 0 = .ok (.bipush 29, 2) := by decide +kernel
theorem dX5_lowest_2 : decode cX5_lowest 2 = .ok (.istore_n 2, 1) := by decide +kernel
theorem dX5_lowest_3 : decode cX5_lowest 3 = .ok (.iload_n 2, 1) := by decide +kernel
theorem dX5_lowest_4 : decode cX5_lowest 4 = .ok (.ifCond .lt 18, 3) := by decide +kernel
theorem dX5_lowest_7 : decode cX5_lowest 7 = .ok (.aload_n 0, 1) := by decide +kernel
theorem dX5_lowest_8 : decode cX5_lowest 8 = .ok (.iload_n 1, 1) := by decide +kernel
theorem dX5_lowest_9 : decode cX5_lowest 9 = .ok (.iload_n 2, 1) := by decide +kernel
theorem dX5_lowest_10 : decode cX5_lowest 10 = .ok (.invokestatic 60, 3) := by decide +kernel
theorem dX5_lowest_13 : decode cX5_lowest 13 = .ok (.ifCond .ne 9, 3) := by decide +kernel
theorem dX5_lowest_16 : decode cX5_lowest 16 = .ok (.iinc 2 (-1), 3) := by decide +kernel
theorem dX5_lowest_19 : decode cX5_lowest 19 = .ok (.goto (-16), 3) := by decide +kernel
theorem dX5_lowest_22 : decode cX5_lowest 22 = .ok (.iload_n 2, 1) := by decide +kernel
theorem dX5_lowest_23 : decode cX5_lowest 23 = .ok (.ireturn, 1) := by decide +kernel
set_option maxRecDepth 20000 in
theorem ggX5_freeze_X5_cell : GoodIn wsX5_freeze wsX5_cell := goodIn_r _ [4] (by decide +kernel) (by decide +kernel)
set_option maxRecDepth 20000 in
theorem gX5_freeze_X5_cell : GoodIn wsX5_freeze (va_wsS RX5 56 yX5_cell wsX5_cell) := goodIn_app (goodIn_of _ (by decide +kernel)) ggX5_freeze_X5_cell
theorem dX5_freeze_0 : decode cX5_freeze 0 = .ok (.aload_n 0, 1) := by decide +kernel
theorem dX5_freeze_1 : decode cX5_freeze 1 = .ok (.iload_n 1, 1) := by decide +kernel
theorem dX5_freeze_2 : decode cX5_freeze 2 = .ok (.iload_n 2, 1) := by decide +kernel
theorem dX5_freeze_3 : decode cX5_freeze 3 = .ok (.invokestatic 56, 3) := by decide +kernel
theorem dX5_freeze_6 : decode cX5_freeze 6 = .ok (.aload_n 0, 1) := by decide +kernel
theorem dX5_freeze_7 : decode cX5_freeze 7 = .ok (.sipush 199, 3) := by decide +kernel
theorem dX5_freeze_10 : decode cX5_freeze 10 = .ok (.iaload, 1) := by decide +kernel
theorem dX5_freeze_11 : decode cX5_freeze 11 = .ok (.iastore, 1) := by decide +kernel
theorem dX5_freeze_12 : decode cX5_freeze 12 = .ok (.iconst 0, 1) := by decide +kernel
theorem dX5_freeze_13 : decode cX5_freeze 13 = .ok (.istore_n 3, 1) := by decide +kernel
theorem dX5_freeze_14 : decode cX5_freeze 14 = .ok (.iload_n 3, 1) := by decide +kernel
theorem dX5_freeze_15 : decode cX5_freeze 15 = .ok (.aload_n 0, 1) := by decide +kernel
theorem dX5_freeze_16 : decode cX5_freeze 16 = .ok (.sipush 198, 3) := by decide +kernel
theorem dX5_freeze_19 : decode cX5_freeze 19 = .ok (.iaload, 1) := by decide +kernel
theorem dX5_freeze_20 : decode cX5_freeze 20 = .ok (.if_icmp .ge 96, 3) := by decide +kernel
theorem dX5_freeze_23 : decode cX5_freeze 23 = .ok (.sipush 156, 3) := by decide +kernel
theorem dX5_freeze_26 : decode cX5_freeze 26 = .ok (.iconst 5, 1) := by decide +kernel
theorem dX5_freeze_27 : decode cX5_freeze 27 = .ok (.iload_n 3, 1) := by decide +kernel
theorem dX5_freeze_28 : decode cX5_freeze 28 = .ok (.imul, 1) := by decide +kernel
theorem dX5_freeze_29 : decode cX5_freeze 29 = .ok (.iadd, 1) := by decide +kernel
theorem dX5_freeze_30 : decode cX5_freeze 30 = .ok (.istore 4, 2) := by decide +kernel
theorem dX5_freeze_32 : decode cX5_freeze 32 = .ok (.aload_n 0, 1) := by decide +kernel
theorem dX5_freeze_33 : decode cX5_freeze 33 = .ok (.iload 4, 2) := by decide +kernel
theorem dX5_freeze_35 : decode cX5_freeze 35 = .ok (.iaload, 1) := by decide +kernel
theorem dX5_freeze_36 : decode cX5_freeze 36 = .ok (.iload_n 1, 1) := by decide +kernel
theorem dX5_freeze_37 : decode cX5_freeze 37 = .ok (.if_icmp .ne 73, 3) := by decide +kernel
theorem dX5_freeze_40 : decode cX5_freeze 40 = .ok (.aload_n 0, 1) := by decide +kernel
theorem dX5_freeze_41 : decode cX5_freeze 41 = .ok (.iload 4, 2) := by decide +kernel
theorem dX5_freeze_43 : decode cX5_freeze 43 = .ok (.iconst 1, 1) := by decide +kernel
theorem dX5_freeze_44 : decode cX5_freeze 44 = .ok (.iadd, 1) := by decide +kernel
theorem dX5_freeze_45 : decode cX5_freeze 45 = .ok (.iaload, 1) := by decide +kernel
theorem dX5_freeze_46 : decode cX5_freeze 46 = .ok (.iload_n 2, 1) := by decide +kernel
theorem dX5_freeze_47 : decode cX5_freeze 47 = .ok (.if_icmp .ne 63, 3) := by decide +kernel
theorem dX5_freeze_50 : decode cX5_freeze 50 = .ok (.aload_n 0, 1) := by decide +kernel
theorem dX5_freeze_51 : decode cX5_freeze 51 = .ok (.iload 4, 2) := by decide +kernel
theorem dX5_freeze_53 : decode cX5_freeze 53 = .ok (.iconst 2, 1) := by decide +kernel
theorem dX5_freeze_54 : decode cX5_freeze 54 = .ok (.iadd, 1) := by decide +kernel
theorem dX5_freeze_55 : decode cX5_freeze 55 = .ok (.dup2, 1) := by decide +kernel
theorem dX5_freeze_56 : decode cX5_freeze 56 = .ok (.iaload, 1) := by decide +kernel
theorem dX5_freeze_57 : decode cX5_freeze 57 = .ok (.aload_n 0, 1) := by decide +kernel
theorem dX5_freeze_58 : decode cX5_freeze 58 = .ok (.sipush 204, 3) := by decide +kernel
theorem dX5_freeze_61 : decode cX5_freeze 61 = .ok (.iaload, 1) := by decide +kernel
theorem dX5_freeze_62 : decode cX5_freeze 62 = .ok (.iadd, 1) := by decide +kernel
theorem dX5_freeze_63 : decode cX5_freeze 63 = .ok (.iastore, 1) := by decide +kernel
theorem dX5_freeze_64 : decode cX5_freeze 64 = .ok (.aload_n 0, 1) := by decide +kernel
theorem dX5_freeze_65 : decode cX5_freeze 65 = .ok (.iload 4, 2) := by decide +kernel
theorem dX5_freeze_67 : decode cX5_freeze 67 = .ok (.iconst 3, 1) := by decide +kernel
theorem dX5_freeze_68 : decode cX5_freeze 68 = .ok (.iadd, 1) := by decide +kernel
theorem dX5_freeze_69 : decode cX5_freeze 69 = .ok (.aload_n 0, 1) := by decide +kernel
theorem dX5_freeze_70 : decode cX5_freeze 70 = .ok (.iload 4, 2) := by decide +kernel
theorem dX5_freeze_72 : decode cX5_freeze 72 = .ok (.iconst 2, 1) := by decide +kernel
theorem dX5_freeze_73 : decode cX5_freeze 73 = .ok (.iadd, 1) := by decide +kernel
theorem dX5_freeze_74 : decode cX5_freeze 74 = .ok (.iaload, 1) := by decide +kernel
theorem dX5_freeze_75 : decode cX5_freeze 75 = .ok (.aload_n 0, 1) := by decide +kernel
theorem dX5_freeze_76 : decode cX5_freeze 76 = .ok (.iload 4, 2) := by decide +kernel
theorem dX5_freeze_78 : decode cX5_freeze 78 = .ok (.iconst 3, 1) := by decide +kernel
theorem dX5_freeze_79 : decode cX5_freeze 79 = .ok (.iadd, 1) := by decide +kernel
theorem dX5_freeze_80 : decode cX5_freeze 80 = .ok (.iaload, 1) := by decide +kernel
theorem dX5_freeze_81 : decode cX5_freeze 81 = .ok (.if_icmp .le 12, 3) := by decide +kernel
theorem dX5_freeze_84 : decode cX5_freeze 84 = .ok (.aload_n 0, 1) := by decide +kernel
theorem dX5_freeze_85 : decode cX5_freeze 85 = .ok (.iload 4, 2) := by decide +kernel
theorem dX5_freeze_87 : decode cX5_freeze 87 = .ok (.iconst 2, 1) := by decide +kernel
theorem dX5_freeze_88 : decode cX5_freeze 88 = .ok (.iadd, 1) := by decide +kernel
theorem dX5_freeze_89 : decode cX5_freeze 89 = .ok (.iaload, 1) := by decide +kernel
theorem dX5_freeze_90 : decode cX5_freeze 90 = .ok (.goto 9, 3) := by decide +kernel
theorem dX5_freeze_93 : decode cX5_freeze 93 = .ok (.aload_n 0, 1) := by decide +kernel
theorem dX5_freeze_94 : decode cX5_freeze 94 = .ok (.iload 4, 2) := by decide +kernel
theorem dX5_freeze_96 : decode cX5_freeze 96 = .ok (.iconst 3, 1) := by decide +kernel
theorem dX5_freeze_97 : decode cX5_freeze 97 = .ok (.iadd, 1) := by decide +kernel
theorem dX5_freeze_98 : decode cX5_freeze 98 = .ok (.iaload, 1) := by decide +kernel
theorem dX5_freeze_99 : decode cX5_freeze 99 = .ok (.iastore, 1) := by decide +kernel
theorem dX5_freeze_100 : decode cX5_freeze 100 = .ok (.aload_n 0, 1) := by decide +kernel
theorem dX5_freeze_101 : decode cX5_freeze 101 = .ok (.iload 4, 2) := by decide +kernel
theorem dX5_freeze_103 : decode cX5_freeze 103 = .ok (.iconst 4, 1) := by decide +kernel
theorem dX5_freeze_104 : decode cX5_freeze 104 = .ok (.iadd, 1) := by decide +kernel
theorem dX5_freeze_105 : decode cX5_freeze 105 = .ok (.dup2, 1) := by decide +kernel
theorem dX5_freeze_106 : decode cX5_freeze 106 = .ok (.iaload, 1) := by decide +kernel
theorem dX5_freeze_107 : decode cX5_freeze 107 = .ok (.iconst 1, 1) := by decide +kernel
theorem dX5_freeze_108 : decode cX5_freeze 108 = .ok (.iadd, 1) := by decide +kernel
theorem dX5_freeze_109 : decode cX5_freeze 109 = .ok (.iastore, 1) := by decide +kernel
theorem dX5_freeze_110 : decode cX5_freeze 110 = .ok (.iinc 3 1, 3) := by decide +kernel
theorem dX5_freeze_113 : decode cX5_freeze 113 = .ok (.goto (-99), 3) := by decide +kernel
theorem dX5_freeze_116 : decode cX5_freeze 116 = .ok (.return_, 1) := by decide +kernel
set_option maxRecDepth 20000 in
theorem ggX5_thaw_X5_cell : GoodIn wsX5_thaw wsX5_cell := goodIn_r _ [4] (by decide +kernel) (by decide +kernel)
set_option maxRecDepth 20000 in
theorem gX5_thaw_X5_cell : GoodIn wsX5_thaw (va_wsS RX5 56 yX5_cell wsX5_cell) := goodIn_app (goodIn_of _ (by decide +kernel)) ggX5_thaw_X5_cell
theorem dX5_thaw_0 : decode cX5_thaw 0 = .ok (.aload_n 0, 1) := by decide +kernel
theorem dX5_thaw_1 : decode cX5_thaw 1 = .ok (.iload_n 1, 1) := by decide +kernel
theorem dX5_thaw_2 : decode cX5_thaw 2 = .ok (.iload_n 2, 1) := by decide +kernel
theorem dX5_thaw_3 : decode cX5_thaw 3 = .ok (.invokestatic 56, 3) := by decide +kernel
theorem dX5_thaw_6 : decode cX5_thaw 6 = .ok (.iconst 0, 1) := by decide +kernel
theorem dX5_thaw_7 : decode cX5_thaw 7 = .ok (.iastore, 1) := by decide +kernel
theorem dX5_thaw_8 : decode cX5_thaw 8 = .ok (.iconst 0, 1) := by decide +kernel
theorem dX5_thaw_9 : decode cX5_thaw 9 = .ok (.istore_n 3, 1) := by decide +kernel
theorem dX5_thaw_10 : decode cX5_thaw 10 = .ok (.iload_n 3, 1) := by decide +kernel
theorem dX5_thaw_11 : decode cX5_thaw 11 = .ok (.aload_n 0, 1) := by decide +kernel
theorem dX5_thaw_12 : decode cX5_thaw 12 = .ok (.sipush 198, 3) := by decide +kernel
theorem dX5_thaw_15 : decode cX5_thaw 15 = .ok (.iaload, 1) := by decide +kernel
theorem dX5_thaw_16 : decode cX5_thaw 16 = .ok (.if_icmp .ge 57, 3) := by decide +kernel
theorem dX5_thaw_19 : decode cX5_thaw 19 = .ok (.sipush 156, 3) := by decide +kernel
theorem dX5_thaw_22 : decode cX5_thaw 22 = .ok (.iconst 5, 1) := by decide +kernel
theorem dX5_thaw_23 : decode cX5_thaw 23 = .ok (.iload_n 3, 1) := by decide +kernel
theorem dX5_thaw_24 : decode cX5_thaw 24 = .ok (.imul, 1) := by decide +kernel
theorem dX5_thaw_25 : decode cX5_thaw 25 = .ok (.iadd, 1) := by decide +kernel
theorem dX5_thaw_26 : decode cX5_thaw 26 = .ok (.istore 4, 2) := by decide +kernel
theorem dX5_thaw_28 : decode cX5_thaw 28 = .ok (.aload_n 0, 1) := by decide +kernel
theorem dX5_thaw_29 : decode cX5_thaw 29 = .ok (.iload 4, 2) := by decide +kernel
theorem dX5_thaw_31 : decode cX5_thaw 31 = .ok (.iconst 2, 1) := by decide +kernel
theorem dX5_thaw_32 : decode cX5_thaw 32 = .ok (.iadd, 1) := by decide +kernel
theorem dX5_thaw_33 : decode cX5_thaw 33 = .ok (.dup2, 1) := by decide +kernel
theorem dX5_thaw_34 : decode cX5_thaw 34 = .ok (.iaload, 1) := by decide +kernel
theorem dX5_thaw_35 : decode cX5_thaw 35 = .ok (.aload_n 0, 1) := by decide +kernel
theorem dX5_thaw_36 : decode cX5_thaw 36 = .ok (.iload 4, 2) := by decide +kernel
theorem dX5_thaw_38 : decode cX5_thaw 38 = .ok (.iaload, 1) := by decide +kernel
theorem dX5_thaw_39 : decode cX5_thaw 39 = .ok (.iload_n 1, 1) := by decide +kernel
theorem dX5_thaw_40 : decode cX5_thaw 40 = .ok (.if_icmp .ne 24, 3) := by decide +kernel
theorem dX5_thaw_43 : decode cX5_thaw 43 = .ok (.aload_n 0, 1) := by decide +kernel
theorem dX5_thaw_44 : decode cX5_thaw 44 = .ok (.iload 4, 2) := by decide +kernel
theorem dX5_thaw_46 : decode cX5_thaw 46 = .ok (.iconst 1, 1) := by decide +kernel
theorem dX5_thaw_47 : decode cX5_thaw 47 = .ok (.iadd, 1) := by decide +kernel
theorem dX5_thaw_48 : decode cX5_thaw 48 = .ok (.iaload, 1) := by decide +kernel
theorem dX5_thaw_49 : decode cX5_thaw 49 = .ok (.iload_n 2, 1) := by decide +kernel
theorem dX5_thaw_50 : decode cX5_thaw 50 = .ok (.if_icmp .ne 14, 3) := by decide +kernel
theorem dX5_thaw_53 : decode cX5_thaw 53 = .ok (.aload_n 0, 1) := by decide +kernel
theorem dX5_thaw_54 : decode cX5_thaw 54 = .ok (.iload 4, 2) := by decide +kernel
theorem dX5_thaw_56 : decode cX5_thaw 56 = .ok (.iconst 2, 1) := by decide +kernel
theorem dX5_thaw_57 : decode cX5_thaw 57 = .ok (.iadd, 1) := by decide +kernel
theorem dX5_thaw_58 : decode cX5_thaw 58 = .ok (.iaload, 1) := by decide +kernel
theorem dX5_thaw_59 : decode cX5_thaw 59 = .ok (.iconst 2, 1) := by decide +kernel
theorem dX5_thaw_60 : decode cX5_thaw 60 = .ok (.idiv, 1) := by decide +kernel
theorem dX5_thaw_61 : decode cX5_thaw 61 = .ok (.goto 4, 3) := by decide +kernel
theorem dX5_thaw_64 : decode cX5_thaw 64 = .ok (.iconst 0, 1) := by decide +kernel
theorem dX5_thaw_65 : decode cX5_thaw 65 = .ok (.isub, 1) := by decide +kernel
theorem dX5_thaw_66 : decode cX5_thaw 66 = .ok (.iastore, 1) := by decide +kernel
theorem dX5_thaw_67 : decode cX5_thaw 67 = .ok (.iinc 3 1, 3) := by decide +kernel
theorem dX5_thaw_70 : decode cX5_thaw 70 = .ok (.goto (-60), 3) := by decide +kernel
theorem dX5_thaw_73 : decode cX5_thaw 73 = .ok (.return_, 1) := by decide +kernel
set_option maxRecDepth 20000 in
theorem ggX5_weather_X5_min : GoodIn wsX5_weather wsX5_min := goodIn_r _ [4] (by decide +kernel) (by decide +kernel)
set_option maxRecDepth 20000 in
theorem gX5_weather_X5_min : GoodIn wsX5_weather (va_wsS RX5 64 yX5_min wsX5_min) := goodIn_app (goodIn_of _ (by decide +kernel)) ggX5_weather_X5_min
theorem dX5_weather_0 : decode cX5_weather 0 = .ok (.bipush 35, 2) := by decide +kernel
theorem dX5_weather_2 : decode cX5_weather 2 = .ok (.iload_n 1, 1) := by decide +kernel
theorem dX5_weather_3 : decode cX5_weather 3 = .ok (.imul, 1) := by decide +kernel
theorem dX5_weather_4 : decode cX5_weather 4 = .ok (.istore 4, 2) := by decide +kernel
theorem dX5_weather_6 : decode cX5_weather 6 = .ok (.aload_n 0, 1) := by decide +kernel
theorem dX5_weather_7 : decode cX5_weather 7 = .ok (.iload 4, 2) := by decide +kernel
theorem dX5_weather_9 : decode cX5_weather 9 = .ok (.iconst 0, 1) := by decide +kernel
theorem dX5_weather_10 : decode cX5_weather 10 = .ok (.iadd, 1) := by decide +kernel
theorem dX5_weather_11 : decode cX5_weather 11 = .ok (.bipush 99, 2) := by decide +kernel
theorem dX5_weather_13 : decode cX5_weather 13 = .ok (.aload_n 0, 1) := by decide +kernel
theorem dX5_weather_14 : decode cX5_weather 14 = .ok (.iload 4, 2) := by decide +kernel
theorem dX5_weather_16 : decode cX5_weather 16 = .ok (.iconst 0, 1) := by decide +kernel
theorem dX5_weather_17 : decode cX5_weather 17 = .ok (.iadd, 1) := by decide +kernel
theorem dX5_weather_18 : decode cX5_weather 18 = .ok (.iaload, 1) := by decide +kernel
theorem dX5_weather_19 : decode cX5_weather 19 = .ok (.iload_n 3, 1) := by decide +kernel
theorem dX5_weather_20 : decode cX5_weather 20 = .ok (.iadd, 1) := by decide +kernel
theorem dX5_weather_21 : decode cX5_weather 21 = .ok (.iload_n 3, 1) := by decide +kernel
theorem dX5_weather_22 : decode cX5_weather 22 = .ok (.aload_n 0, 1) := by decide +kernel
theorem dX5_weather_23 : decode cX5_weather 23 = .ok (.iload 4, 2) := by decide +kernel
theorem dX5_weather_25 : decode cX5_weather 25 = .ok (.iconst 1, 1) := by decide +kernel
theorem dX5_weather_26 : decode cX5_weather 26 = .ok (.iadd, 1) := by decide +kernel
theorem dX5_weather_27 : decode cX5_weather 27 = .ok (.iaload, 1) := by decide +kernel
theorem dX5_weather_28 : decode cX5_weather 28 = .ok (.invokestatic 64, 3) := by decide +kernel
theorem dX5_weather_31 : decode cX5_weather 31 = .ok (.iadd, 1) := by decide +kernel
theorem dX5_weather_32 : decode cX5_weather 32 = .ok (.invokestatic 64, 3) := by decide +kernel
theorem dX5_weather_35 : decode cX5_weather 35 = .ok (.iastore, 1) := by decide +kernel
theorem dX5_weather_36 : decode cX5_weather 36 = .ok (.iload_n 2, 1) := by decide +kernel
theorem dX5_weather_37 : decode cX5_weather 37 = .ok (.ifCond .le 71, 3) := by decide +kernel
theorem dX5_weather_40 : decode cX5_weather 40 = .ok (.iload_n 2, 1) := by decide +kernel
theorem dX5_weather_41 : decode cX5_weather 41 = .ok (.aload_n 0, 1) := by decide +kernel
theorem dX5_weather_42 : decode cX5_weather 42 = .ok (.sipush 203, 3) := by decide +kernel
theorem dX5_weather_45 : decode cX5_weather 45 = .ok (.iaload, 1) := by decide +kernel
theorem dX5_weather_46 : decode cX5_weather 46 = .ok (.imul, 1) := by decide +kernel
theorem dX5_weather_47 : decode cX5_weather 47 = .ok (.aload_n 0, 1) := by decide +kernel
theorem dX5_weather_48 : decode cX5_weather 48 = .ok (.iload 4, 2) := by decide +kernel
theorem dX5_weather_50 : decode cX5_weather 50 = .ok (.iconst 0, 1) := by decide +kernel
theorem dX5_weather_51 : decode cX5_weather 51 = .ok (.iadd, 1) := by decide +kernel
theorem dX5_weather_52 : decode cX5_weather 52 = .ok (.iaload, 1) := by decide +kernel
theorem dX5_weather_53 : decode cX5_weather 53 = .ok (.invokestatic 64, 3) := by decide +kernel
theorem dX5_weather_56 : decode cX5_weather 56 = .ok (.istore 5, 2) := by decide +kernel
theorem dX5_weather_58 : decode cX5_weather 58 = .ok (.aload_n 0, 1) := by decide +kernel
theorem dX5_weather_59 : decode cX5_weather 59 = .ok (.iload 4, 2) := by decide +kernel
theorem dX5_weather_61 : decode cX5_weather 61 = .ok (.iconst 0, 1) := by decide +kernel
theorem dX5_weather_62 : decode cX5_weather 62 = .ok (.iadd, 1) := by decide +kernel
theorem dX5_weather_63 : decode cX5_weather 63 = .ok (.dup2, 1) := by decide +kernel
theorem dX5_weather_64 : decode cX5_weather 64 = .ok (.iaload, 1) := by decide +kernel
theorem dX5_weather_65 : decode cX5_weather 65 = .ok (.iload 5, 2) := by decide +kernel
theorem dX5_weather_67 : decode cX5_weather 67 = .ok (.isub, 1) := by decide +kernel
theorem dX5_weather_68 : decode cX5_weather 68 = .ok (.iastore, 1) := by decide +kernel
theorem dX5_weather_69 : decode cX5_weather 69 = .ok (.aload_n 0, 1) := by decide +kernel
theorem dX5_weather_70 : decode cX5_weather 70 = .ok (.iload 4, 2) := by decide +kernel
theorem dX5_weather_72 : decode cX5_weather 72 = .ok (.iconst 3, 1) := by decide +kernel
theorem dX5_weather_73 : decode cX5_weather 73 = .ok (.iadd, 1) := by decide +kernel
theorem dX5_weather_74 : decode cX5_weather 74 = .ok (.dup2, 1) := by decide +kernel
theorem dX5_weather_75 : decode cX5_weather 75 = .ok (.iaload, 1) := by decide +kernel
theorem dX5_weather_76 : decode cX5_weather 76 = .ok (.aload_n 0, 1) := by decide +kernel
theorem dX5_weather_77 : decode cX5_weather 77 = .ok (.iload 4, 2) := by decide +kernel
theorem dX5_weather_79 : decode cX5_weather 79 = .ok (.iconst 0, 1) := by decide +kernel
theorem dX5_weather_80 : decode cX5_weather 80 = .ok (.iadd, 1) := by decide +kernel
theorem dX5_weather_81 : decode cX5_weather 81 = .ok (.iaload, 1) := by decide +kernel
theorem dX5_weather_82 : decode cX5_weather 82 = .ok (.ifCond .le 7, 3) := by decide +kernel
theorem dX5_weather_85 : decode cX5_weather 85 = .ok (.iconst 0, 1) := by decide +kernel
theorem dX5_weather_86 : decode cX5_weather 86 = .ok (.goto 13, 3) := by decide +kernel
theorem dX5_weather_89 : decode cX5_weather 89 = .ok (.iload_n 2, 1) := by decide +kernel
theorem dX5_weather_90 : decode cX5_weather 90 = .ok (.iload 5, 2) := by decide +kernel
theorem dX5_weather_92 : decode cX5_weather 92 = .ok (.aload_n 0, 1) := by decide +kernel
theorem dX5_weather_93 : decode cX5_weather 93 = .ok (.sipush 203, 3) := by decide +kernel
theorem dX5_weather_96 : decode cX5_weather 96 = .ok (.iaload, 1) := by decide +kernel
theorem dX5_weather_97 : decode cX5_weather 97 = .ok (.idiv, 1) := by decide +kernel
theorem dX5_weather_98 : decode cX5_weather 98 = .ok (.isub, 1) := by decide +kernel
theorem dX5_weather_99 : decode cX5_weather 99 = .ok (.iadd, 1) := by decide +kernel
theorem dX5_weather_100 : decode cX5_weather 100 = .ok (.iastore, 1) := by decide +kernel
theorem dX5_weather_101 : decode cX5_weather 101 = .ok (.aload_n 0, 1) := by decide +kernel
theorem dX5_weather_102 : decode cX5_weather 102 = .ok (.iload 4, 2) := by decide +kernel
theorem dX5_weather_104 : decode cX5_weather 104 = .ok (.iconst 2, 1) := by decide +kernel
theorem dX5_weather_105 : decode cX5_weather 105 = .ok (.iadd, 1) := by decide +kernel
theorem dX5_weather_106 : decode cX5_weather 106 = .ok (.iconst 0, 1) := by decide +kernel
theorem dX5_weather_107 : decode cX5_weather 107 = .ok (.iastore, 1) := by decide +kernel
theorem dX5_weather_108 : decode cX5_weather 108 = .ok (.iload_n 2, 1) := by decide +kernel
theorem dX5_weather_109 : decode cX5_weather 109 = .ok (.ifCond .ge 49, 3) := by decide +kernel
theorem dX5_weather_112 : decode cX5_weather 112 = .ok (.bipush 10, 2) := by decide +kernel
theorem dX5_weather_114 : decode cX5_weather 114 = .ok (.iload_n 2, 1) := by decide +kernel
theorem dX5_weather_115 : decode cX5_weather 115 = .ok (.ineg, 1) := by decide +kernel
theorem dX5_weather_116 : decode cX5_weather 116 = .ok (.imul, 1) := by decide +kernel
theorem dX5_weather_117 : decode cX5_weather 117 = .ok (.bipush 10, 2) := by decide +kernel
theorem dX5_weather_119 : decode cX5_weather 119 = .ok (.aload_n 0, 1) := by decide +kernel
theorem dX5_weather_120 : decode cX5_weather 120 = .ok (.iload 4, 2) := by decide +kernel
theorem dX5_weather_122 : decode cX5_weather 122 = .ok (.iconst 0, 1) := by decide +kernel
theorem dX5_weather_123 : decode cX5_weather 123 = .ok (.iadd, 1) := by decide +kernel
theorem dX5_weather_124 : decode cX5_weather 124 = .ok (.iaload, 1) := by decide +kernel
theorem dX5_weather_125 : decode cX5_weather 125 = .ok (.iadd, 1) := by decide +kernel
theorem dX5_weather_126 : decode cX5_weather 126 = .ok (.idiv, 1) := by decide +kernel
theorem dX5_weather_127 : decode cX5_weather 127 = .ok (.istore 5, 2) := by decide +kernel
theorem dX5_weather_129 : decode cX5_weather 129 = .ok (.aload_n 0, 1) := by decide +kernel
theorem dX5_weather_130 : decode cX5_weather 130 = .ok (.iload 4, 2) := by decide +kernel
theorem dX5_weather_132 : decode cX5_weather 132 = .ok (.iconst 2, 1) := by decide +kernel
theorem dX5_weather_133 : decode cX5_weather 133 = .ok (.iadd, 1) := by decide +kernel
theorem dX5_weather_134 : decode cX5_weather 134 = .ok (.dup2, 1) := by decide +kernel
theorem dX5_weather_135 : decode cX5_weather 135 = .ok (.iaload, 1) := by decide +kernel
theorem dX5_weather_136 : decode cX5_weather 136 = .ok (.iload 5, 2) := by decide +kernel
theorem dX5_weather_138 : decode cX5_weather 138 = .ok (.iadd, 1) := by decide +kernel
theorem dX5_weather_139 : decode cX5_weather 139 = .ok (.iastore, 1) := by decide +kernel
theorem dX5_weather_140 : decode cX5_weather 140 = .ok (.aload_n 0, 1) := by decide +kernel
theorem dX5_weather_141 : decode cX5_weather 141 = .ok (.iload 4, 2) := by decide +kernel
theorem dX5_weather_143 : decode cX5_weather 143 = .ok (.iconst 4, 1) := by decide +kernel
theorem dX5_weather_144 : decode cX5_weather 144 = .ok (.iadd, 1) := by decide +kernel
theorem dX5_weather_145 : decode cX5_weather 145 = .ok (.dup2, 1) := by decide +kernel
theorem dX5_weather_146 : decode cX5_weather 146 = .ok (.iaload, 1) := by decide +kernel
theorem dX5_weather_147 : decode cX5_weather 147 = .ok (.iload 5, 2) := by decide +kernel
theorem dX5_weather_149 : decode cX5_weather 149 = .ok (.iadd, 1) := by decide +kernel
theorem dX5_weather_150 : decode cX5_weather 150 = .ok (.iastore, 1) := by decide +kernel
theorem dX5_weather_151 : decode cX5_weather 151 = .ok (.aload_n 0, 1) := by decide +kernel
theorem dX5_weather_152 : decode cX5_weather 152 = .ok (.iload 4, 2) := by decide +kernel
theorem dX5_weather_154 : decode cX5_weather 154 = .ok (.iconst 3, 1) := by decide +kernel
theorem dX5_weather_155 : decode cX5_weather 155 = .ok (.iadd, 1) := by decide +kernel
theorem dX5_weather_156 : decode cX5_weather 156 = .ok (.iconst 0, 1) := by decide +kernel
theorem dX5_weather_157 : decode cX5_weather 157 = .ok (.iastore, 1) := by decide +kernel
theorem dX5_weather_158 : decode cX5_weather 158 = .ok (.return_, 1) := by decide +kernel
set_option maxRecDepth 20000 in
theorem ggX5_daySite_X5_weather : GoodIn wsX5_daySite wsX5_weather := goodIn_r _ [4, 5, 6, 3, 7] (by decide +kernel) (by decide +kernel)
set_option maxRecDepth 20000 in
theorem gX5_daySite_X5_weather : GoodIn wsX5_daySite (va_wsS RX5 67 yX5_weather wsX5_weather) := goodIn_app (goodIn_of _ (by decide +kernel)) ggX5_daySite_X5_weather
set_option maxRecDepth 20000 in
theorem ggX5_daySite_X5_first : GoodIn wsX5_daySite wsX5_first := goodIn_r _ [10, 11, 12, 3, 13, 14, 15, 16] (by decide +kernel) (by decide +kernel)
set_option maxRecDepth 20000 in
theorem gX5_daySite_X5_first : GoodIn wsX5_daySite (va_wsS RX5 71 yX5_first wsX5_first) := goodIn_app (goodIn_of _ (by decide +kernel)) ggX5_daySite_X5_first
set_option maxRecDepth 20000 in
theorem ggX5_daySite_X5_freeze : GoodIn wsX5_daySite wsX5_freeze := goodIn_r _ [19, 14, 15, 3, 16] (by decide +kernel) (by decide +kernel)
set_option maxRecDepth 20000 in
theorem gX5_daySite_X5_freeze : GoodIn wsX5_daySite (va_wsS RX5 75 yX5_freeze wsX5_freeze) := goodIn_app (goodIn_of _ (by decide +kernel)) ggX5_daySite_X5_freeze
set_option maxRecDepth 20000 in
theorem ggX5_daySite_X5_thaw : GoodIn wsX5_daySite wsX5_thaw := goodIn_r _ [22, 14, 15, 3, 16] (by decide +kernel) (by decide +kernel)
set_option maxRecDepth 20000 in
theorem gX5_daySite_X5_thaw : GoodIn wsX5_daySite (va_wsS RX5 79 yX5_thaw wsX5_thaw) := goodIn_app (goodIn_of _ (by decide +kernel)) ggX5_daySite_X5_thaw
set_option maxRecDepth 20000 in
theorem ggX5_daySite_X5_lowest : GoodIn wsX5_daySite wsX5_lowest := goodIn_r _ [25, 11, 12, 3, 13, 14, 15, 16] (by decide +kernel) (by decide +kernel)
set_option maxRecDepth 20000 in
theorem gX5_daySite_X5_lowest : GoodIn wsX5_daySite (va_wsS RX5 82 yX5_lowest wsX5_lowest) := goodIn_app (goodIn_of _ (by decide +kernel)) ggX5_daySite_X5_lowest
theorem dX5_daySite_0 : decode cX5_daySite 0 = .ok (.bipush 35, 2) := by decide +kernel
theorem dX5_daySite_2 : decode cX5_daySite 2 = .ok (.iload_n 1, 1) := by decide +kernel
theorem dX5_daySite_3 : decode cX5_daySite 3 = .ok (.imul, 1) := by decide +kernel
theorem dX5_daySite_4 : decode cX5_daySite 4 = .ok (.istore 4, 2) := by decide +kernel
theorem dX5_daySite_6 : decode cX5_daySite 6 = .ok (.aload_n 0, 1) := by decide +kernel
theorem dX5_daySite_7 : decode cX5_daySite 7 = .ok (.iload_n 1, 1) := by decide +kernel
theorem dX5_daySite_8 : decode cX5_daySite 8 = .ok (.iload_n 2, 1) := by decide +kernel
theorem dX5_daySite_9 : decode cX5_daySite 9 = .ok (.iload_n 3, 1) := by decide +kernel
theorem dX5_daySite_10 : decode cX5_daySite 10 = .ok (.invokestatic 67, 3) := by decide +kernel
theorem dX5_daySite_13 : decode cX5_daySite 13 = .ok (.aload_n 0, 1) := by decide +kernel
theorem dX5_daySite_14 : decode cX5_daySite 14 = .ok (.iload_n 1, 1) := by decide +kernel
theorem dX5_daySite_15 : decode cX5_daySite 15 = .ok (.iconst 0, 1) := by decide +kernel
theorem dX5_daySite_16 : decode cX5_daySite 16 = .ok (.invokestatic 71, 3) := by decide +kernel
theorem dX5_daySite_19 : decode cX5_daySite 19 = .ok (.istore 5, 2) := by decide +kernel
theorem dX5_daySite_21 : decode cX5_daySite 21 = .ok (.iload 5, 2) := by decide +kernel
theorem dX5_daySite_23 : decode cX5_daySite 23 = .ok (.bipush 30, 2) := by decide +kernel
theorem dX5_daySite_25 : decode cX5_daySite 25 = .ok (.if_icmp .ge 47, 3) := by decide +kernel
theorem dX5_daySite_28 : decode cX5_daySite 28 = .ok (.aload_n 0, 1) := by decide +kernel
theorem dX5_daySite_29 : decode cX5_daySite 29 = .ok (.iload 4, 2) := by decide +kernel
theorem dX5_daySite_31 : decode cX5_daySite 31 = .ok (.iconst 2, 1) := by decide +kernel
theorem dX5_daySite_32 : decode cX5_daySite 32 = .ok (.iadd, 1) := by decide +kernel
theorem dX5_daySite_33 : decode cX5_daySite 33 = .ok (.iaload, 1) := by decide +kernel
theorem dX5_daySite_34 : decode cX5_daySite 34 = .ok (.iconst 4, 1) := by decide +kernel
theorem dX5_daySite_35 : decode cX5_daySite 35 = .ok (.iload 5, 2) := by decide +kernel
theorem dX5_daySite_37 : decode cX5_daySite 37 = .ok (.iadd, 1) := by decide +kernel
theorem dX5_daySite_38 : decode cX5_daySite 38 = .ok (.if_icmp .lt 34, 3) := by decide +kernel
theorem dX5_daySite_41 : decode cX5_daySite 41 = .ok (.aload_n 0, 1) := by decide +kernel
theorem dX5_daySite_42 : decode cX5_daySite 42 = .ok (.iload_n 1, 1) := by decide +kernel
theorem dX5_daySite_43 : decode cX5_daySite 43 = .ok (.iload 5, 2) := by decide +kernel
theorem dX5_daySite_45 : decode cX5_daySite 45 = .ok (.invokestatic 75, 3) := by decide +kernel
theorem dX5_daySite_48 : decode cX5_daySite 48 = .ok (.aload_n 0, 1) := by decide +kernel
theorem dX5_daySite_49 : decode cX5_daySite 49 = .ok (.iload 4, 2) := by decide +kernel
theorem dX5_daySite_51 : decode cX5_daySite 51 = .ok (.iconst 2, 1) := by decide +kernel
theorem dX5_daySite_52 : decode cX5_daySite 52 = .ok (.iadd, 1) := by decide +kernel
theorem dX5_daySite_53 : decode cX5_daySite 53 = .ok (.dup2, 1) := by decide +kernel
theorem dX5_daySite_54 : decode cX5_daySite 54 = .ok (.iaload, 1) := by decide +kernel
theorem dX5_daySite_55 : decode cX5_daySite 55 = .ok (.iconst 4, 1) := by decide +kernel
theorem dX5_daySite_56 : decode cX5_daySite 56 = .ok (.iload 5, 2) := by decide +kernel
theorem dX5_daySite_58 : decode cX5_daySite 58 = .ok (.iadd, 1) := by decide +kernel
theorem dX5_daySite_59 : decode cX5_daySite 59 = .ok (.isub, 1) := by decide +kernel
theorem dX5_daySite_60 : decode cX5_daySite 60 = .ok (.iastore, 1) := by decide +kernel
theorem dX5_daySite_61 : decode cX5_daySite 61 = .ok (.aload_n 0, 1) := by decide +kernel
theorem dX5_daySite_62 : decode cX5_daySite 62 = .ok (.iload_n 1, 1) := by decide +kernel
theorem dX5_daySite_63 : decode cX5_daySite 63 = .ok (.iconst 0, 1) := by decide +kernel
theorem dX5_daySite_64 : decode cX5_daySite 64 = .ok (.invokestatic 71, 3) := by decide +kernel
theorem dX5_daySite_67 : decode cX5_daySite 67 = .ok (.istore 5, 2) := by decide +kernel
theorem dX5_daySite_69 : decode cX5_daySite 69 = .ok (.goto (-48), 3) := by decide +kernel
theorem dX5_daySite_72 : decode cX5_daySite 72 = .ok (.aload_n 0, 1) := by decide +kernel
theorem dX5_daySite_73 : decode cX5_daySite 73 = .ok (.iload_n 1, 1) := by decide +kernel
theorem dX5_daySite_74 : decode cX5_daySite 74 = .ok (.iconst 1, 1) := by decide +kernel
theorem dX5_daySite_75 : decode cX5_daySite 75 = .ok (.invokestatic 71, 3) := by decide +kernel
theorem dX5_daySite_78 : decode cX5_daySite 78 = .ok (.istore 5, 2) := by decide +kernel
theorem dX5_daySite_80 : decode cX5_daySite 80 = .ok (.iload 5, 2) := by decide +kernel
theorem dX5_daySite_82 : decode cX5_daySite 82 = .ok (.bipush 30, 2) := by decide +kernel
theorem dX5_daySite_84 : decode cX5_daySite 84 = .ok (.if_icmp .ge 47, 3) := by decide +kernel
theorem dX5_daySite_87 : decode cX5_daySite 87 = .ok (.aload_n 0, 1) := by decide +kernel
theorem dX5_daySite_88 : decode cX5_daySite 88 = .ok (.iload 4, 2) := by decide +kernel
theorem dX5_daySite_90 : decode cX5_daySite 90 = .ok (.iconst 3, 1) := by decide +kernel
theorem dX5_daySite_91 : decode cX5_daySite 91 = .ok (.iadd, 1) := by decide +kernel
theorem dX5_daySite_92 : decode cX5_daySite 92 = .ok (.iaload, 1) := by decide +kernel
theorem dX5_daySite_93 : decode cX5_daySite 93 = .ok (.iconst 3, 1) := by decide +kernel
theorem dX5_daySite_94 : decode cX5_daySite 94 = .ok (.iload 5, 2) := by decide +kernel
theorem dX5_daySite_96 : decode cX5_daySite 96 = .ok (.iadd, 1) := by decide +kernel
theorem dX5_daySite_97 : decode cX5_daySite 97 = .ok (.if_icmp .lt 34, 3) := by decide +kernel
theorem dX5_daySite_100 : decode cX5_daySite 100 = .ok (.aload_n 0, 1) := by decide +kernel
theorem dX5_daySite_101 : decode cX5_daySite 101 = .ok (.iload_n 1, 1) := by decide +kernel
theorem dX5_daySite_102 : decode cX5_daySite 102 = .ok (.iload 5, 2) := by decide +kernel
theorem dX5_daySite_104 : decode cX5_daySite 104 = .ok (.invokestatic 79, 3) := by decide +kernel
theorem dX5_daySite_107 : decode cX5_daySite 107 = .ok (.aload_n 0, 1) := by decide +kernel
theorem dX5_daySite_108 : decode cX5_daySite 108 = .ok (.iload 4, 2) := by decide +kernel
theorem dX5_daySite_110 : decode cX5_daySite 110 = .ok (.iconst 3, 1) := by decide +kernel
theorem dX5_daySite_111 : decode cX5_daySite 111 = .ok (.iadd, 1) := by decide +kernel
theorem dX5_daySite_112 : decode cX5_daySite 112 = .ok (.dup2, 1) := by decide +kernel
theorem dX5_daySite_113 : decode cX5_daySite 113 = .ok (.iaload, 1) := by decide +kernel
theorem dX5_daySite_114 : decode cX5_daySite 114 = .ok (.iconst 3, 1) := by decide +kernel
theorem dX5_daySite_115 : decode cX5_daySite 115 = .ok (.iload 5, 2) := by decide +kernel
theorem dX5_daySite_117 : decode cX5_daySite 117 = .ok (.iadd, 1) := by decide +kernel
theorem dX5_daySite_118 : decode cX5_daySite 118 = .ok (.isub, 1) := by decide +kernel
theorem dX5_daySite_119 : decode cX5_daySite 119 = .ok (.iastore, 1) := by decide +kernel
theorem dX5_daySite_120 : decode cX5_daySite 120 = .ok (.aload_n 0, 1) := by decide +kernel
theorem dX5_daySite_121 : decode cX5_daySite 121 = .ok (.iload_n 1, 1) := by decide +kernel
theorem dX5_daySite_122 : decode cX5_daySite 122 = .ok (.iconst 1, 1) := by decide +kernel
theorem dX5_daySite_123 : decode cX5_daySite 123 = .ok (.invokestatic 71, 3) := by decide +kernel
theorem dX5_daySite_126 : decode cX5_daySite 126 = .ok (.istore 5, 2) := by decide +kernel
theorem dX5_daySite_128 : decode cX5_daySite 128 = .ok (.goto (-48), 3) := by decide +kernel
theorem dX5_daySite_131 : decode cX5_daySite 131 = .ok (.aload_n 0, 1) := by decide +kernel
theorem dX5_daySite_132 : decode cX5_daySite 132 = .ok (.iload_n 1, 1) := by decide +kernel
theorem dX5_daySite_133 : decode cX5_daySite 133 = .ok (.invokestatic 82, 3) := by decide +kernel
theorem dX5_daySite_136 : decode cX5_daySite 136 = .ok (.istore 6, 2) := by decide +kernel
theorem dX5_daySite_138 : decode cX5_daySite 138 = .ok (.aload_n 0, 1) := by decide +kernel
theorem dX5_daySite_139 : decode cX5_daySite 139 = .ok (.sipush 202, 3) := by decide +kernel
theorem dX5_daySite_142 : decode cX5_daySite 142 = .ok (.iaload, 1) := by decide +kernel
theorem dX5_daySite_143 : decode cX5_daySite 143 = .ok (.ifCond .le 29, 3) := by decide +kernel
theorem dX5_daySite_146 : decode cX5_daySite 146 = .ok (.aload_n 0, 1) := by decide +kernel
theorem dX5_daySite_147 : decode cX5_daySite 147 = .ok (.sipush 199, 3) := by decide +kernel
theorem dX5_daySite_150 : decode cX5_daySite 150 = .ok (.iaload, 1) := by decide +kernel
theorem dX5_daySite_151 : decode cX5_daySite 151 = .ok (.aload_n 0, 1) := by decide +kernel
theorem dX5_daySite_152 : decode cX5_daySite 152 = .ok (.sipush 202, 3) := by decide +kernel
theorem dX5_daySite_155 : decode cX5_daySite 155 = .ok (.iaload, 1) := by decide +kernel
theorem dX5_daySite_156 : decode cX5_daySite 156 = .ok (.irem, 1) := by decide +kernel
theorem dX5_daySite_157 : decode cX5_daySite 157 = .ok (.ifCond .ne 15, 3) := by decide +kernel
theorem dX5_daySite_160 : decode cX5_daySite 160 = .ok (.iload 6, 2) := by decide +kernel
theorem dX5_daySite_162 : decode cX5_daySite 162 = .ok (.ifCond .lt 10, 3) := by decide +kernel
theorem dX5_daySite_165 : decode cX5_daySite 165 = .ok (.aload_n 0, 1) := by decide +kernel
theorem dX5_daySite_166 : decode cX5_daySite 166 = .ok (.iload_n 1, 1) := by decide +kernel
theorem dX5_daySite_167 : decode cX5_daySite 167 = .ok (.iload 6, 2) := by decide +kernel
theorem dX5_daySite_169 : decode cX5_daySite 169 = .ok (.invokestatic 79, 3) := by decide +kernel
theorem dX5_daySite_172 : decode cX5_daySite 172 = .ok (.return_, 1) := by decide +kernel
set_option maxRecDepth 20000 in
theorem ggX5_day_X5_daySite : GoodIn wsX5_day wsX5_daySite := goodIn_r _ [4, 5, 6, 3, 7, 8, 9, 10, 11, 12, 13, 14, 15, 16, 17, 18, 19, 20, 21, 22, 23, 24, 25, 26, 27, 28] (by decide +kernel) (by decide +kernel)
set_option maxRecDepth 20000 in
theorem gX5_day_X5_daySite : GoodIn wsX5_day (va_wsS RX5 86 yX5_daySite wsX5_daySite) := goodIn_app (goodIn_of _ (by decide +kernel)) ggX5_day_X5_daySite
theorem dX5_day_0 : decode cX5_day 0 = .ok (.aload_n 0, 1) := by decide +kernel
theorem dX5_day_1 : decode cX5_day 1 = .ok (.sipush 199, 3) := by decide +kernel
theorem dX5_day_4 : decode cX5_day 4 = .ok (.dup2, 1) := by decide +kernel
theorem dX5_day_5 : decode cX5_day 5 = .ok (.iaload, 1) := by decide +kernel
theorem dX5_day_6 : decode cX5_day 6 = .ok (.iconst 1, 1) := by decide +kernel
theorem dX5_day_7 : decode cX5_day 7 = .ok (.iadd, 1) := by decide +kernel
theorem dX5_day_8 : decode cX5_day 8 = .ok (.iastore, 1) := by decide +kernel
theorem dX5_day_9 : decode cX5_day 9 = .ok (.iconst 0, 1) := by decide +kernel
theorem dX5_day_10 : decode cX5_day 10 = .ok (.istore_n 3, 1) := by decide +kernel
theorem dX5_day_11 : decode cX5_day 11 = .ok (.iload_n 3, 1) := by decide +kernel
theorem dX5_day_12 : decode cX5_day 12 = .ok (.aload_n 0, 1) := by decide +kernel
theorem dX5_day_13 : decode cX5_day 13 = .ok (.sipush 196, 3) := by decide +kernel
theorem dX5_day_16 : decode cX5_day 16 = .ok (.iaload, 1) := by decide +kernel
theorem dX5_day_17 : decode cX5_day 17 = .ok (.if_icmp .ge 16, 3) := by decide +kernel
theorem dX5_day_20 : decode cX5_day 20 = .ok (.aload_n 0, 1) := by decide +kernel
theorem dX5_day_21 : decode cX5_day 21 = .ok (.iload_n 3, 1) := by decide +kernel
theorem dX5_day_22 : decode cX5_day 22 = .ok (.iload_n 1, 1) := by decide +kernel
theorem dX5_day_23 : decode cX5_day 23 = .ok (.iload_n 2, 1) := by decide +kernel
theorem dX5_day_24 : decode cX5_day 24 = .ok (.invokestatic 86, 3) := by decide +kernel
theorem dX5_day_27 : decode cX5_day 27 = .ok (.iinc 3 1, 3) := by decide +kernel
theorem dX5_day_30 : decode cX5_day 30 = .ok (.goto (-19), 3) := by decide +kernel
theorem dX5_day_33 : decode cX5_day 33 = .ok (.return_, 1) := by decide +kernel
set_option maxRecDepth 20000 in
theorem ggX5_cells_X5_frozen : GoodIn wsX5_cells wsX5_frozen := goodIn_r _ [4, 5, 6, 3, 7] (by decide +kernel) (by decide +kernel)
set_option maxRecDepth 20000 in
theorem gX5_cells_X5_frozen : GoodIn wsX5_cells (va_wsS RX5 60 yX5_frozen wsX5_frozen) := goodIn_app (goodIn_of _ (by decide +kernel)) ggX5_cells_X5_frozen
theorem dX5_cells_0 : decode cX5_cells 0 = .ok (.iconst 0, 1) := by decide +kernel
theorem dX5_cells_1 : decode cX5_cells 1 = .ok (.istore_n 2, 1) := by decide +kernel
theorem dX5_cells_2 : decode cX5_cells 2 = .ok (.iconst 0, 1) := by decide +kernel
theorem dX5_cells_3 : decode cX5_cells 3 = .ok (.istore_n 3, 1) := by decide +kernel
theorem dX5_cells_4 : decode cX5_cells 4 = .ok (.iload_n 3, 1) := by decide +kernel
theorem dX5_cells_5 : decode cX5_cells 5 = .ok (.bipush 30, 2) := by decide +kernel
theorem dX5_cells_7 : decode cX5_cells 7 = .ok (.if_icmp .ge 26, 3) := by decide +kernel
theorem dX5_cells_10 : decode cX5_cells 10 = .ok (.iload_n 2, 1) := by decide +kernel
theorem dX5_cells_11 : decode cX5_cells 11 = .ok (.aload_n 0, 1) := by decide +kernel
theorem dX5_cells_12 : decode cX5_cells 12 = .ok (.iload_n 1, 1) := by decide +kernel
theorem dX5_cells_13 : decode cX5_cells 13 = .ok (.iload_n 3, 1) := by decide +kernel
theorem dX5_cells_14 : decode cX5_cells 14 = .ok (.invokestatic 60, 3) := by decide +kernel
theorem dX5_cells_17 : decode cX5_cells 17 = .ok (.ifCond .eq 7, 3) := by decide +kernel
theorem dX5_cells_20 : decode cX5_cells 20 = .ok (.iconst 1, 1) := by decide +kernel
theorem dX5_cells_21 : decode cX5_cells 21 = .ok (.goto 4, 3) := by decide +kernel
theorem dX5_cells_24 : decode cX5_cells 24 = .ok (.iconst 0, 1) := by decide +kernel
theorem dX5_cells_25 : decode cX5_cells 25 = .ok (.iadd, 1) := by decide +kernel
theorem dX5_cells_26 : decode cX5_cells 26 = .ok (.istore_n 2, 1) := by decide +kernel
theorem dX5_cells_27 : decode cX5_cells 27 = .ok (.iinc 3 1, 3) := by decide +kernel
theorem dX5_cells_30 : decode cX5_cells 30 = .ok (.goto (-26), 3) := by decide +kernel
theorem dX5_cells_33 : decode cX5_cells 33 = .ok (.iload_n 2, 1) := by decide +kernel
theorem dX5_cells_34 : decode cX5_cells 34 = .ok (.ireturn, 1) := by decide +kernel
set_option maxRecDepth 20000 in
theorem ggX5_allCells_X5_cells : GoodIn wsX5_allCells wsX5_cells := goodIn_r _ [4, 5, 6, 3, 7, 8, 9, 10] (by decide +kernel) (by decide +kernel)
set_option maxRecDepth 20000 in
theorem gX5_allCells_X5_cells : GoodIn wsX5_allCells (va_wsS RX5 89 yX5_cells wsX5_cells) := goodIn_app (goodIn_of _ (by decide +kernel)) ggX5_allCells_X5_cells
theorem dX5_allCells_0 : decode cX5_allCells 0 = .ok (.iconst 0, 1) := by decide +kernel
theorem dX5_allCells_1 : decode cX5_allCells 1 = .ok (.istore_n 1, 1) := by decide +kernel
theorem dX5_allCells_2 : decode cX5_allCells 2 = .ok (.iconst 0, 1) := by decide +kernel
theorem dX5_allCells_3 : decode cX5_allCells 3 = .ok (.istore_n 2, 1) := by decide +kernel
theorem dX5_allCells_4 : decode cX5_allCells 4 = .ok (.iload_n 2, 1) := by decide +kernel
theorem dX5_allCells_5 : decode cX5_allCells 5 = .ok (.aload_n 0, 1) := by decide +kernel
theorem dX5_allCells_6 : decode cX5_allCells 6 = .ok (.sipush 196, 3) := by decide +kernel
theorem dX5_allCells_9 : decode cX5_allCells 9 = .ok (.iaload, 1) := by decide +kernel
theorem dX5_allCells_10 : decode cX5_allCells 10 = .ok (.if_icmp .ge 17, 3) := by decide +kernel
theorem dX5_allCells_13 : decode cX5_allCells 13 = .ok (.iload_n 1, 1) := by decide +kernel
theorem dX5_allCells_14 : decode cX5_allCells 14 = .ok (.aload_n 0, 1) := by decide +kernel
theorem dX5_allCells_15 : decode cX5_allCells 15 = .ok (.iload_n 2, 1) := by decide +kernel
theorem dX5_allCells_16 : decode cX5_allCells 16 = .ok (.invokestatic 89, 3) := by decide +kernel
theorem dX5_allCells_19 : decode cX5_allCells 19 = .ok (.iadd, 1) := by decide +kernel
theorem dX5_allCells_20 : decode cX5_allCells 20 = .ok (.istore_n 1, 1) := by decide +kernel
theorem dX5_allCells_21 : decode cX5_allCells 21 = .ok (.iinc 2 1, 3) := by decide +kernel
theorem dX5_allCells_24 : decode cX5_allCells 24 = .ok (.goto (-20), 3) := by decide +kernel
theorem dX5_allCells_27 : decode cX5_allCells 27 = .ok (.iload_n 1, 1) := by decide +kernel
theorem dX5_allCells_28 : decode cX5_allCells 28 = .ok (.ireturn, 1) := by decide +kernel
set_option maxRecDepth 20000 in
theorem ggX5_goDays_X5_day : GoodIn wsX5_goDays wsX5_day := goodIn_r _ [4, 5, 6, 3, 7, 8, 9, 10, 11, 12, 13, 14, 15, 16, 17, 18, 19, 20, 21, 22, 23, 24, 25, 26, 27, 28, 29, 30, 31] (by decide +kernel) (by decide +kernel)
set_option maxRecDepth 20000 in
theorem gX5_goDays_X5_day : GoodIn wsX5_goDays (va_wsS RX5 92 yX5_day wsX5_day) := goodIn_app (goodIn_of _ (by decide +kernel)) ggX5_goDays_X5_day
set_option maxRecDepth 20000 in
theorem ggX5_goDays_X5_allCells : GoodIn wsX5_goDays wsX5_allCells := goodIn_r _ [34, 35, 36, 3, 37, 17, 18, 19, 20, 21, 22] (by decide +kernel) (by decide +kernel)
set_option maxRecDepth 20000 in
theorem gX5_goDays_X5_allCells : GoodIn wsX5_goDays (va_wsS RX5 95 yX5_allCells wsX5_allCells) := goodIn_app (goodIn_of _ (by decide +kernel)) ggX5_goDays_X5_allCells
theorem dX5_goDays_0 : decode cX5_goDays 0 = .ok (.iconst 0, 1) := by decide +kernel
theorem dX5_goDays_1 : decode cX5_goDays 1 = .ok (.istore 4, 2) := by decide +kernel
theorem dX5_goDays_3 : decode cX5_goDays 3 = .ok (.iload 4, 2) := by decide +kernel
theorem dX5_goDays_5 : decode cX5_goDays 5 = .ok (.iload_n 3, 1) := by decide +kernel
theorem dX5_goDays_6 : decode cX5_goDays 6 = .ok (.if_icmp .ge 15, 3) := by decide +kernel
theorem dX5_goDays_9 : decode cX5_goDays 9 = .ok (.aload_n 0, 1) := by decide +kernel
theorem dX5_goDays_10 : decode cX5_goDays 10 = .ok (.iload_n 1, 1) := by decide +kernel
theorem dX5_goDays_11 : decode cX5_goDays 11 = .ok (.iload_n 2, 1) := by decide +kernel
theorem dX5_goDays_12 : decode cX5_goDays 12 = .ok (.invokestatic 92, 3) := by decide +kernel
theorem dX5_goDays_15 : decode cX5_goDays 15 = .ok (.iinc 4 1, 3) := by decide +kernel
theorem dX5_goDays_18 : decode cX5_goDays 18 = .ok (.goto (-15), 3) := by decide +kernel
theorem dX5_goDays_21 : decode cX5_goDays 21 = .ok (.aload_n 0, 1) := by decide +kernel
theorem dX5_goDays_22 : decode cX5_goDays 22 = .ok (.invokestatic 95, 3) := by decide +kernel
theorem dX5_goDays_25 : decode cX5_goDays 25 = .ok (.ireturn, 1) := by decide +kernel
set_option maxRecDepth 20000 in
theorem ggX5_isWeather_X5_isDegree : GoodIn wsX5_isWeather wsX5_isDegree := goodIn_r _ [6, 7, 1, 8, 9, 5, 10] (by decide +kernel) (by decide +kernel)
set_option maxRecDepth 20000 in
theorem gX5_isWeather_X5_isDegree : GoodIn wsX5_isWeather (va_wsS RX5 99 yX5_isDegree wsX5_isDegree) := goodIn_app (goodIn_of _ (by decide +kernel)) ggX5_isWeather_X5_isDegree
set_option maxRecDepth 20000 in
theorem ggX5_isWeather_X5_in : GoodIn wsX5_isWeather wsX5_in := goodIn_r _ [10] (by decide +kernel) (by decide +kernel)
set_option maxRecDepth 20000 in
theorem gX5_isWeather_X5_in : GoodIn wsX5_isWeather (va_wsS RX5 42 yX5_in wsX5_in) := goodIn_app (goodIn_of _ (by decide +kernel)) ggX5_isWeather_X5_in
theorem dX5_isWeather_0 : decode cX5_isWeather 0 = .ok (.iload_n 0, 1) := by decide +kernel
theorem dX5_isWeather_1 : decode cX5_isWeather 1 = .ok (.invokestatic 99, 3) := by decide +kernel
theorem dX5_isWeather_4 : decode cX5_isWeather 4 = .ok (.ifCond .eq 31, 3) := by decide +kernel
theorem dX5_isWeather_7 : decode cX5_isWeather 7 = .ok (.iload_n 1, 1) := by decide +kernel
theorem dX5_isWeather_8 : decode cX5_isWeather 8 = .ok (.i2l, 1) := by decide +kernel
theorem dX5_isWeather_9 : decode cX5_isWeather 9 = .ok (.lconst 0, 1) := by decide +kernel
theorem dX5_isWeather_10 : decode cX5_isWeather 10 = .ok (.ldc2_w 50, 3) := by decide +kernel
theorem dX5_isWeather_13 : decode cX5_isWeather 13 = .ok (.invokestatic 42, 3) := by decide +kernel
theorem dX5_isWeather_16 : decode cX5_isWeather 16 = .ok (.ifCond .eq 19, 3) := by decide +kernel
theorem dX5_isWeather_19 : decode cX5_isWeather 19 = .ok (.iload_n 2, 1) := by decide +kernel
theorem dX5_isWeather_20 : decode cX5_isWeather 20 = .ok (.i2l, 1) := by decide +kernel
theorem dX5_isWeather_21 : decode cX5_isWeather 21 = .ok (.lconst 1, 1) := by decide +kernel
theorem dX5_isWeather_22 : decode cX5_isWeather 22 = .ok (.ldc2_w 103, 3) := by decide +kernel
theorem dX5_isWeather_25 : decode cX5_isWeather 25 = .ok (.invokestatic 42, 3) := by decide +kernel
theorem dX5_isWeather_28 : decode cX5_isWeather 28 = .ok (.ifCond .eq 7, 3) := by decide +kernel
theorem dX5_isWeather_31 : decode cX5_isWeather 31 = .ok (.iconst 1, 1) := by decide +kernel
theorem dX5_isWeather_32 : decode cX5_isWeather 32 = .ok (.goto 4, 3) := by decide +kernel
theorem dX5_isWeather_35 : decode cX5_isWeather 35 = .ok (.iconst 0, 1) := by decide +kernel
theorem dX5_isWeather_36 : decode cX5_isWeather 36 = .ok (.ireturn, 1) := by decide +kernel
theorem dX5_hasDays_0 : decode cX5_hasDays 0 = .ok (.aload_n 0, 1) := by decide +kernel
theorem dX5_hasDays_1 : decode cX5_hasDays 1 = .ok (.sipush 199, 3) := by decide +kernel
theorem dX5_hasDays_4 : decode cX5_hasDays 4 = .ok (.iaload, 1) := by decide +kernel
theorem dX5_hasDays_5 : decode cX5_hasDays 5 = .ok (.iload_n 1, 1) := by decide +kernel
theorem dX5_hasDays_6 : decode cX5_hasDays 6 = .ok (.iadd, 1) := by decide +kernel
theorem dX5_hasDays_7 : decode cX5_hasDays 7 = .ok (.sipush 9999, 3) := by decide +kernel
theorem dX5_hasDays_10 : decode cX5_hasDays 10 = .ok (.if_icmp .gt 7, 3) := by decide +kernel
theorem dX5_hasDays_13 : decode cX5_hasDays 13 = .ok (.iconst 1, 1) := by decide +kernel
theorem dX5_hasDays_14 : decode cX5_hasDays 14 = .ok (.goto 4, 3) := by decide +kernel
theorem dX5_hasDays_17 : decode cX5_hasDays 17 = .ok (.iconst 0, 1) := by decide +kernel
theorem dX5_hasDays_18 : decode cX5_hasDays 18 = .ok (.ireturn, 1) := by decide +kernel
set_option maxRecDepth 20000 in
theorem ggX5_begins_X5_frozen : GoodIn wsX5_begins wsX5_frozen := goodIn_r _ [4, 5, 6, 3, 7] (by decide +kernel) (by decide +kernel)
set_option maxRecDepth 20000 in
theorem gX5_begins_X5_frozen : GoodIn wsX5_begins (va_wsS RX5 60 yX5_frozen wsX5_frozen) := goodIn_app (goodIn_of _ (by decide +kernel)) ggX5_begins_X5_frozen
theorem dX5_begins_0 : decode cX5_begins 0 = .ok (.aload_n 0, 1) := by decide +kernel
theorem dX5_begins_1 : decode cX5_begins 1 = .ok (.iload_n 1, 1) := by decide +kernel
theorem dX5_begins_2 : decode cX5_begins 2 = .ok (.iload_n 2, 1) := by decide +kernel
theorem dX5_begins_3 : decode cX5_begins 3 = .ok (.invokestatic 60, 3) := by decide +kernel
theorem dX5_begins_6 : decode cX5_begins 6 = .ok (.ifCond .eq 22, 3) := by decide +kernel
theorem dX5_begins_9 : decode cX5_begins 9 = .ok (.iload_n 2, 1) := by decide +kernel
theorem dX5_begins_10 : decode cX5_begins 10 = .ok (.ifCond .eq 14, 3) := by decide +kernel
theorem dX5_begins_13 : decode cX5_begins 13 = .ok (.aload_n 0, 1) := by decide +kernel
theorem dX5_begins_14 : decode cX5_begins 14 = .ok (.iload_n 1, 1) := by decide +kernel
theorem dX5_begins_15 : decode cX5_begins 15 = .ok (.iload_n 2, 1) := by decide +kernel
theorem dX5_begins_16 : decode cX5_begins 16 = .ok (.iconst 1, 1) := by decide +kernel
theorem dX5_begins_17 : decode cX5_begins 17 = .ok (.isub, 1) := by decide +kernel
theorem dX5_begins_18 : decode cX5_begins 18 = .ok (.invokestatic 60, 3) := by decide +kernel
theorem dX5_begins_21 : decode cX5_begins 21 = .ok (.ifCond .ne 7, 3) := by decide +kernel
theorem dX5_begins_24 : decode cX5_begins 24 = .ok (.iconst 1, 1) := by decide +kernel
theorem dX5_begins_25 : decode cX5_begins 25 = .ok (.goto 4, 3) := by decide +kernel
theorem dX5_begins_28 : decode cX5_begins 28 = .ok (.iconst 0, 1) := by decide +kernel
theorem dX5_begins_29 : decode cX5_begins 29 = .ok (.ireturn, 1) := by decide +kernel
set_option maxRecDepth 20000 in
theorem ggX5_countLayers_X5_begins : GoodIn wsX5_countLayers wsX5_begins := goodIn_r _ [4, 5, 6, 3, 7, 8, 9, 10] (by decide +kernel) (by decide +kernel)
set_option maxRecDepth 20000 in
theorem gX5_countLayers_X5_begins : GoodIn wsX5_countLayers (va_wsS RX5 105 yX5_begins wsX5_begins) := goodIn_app (goodIn_of _ (by decide +kernel)) ggX5_countLayers_X5_begins
theorem dX5_countLayers_0 : decode cX5_countLayers 0 = .ok (.iconst 0, 1) := by decide +kernel
theorem dX5_countLayers_1 : decode cX5_countLayers 1 = .ok (.istore_n 2, 1) := by decide +kernel
theorem dX5_countLayers_2 : decode cX5_countLayers 2 = .ok (.iconst 0, 1) := by decide +kernel
theorem dX5_countLayers_3 : decode cX5_countLayers 3 = .ok (.istore_n 3, 1) := by decide +kernel
theorem dX5_countLayers_4 : decode cX5_countLayers 4 = .ok (.iload_n 3, 1) := by decide +kernel
theorem dX5_countLayers_5 : decode cX5_countLayers 5 = .ok (.bipush 30, 2) := by decide +kernel
theorem dX5_countLayers_7 : decode cX5_countLayers 7 = .ok (.if_icmp .ge 26, 3) := by decide +kernel
theorem dX5_countLayers_10 : decode cX5_countLayers 10 = .ok (.iload_n 2, 1) := by decide +kernel
theorem dX5_countLayers_11 : decode cX5_countLayers 11 = .ok (.aload_n 0, 1) := by decide +kernel
theorem dX5_countLayers_12 : decode cX5_countLayers 12 = .ok (.iload_n 1, 1) := by decide +kernel
theorem dX5_countLayers_13 : decode cX5_countLayers 13 = .ok (.iload_n 3, 1) := by decide +kernel
theorem dX5_countLayers_14 : decode cX5_countLayers 14 = .ok (.invokestatic 105, 3) := by decide +kernel
theorem dX5_countLayers_17 : decode cX5_countLayers 17 = .ok (.ifCond .eq 7, 3) := by decide +kernel
theorem dX5_countLayers_20 : decode cX5_countLayers 20 = .ok (.iconst 1, 1) := by decide +kernel
theorem dX5_countLayers_21 : decode cX5_countLayers 21 = .ok (.goto 4, 3) := by decide +kernel
theorem dX5_countLayers_24 : decode cX5_countLayers 24 = .ok (.iconst 0, 1) := by decide +kernel
theorem dX5_countLayers_25 : decode cX5_countLayers 25 = .ok (.iadd, 1) := by decide +kernel
theorem dX5_countLayers_26 : decode cX5_countLayers 26 = .ok (.istore_n 2, 1) := by decide +kernel
theorem dX5_countLayers_27 : decode cX5_countLayers 27 = .ok (.iinc 3 1, 3) := by decide +kernel
theorem dX5_countLayers_30 : decode cX5_countLayers 30 = .ok (.goto (-26), 3) := by decide +kernel
theorem dX5_countLayers_33 : decode cX5_countLayers 33 = .ok (.iload_n 2, 1) := by decide +kernel
theorem dX5_countLayers_34 : decode cX5_countLayers 34 = .ok (.ireturn, 1) := by decide +kernel
set_option maxRecDepth 20000 in
theorem ggX5_isElder_X5_cell : GoodIn wsX5_isElder wsX5_cell := goodIn_r _ [4] (by decide +kernel) (by decide +kernel)
set_option maxRecDepth 20000 in
theorem gX5_isElder_X5_cell : GoodIn wsX5_isElder (va_wsS RX5 56 yX5_cell wsX5_cell) := goodIn_app (goodIn_of _ (by decide +kernel)) ggX5_isElder_X5_cell
theorem dX5_isElder_0 : decode cX5_isElder 0 = .ok (.aload_n 0, 1) := by decide +kernel
theorem dX5_isElder_1 : decode cX5_isElder 1 = .ok (.iload_n 1, 1) := by decide +kernel
theorem dX5_isElder_2 : decode cX5_isElder 2 = .ok (.iload_n 2, 1) := by decide +kernel
theorem dX5_isElder_3 : decode cX5_isElder 3 = .ok (.invokestatic 56, 3) := by decide +kernel
theorem dX5_isElder_6 : decode cX5_isElder 6 = .ok (.iaload, 1) := by decide +kernel
theorem dX5_isElder_7 : decode cX5_isElder 7 = .ok (.istore 4, 2) := by decide +kernel
theorem dX5_isElder_9 : decode cX5_isElder 9 = .ok (.aload_n 0, 1) := by decide +kernel
theorem dX5_isElder_10 : decode cX5_isElder 10 = .ok (.iload_n 1, 1) := by decide +kernel
theorem dX5_isElder_11 : decode cX5_isElder 11 = .ok (.iload_n 3, 1) := by decide +kernel
theorem dX5_isElder_12 : decode cX5_isElder 12 = .ok (.invokestatic 56, 3) := by decide +kernel
theorem dX5_isElder_15 : decode cX5_isElder 15 = .ok (.iaload, 1) := by decide +kernel
theorem dX5_isElder_16 : decode cX5_isElder 16 = .ok (.istore 5, 2) := by decide +kernel
theorem dX5_isElder_18 : decode cX5_isElder 18 = .ok (.iload 4, 2) := by decide +kernel
theorem dX5_isElder_20 : decode cX5_isElder 20 = .ok (.iload 5, 2) := by decide +kernel
theorem dX5_isElder_22 : decode cX5_isElder 22 = .ok (.if_icmp .lt 15, 3) := by decide +kernel
theorem dX5_isElder_25 : decode cX5_isElder 25 = .ok (.iload 4, 2) := by decide +kernel
theorem dX5_isElder_27 : decode cX5_isElder 27 = .ok (.iload 5, 2) := by decide +kernel
theorem dX5_isElder_29 : decode cX5_isElder 29 = .ok (.if_icmp .ne 12, 3) := by decide +kernel
theorem dX5_isElder_32 : decode cX5_isElder 32 = .ok (.iload_n 2, 1) := by decide +kernel
theorem dX5_isElder_33 : decode cX5_isElder 33 = .ok (.iload_n 3, 1) := by decide +kernel
theorem dX5_isElder_34 : decode cX5_isElder 34 = .ok (.if_icmp .ge 7, 3) := by decide +kernel
theorem dX5_isElder_37 : decode cX5_isElder 37 = .ok (.iconst 1, 1) := by decide +kernel
theorem dX5_isElder_38 : decode cX5_isElder 38 = .ok (.goto 4, 3) := by decide +kernel
theorem dX5_isElder_41 : decode cX5_isElder 41 = .ok (.iconst 0, 1) := by decide +kernel
theorem dX5_isElder_42 : decode cX5_isElder 42 = .ok (.ireturn, 1) := by decide +kernel
set_option maxRecDepth 20000 in
theorem ggX5_joinedLayers_X5_frozen : GoodIn wsX5_joinedLayers wsX5_frozen := goodIn_r _ [4, 5, 6, 3, 7] (by decide +kernel) (by decide +kernel)
set_option maxRecDepth 20000 in
theorem gX5_joinedLayers_X5_frozen : GoodIn wsX5_joinedLayers (va_wsS RX5 60 yX5_frozen wsX5_frozen) := goodIn_app (goodIn_of _ (by decide +kernel)) ggX5_joinedLayers_X5_frozen
set_option maxRecDepth 20000 in
theorem ggX5_joinedLayers_X5_isElder : GoodIn wsX5_joinedLayers wsX5_isElder := goodIn_r _ [10, 5, 6, 3, 7] (by decide +kernel) (by decide +kernel)
set_option maxRecDepth 20000 in
theorem gX5_joinedLayers_X5_isElder : GoodIn wsX5_joinedLayers (va_wsS RX5 108 yX5_isElder wsX5_isElder) := goodIn_app (goodIn_of _ (by decide +kernel)) ggX5_joinedLayers_X5_isElder
theorem dX5_joinedLayers_0 : decode cX5_joinedLayers 0 = .ok (.iconst 0, 1) := by decide +kernel
theorem dX5_joinedLayers_1 : decode cX5_joinedLayers 1 = .ok (.istore_n 2, 1) := by decide +kernel
theorem dX5_joinedLayers_2 : decode cX5_joinedLayers 2 = .ok (.iconst 0, 1) := by decide +kernel
theorem dX5_joinedLayers_3 : decode cX5_joinedLayers 3 = .ok (.istore_n 3, 1) := by decide +kernel
theorem dX5_joinedLayers_4 : decode cX5_joinedLayers 4 = .ok (.iload_n 3, 1) := by decide +kernel
theorem dX5_joinedLayers_5 : decode cX5_joinedLayers 5 = .ok (.bipush 30, 2) := by decide +kernel
theorem dX5_joinedLayers_7 : decode cX5_joinedLayers 7 = .ok (.if_icmp .ge 120, 3) := by decide +kernel
theorem dX5_joinedLayers_10 : decode cX5_joinedLayers 10 = .ok (.aload_n 0, 1) := by decide +kernel
theorem dX5_joinedLayers_11 : decode cX5_joinedLayers 11 = .ok (.iload_n 1, 1) := by decide +kernel
theorem dX5_joinedLayers_12 : decode cX5_joinedLayers 12 = .ok (.iload_n 3, 1) := by decide +kernel
theorem dX5_joinedLayers_13 : decode cX5_joinedLayers 13 = .ok (.invokestatic 60, 3) := by decide +kernel
theorem dX5_joinedLayers_16 : decode cX5_joinedLayers 16 = .ok (.ifCond .eq 105, 3) := by decide +kernel
theorem dX5_joinedLayers_19 : decode cX5_joinedLayers 19 = .ok (.iload_n 3, 1) := by decide +kernel
theorem dX5_joinedLayers_20 : decode cX5_joinedLayers 20 = .ok (.ifCond .le 30, 3) := by decide +kernel
theorem dX5_joinedLayers_23 : decode cX5_joinedLayers 23 = .ok (.aload_n 0, 1) := by decide +kernel
theorem dX5_joinedLayers_24 : decode cX5_joinedLayers 24 = .ok (.iload_n 1, 1) := by decide +kernel
theorem dX5_joinedLayers_25 : decode cX5_joinedLayers 25 = .ok (.iload_n 3, 1) := by decide +kernel
theorem dX5_joinedLayers_26 : decode cX5_joinedLayers 26 = .ok (.iconst 1, 1) := by decide +kernel
theorem dX5_joinedLayers_27 : decode cX5_joinedLayers 27 = .ok (.isub, 1) := by decide +kernel
theorem dX5_joinedLayers_28 : decode cX5_joinedLayers 28 = .ok (.invokestatic 60, 3) := by decide +kernel
theorem dX5_joinedLayers_31 : decode cX5_joinedLayers 31 = .ok (.ifCond .eq 19, 3) := by decide +kernel
theorem dX5_joinedLayers_34 : decode cX5_joinedLayers 34 = .ok (.aload_n 0, 1) := by decide +kernel
theorem dX5_joinedLayers_35 : decode cX5_joinedLayers 35 = .ok (.iload_n 1, 1) := by decide +kernel
theorem dX5_joinedLayers_36 : decode cX5_joinedLayers 36 = .ok (.iload_n 3, 1) := by decide +kernel
theorem dX5_joinedLayers_37 : decode cX5_joinedLayers 37 = .ok (.iconst 1, 1) := by decide +kernel
theorem dX5_joinedLayers_38 : decode cX5_joinedLayers 38 = .ok (.isub, 1) := by decide +kernel
theorem dX5_joinedLayers_39 : decode cX5_joinedLayers 39 = .ok (.iload_n 3, 1) := by decide +kernel
theorem dX5_joinedLayers_40 : decode cX5_joinedLayers 40 = .ok (.invokestatic 108, 3) := by decide +kernel
theorem dX5_joinedLayers_43 : decode cX5_joinedLayers 43 = .ok (.ifCond .eq 7, 3) := by decide +kernel
theorem dX5_joinedLayers_46 : decode cX5_joinedLayers 46 = .ok (.iconst 1, 1) := by decide +kernel
theorem dX5_joinedLayers_47 : decode cX5_joinedLayers 47 = .ok (.goto 4, 3) := by decide +kernel
theorem dX5_joinedLayers_50 : decode cX5_joinedLayers 50 = .ok (.iconst 0, 1) := by decide +kernel
theorem dX5_joinedLayers_51 : decode cX5_joinedLayers 51 = .ok (.istore 4, 2) := by decide +kernel
theorem dX5_joinedLayers_53 : decode cX5_joinedLayers 53 = .ok (.iload_n 3, 1) := by decide +kernel
theorem dX5_joinedLayers_54 : decode cX5_joinedLayers 54 = .ok (.bipush 29, 2) := by decide +kernel
theorem dX5_joinedLayers_56 : decode cX5_joinedLayers 56 = .ok (.if_icmp .ge 30, 3) := by decide +kernel
theorem dX5_joinedLayers_59 : decode cX5_joinedLayers 59 = .ok (.aload_n 0, 1) := by decide +kernel
theorem dX5_joinedLayers_60 : decode cX5_joinedLayers 60 = .ok (.iload_n 1, 1) := by decide +kernel
theorem dX5_joinedLayers_61 : decode cX5_joinedLayers 61 = .ok (.iload_n 3, 1) := by decide +kernel
theorem dX5_joinedLayers_62 : decode cX5_joinedLayers 62 = .ok (.iconst 1, 1) := by decide +kernel
theorem dX5_joinedLayers_63 : decode cX5_joinedLayers 63 = .ok (.iadd, 1) := by decide +kernel
theorem dX5_joinedLayers_64 : decode cX5_joinedLayers 64 = .ok (.invokestatic 60, 3) := by decide +kernel
theorem dX5_joinedLayers_67 : decode cX5_joinedLayers 67 = .ok (.ifCond .eq 19, 3) := by decide +kernel
theorem dX5_joinedLayers_70 : decode cX5_joinedLayers 70 = .ok (.aload_n 0, 1) := by decide +kernel
theorem dX5_joinedLayers_71 : decode cX5_joinedLayers 71 = .ok (.iload_n 1, 1) := by decide +kernel
theorem dX5_joinedLayers_72 : decode cX5_joinedLayers 72 = .ok (.iload_n 3, 1) := by decide +kernel
theorem dX5_joinedLayers_73 : decode cX5_joinedLayers 73 = .ok (.iconst 1, 1) := by decide +kernel
theorem dX5_joinedLayers_74 : decode cX5_joinedLayers 74 = .ok (.iadd, 1) := by decide +kernel
theorem dX5_joinedLayers_75 : decode cX5_joinedLayers 75 = .ok (.iload_n 3, 1) := by decide +kernel
theorem dX5_joinedLayers_76 : decode cX5_joinedLayers 76 = .ok (.invokestatic 108, 3) := by decide +kernel
theorem dX5_joinedLayers_79 : decode cX5_joinedLayers 79 = .ok (.ifCond .eq 7, 3) := by decide +kernel
theorem dX5_joinedLayers_82 : decode cX5_joinedLayers 82 = .ok (.iconst 1, 1) := by decide +kernel
theorem dX5_joinedLayers_83 : decode cX5_joinedLayers 83 = .ok (.goto 4, 3) := by decide +kernel
theorem dX5_joinedLayers_86 : decode cX5_joinedLayers 86 = .ok (.iconst 0, 1) := by decide +kernel
theorem dX5_joinedLayers_87 : decode cX5_joinedLayers 87 = .ok (.istore 5, 2) := by decide +kernel
theorem dX5_joinedLayers_89 : decode cX5_joinedLayers 89 = .ok (.iload_n 2, 1) := by decide +kernel
theorem dX5_joinedLayers_90 : decode cX5_joinedLayers 90 = .ok (.iload 4, 2) := by decide +kernel
theorem dX5_joinedLayers_92 : decode cX5_joinedLayers 92 = .ok (.ifCond .eq 12, 3) := by decide +kernel
theorem dX5_joinedLayers_95 : decode cX5_joinedLayers 95 = .ok (.iload 5, 2) := by decide +kernel
theorem dX5_joinedLayers_97 : decode cX5_joinedLayers 97 = .ok (.ifCond .eq 7, 3) := by decide +kernel
theorem dX5_joinedLayers_100 : decode cX5_joinedLayers 100 = .ok (.iconst (-1), 1) := by decide +kernel
theorem dX5_joinedLayers_101 : decode cX5_joinedLayers 101 = .ok (.goto 18, 3) := by decide +kernel
theorem dX5_joinedLayers_104 : decode cX5_joinedLayers 104 = .ok (.iload 4, 2) := by decide +kernel
theorem dX5_joinedLayers_106 : decode cX5_joinedLayers 106 = .ok (.ifCond .ne 8, 3) := by decide +kernel
theorem dX5_joinedLayers_109 : decode cX5_joinedLayers 109 = .ok (.iload 5, 2) := by decide +kernel
theorem dX5_joinedLayers_111 : decode cX5_joinedLayers 111 = .ok (.ifCond .eq 7, 3) := by decide +kernel
theorem dX5_joinedLayers_114 : decode cX5_joinedLayers 114 = .ok (.iconst 0, 1) := by decide +kernel
theorem dX5_joinedLayers_115 : decode cX5_joinedLayers 115 = .ok (.goto 4, 3) := by decide +kernel
theorem dX5_joinedLayers_118 : decode cX5_joinedLayers 118 = .ok (.iconst 1, 1) := by decide +kernel
theorem dX5_joinedLayers_119 : decode cX5_joinedLayers 119 = .ok (.iadd, 1) := by decide +kernel
theorem dX5_joinedLayers_120 : decode cX5_joinedLayers 120 = .ok (.istore_n 2, 1) := by decide +kernel
theorem dX5_joinedLayers_121 : decode cX5_joinedLayers 121 = .ok (.iinc 3 1, 3) := by decide +kernel
theorem dX5_joinedLayers_124 : decode cX5_joinedLayers 124 = .ok (.goto (-120), 3) := by decide +kernel
theorem dX5_joinedLayers_127 : decode cX5_joinedLayers 127 = .ok (.iload_n 2, 1) := by decide +kernel
theorem dX5_joinedLayers_128 : decode cX5_joinedLayers 128 = .ok (.ireturn, 1) := by decide +kernel
set_option maxRecDepth 20000 in
theorem ggX5_allLayers_X5_countLayers : GoodIn wsX5_allLayers wsX5_countLayers := goodIn_r _ [4, 5, 6, 3, 7, 8, 9, 10, 11, 12, 13] (by decide +kernel) (by decide +kernel)
set_option maxRecDepth 20000 in
theorem gX5_allLayers_X5_countLayers : GoodIn wsX5_allLayers (va_wsS RX5 112 yX5_countLayers wsX5_countLayers) := goodIn_app (goodIn_of _ (by decide +kernel)) ggX5_allLayers_X5_countLayers
theorem dX5_allLayers_0 : decode cX5_allLayers 0 = .ok (.iconst 0, 1) := by decide +kernel
theorem dX5_allLayers_1 : decode cX5_allLayers 1 = .ok (.istore_n 1, 1) := by decide +kernel
theorem dX5_allLayers_2 : decode cX5_allLayers 2 = .ok (.iconst 0, 1) := by decide +kernel
theorem dX5_allLayers_3 : decode cX5_allLayers 3 = .ok (.istore_n 2, 1) := by decide +kernel
theorem dX5_allLayers_4 : decode cX5_allLayers 4 = .ok (.iload_n 2, 1) := by decide +kernel
theorem dX5_allLayers_5 : decode cX5_allLayers 5 = .ok (.aload_n 0, 1) := by decide +kernel
theorem dX5_allLayers_6 : decode cX5_allLayers 6 = .ok (.sipush 196, 3) := by decide +kernel
theorem dX5_allLayers_9 : decode cX5_allLayers 9 = .ok (.iaload, 1) := by decide +kernel
theorem dX5_allLayers_10 : decode cX5_allLayers 10 = .ok (.if_icmp .ge 17, 3) := by decide +kernel
theorem dX5_allLayers_13 : decode cX5_allLayers 13 = .ok (.iload_n 1, 1) := by decide +kernel
theorem dX5_allLayers_14 : decode cX5_allLayers 14 = .ok (.aload_n 0, 1) := by decide +kernel
theorem dX5_allLayers_15 : decode cX5_allLayers 15 = .ok (.iload_n 2, 1) := by decide +kernel
theorem dX5_allLayers_16 : decode cX5_allLayers 16 = .ok (.invokestatic 112, 3) := by decide +kernel
theorem dX5_allLayers_19 : decode cX5_allLayers 19 = .ok (.iadd, 1) := by decide +kernel
theorem dX5_allLayers_20 : decode cX5_allLayers 20 = .ok (.istore_n 1, 1) := by decide +kernel
theorem dX5_allLayers_21 : decode cX5_allLayers 21 = .ok (.iinc 2 1, 3) := by decide +kernel
theorem dX5_allLayers_24 : decode cX5_allLayers 24 = .ok (.goto (-20), 3) := by decide +kernel
theorem dX5_allLayers_27 : decode cX5_allLayers 27 = .ok (.iload_n 1, 1) := by decide +kernel
theorem dX5_allLayers_28 : decode cX5_allLayers 28 = .ok (.ireturn, 1) := by decide +kernel
set_option maxRecDepth 20000 in
theorem ggX5_layerAt_X5_begins : GoodIn wsX5_layerAt wsX5_begins := goodIn_r _ [4, 5, 6, 3, 7, 8, 9, 10] (by decide +kernel) (by decide +kernel)
set_option maxRecDepth 20000 in
theorem gX5_layerAt_X5_begins : GoodIn wsX5_layerAt (va_wsS RX5 105 yX5_begins wsX5_begins) := goodIn_app (goodIn_of _ (by decide +kernel)) ggX5_layerAt_X5_begins
theorem dX5_layerAt_0 : decode cX5_layerAt 0 = .ok (.iconst (-1), 1) := by decide +kernel
theorem dX5_layerAt_1 : decode cX5_layerAt 1 = .ok (.istore_n 3, 1) := by decide +kernel
theorem dX5_layerAt_2 : decode cX5_layerAt 2 = .ok (.iload_n 2, 1) := by decide +kernel
theorem dX5_layerAt_3 : decode cX5_layerAt 3 = .ok (.istore 4, 2) := by decide +kernel
theorem dX5_layerAt_5 : decode cX5_layerAt 5 = .ok (.iload 4, 2) := by decide +kernel
theorem dX5_layerAt_7 : decode cX5_layerAt 7 = .ok (.ifCond .lt 28, 3) := by decide +kernel
theorem dX5_layerAt_10 : decode cX5_layerAt 10 = .ok (.iinc 3 1, 3) := by decide +kernel
theorem dX5_layerAt_13 : decode cX5_layerAt 13 = .ok (.iload 4, 2) := by decide +kernel
theorem dX5_layerAt_15 : decode cX5_layerAt 15 = .ok (.aload_n 0, 1) := by decide +kernel
theorem dX5_layerAt_16 : decode cX5_layerAt 16 = .ok (.iload_n 1, 1) := by decide +kernel
theorem dX5_layerAt_17 : decode cX5_layerAt 17 = .ok (.iload_n 3, 1) := by decide +kernel
theorem dX5_layerAt_18 : decode cX5_layerAt 18 = .ok (.invokestatic 105, 3) := by decide +kernel
theorem dX5_layerAt_21 : decode cX5_layerAt 21 = .ok (.ifCond .eq 7, 3) := by decide +kernel
theorem dX5_layerAt_24 : decode cX5_layerAt 24 = .ok (.iconst 1, 1) := by decide +kernel
theorem dX5_layerAt_25 : decode cX5_layerAt 25 = .ok (.goto 4, 3) := by decide +kernel
theorem dX5_layerAt_28 : decode cX5_layerAt 28 = .ok (.iconst 0, 1) := by decide +kernel
theorem dX5_layerAt_29 : decode cX5_layerAt 29 = .ok (.isub, 1) := by decide +kernel
theorem dX5_layerAt_30 : decode cX5_layerAt 30 = .ok (.istore 4, 2) := by decide +kernel
theorem dX5_layerAt_32 : decode cX5_layerAt 32 = .ok (.goto (-27), 3) := by decide +kernel
theorem dX5_layerAt_35 : decode cX5_layerAt 35 = .ok (.iload_n 3, 1) := by decide +kernel
theorem dX5_layerAt_36 : decode cX5_layerAt 36 = .ok (.ireturn, 1) := by decide +kernel
set_option maxRecDepth 20000 in
theorem ggX5_behind_X5_frozen : GoodIn wsX5_behind wsX5_frozen := goodIn_r _ [4, 5, 6, 3, 7] (by decide +kernel) (by decide +kernel)
set_option maxRecDepth 20000 in
theorem gX5_behind_X5_frozen : GoodIn wsX5_behind (va_wsS RX5 60 yX5_frozen wsX5_frozen) := goodIn_app (goodIn_of _ (by decide +kernel)) ggX5_behind_X5_frozen
theorem dX5_behind_0 : decode cX5_behind 0 = .ok (.iload_n 2, 1) := by decide +kernel
theorem dX5_behind_1 : decode cX5_behind 1 = .ok (.istore_n 3, 1) := by decide +kernel
theorem dX5_behind_2 : decode cX5_behind 2 = .ok (.iload_n 3, 1) := by decide +kernel
theorem dX5_behind_3 : decode cX5_behind 3 = .ok (.bipush 30, 2) := by decide +kernel
theorem dX5_behind_5 : decode cX5_behind 5 = .ok (.if_icmp .ge 18, 3) := by decide +kernel
theorem dX5_behind_8 : decode cX5_behind 8 = .ok (.aload_n 0, 1) := by decide +kernel
theorem dX5_behind_9 : decode cX5_behind 9 = .ok (.iload_n 1, 1) := by decide +kernel
theorem dX5_behind_10 : decode cX5_behind 10 = .ok (.iload_n 3, 1) := by decide +kernel
theorem dX5_behind_11 : decode cX5_behind 11 = .ok (.invokestatic 60, 3) := by decide +kernel
theorem dX5_behind_14 : decode cX5_behind 14 = .ok (.ifCond .eq 9, 3) := by decide +kernel
theorem dX5_behind_17 : decode cX5_behind 17 = .ok (.iinc 3 1, 3) := by decide +kernel
theorem dX5_behind_20 : decode cX5_behind 20 = .ok (.goto (-18), 3) := by decide +kernel
theorem dX5_behind_23 : decode cX5_behind 23 = .ok (.iload_n 3, 1) := by decide +kernel
theorem dX5_behind_24 : decode cX5_behind 24 = .ok (.ireturn, 1) := by decide +kernel
theorem dX5_addSite_0 : decode cX5_addSite 0 = .ok (.aload_n 0, 1) := by decide +kernel
theorem dX5_addSite_1 : decode cX5_addSite 1 = .ok (.sipush 196, 3) := by decide +kernel
theorem dX5_addSite_4 : decode cX5_addSite 4 = .ok (.dup2, 1) := by decide +kernel
theorem dX5_addSite_5 : decode cX5_addSite 5 = .ok (.iaload, 1) := by decide +kernel
theorem dX5_addSite_6 : decode cX5_addSite 6 = .ok (.iconst 1, 1) := by decide +kernel
theorem dX5_addSite_7 : decode cX5_addSite 7 = .ok (.iadd, 1) := by decide +kernel
theorem dX5_addSite_8 : decode cX5_addSite 8 = .ok (.iastore, 1) := by decide +kernel
theorem dX5_addSite_9 : decode cX5_addSite 9 = .ok (.aload_n 0, 1) := by decide +kernel
theorem dX5_addSite_10 : decode cX5_addSite 10 = .ok (.sipush 196, 3) := by decide +kernel
theorem dX5_addSite_13 : decode cX5_addSite 13 = .ok (.iaload, 1) := by decide +kernel
theorem dX5_addSite_14 : decode cX5_addSite 14 = .ok (.iconst 1, 1) := by decide +kernel
theorem dX5_addSite_15 : decode cX5_addSite 15 = .ok (.isub, 1) := by decide +kernel
theorem dX5_addSite_16 : decode cX5_addSite 16 = .ok (.ireturn, 1) := by decide +kernel
theorem dX5_addTube_0 : decode cX5_addTube 0 = .ok (.aload_n 0, 1) := by decide +kernel
theorem dX5_addTube_1 : decode cX5_addTube 1 = .ok (.sipush 197, 3) := by decide +kernel
theorem dX5_addTube_4 : decode cX5_addTube 4 = .ok (.iaload, 1) := by decide +kernel
theorem dX5_addTube_5 : decode cX5_addTube 5 = .ok (.istore_n 3, 1) := by decide +kernel
theorem dX5_addTube_6 : decode cX5_addTube 6 = .ok (.aload_n 0, 1) := by decide +kernel
theorem dX5_addTube_7 : decode cX5_addTube 7 = .ok (.sipush 140, 3) := by decide +kernel
theorem dX5_addTube_10 : decode cX5_addTube 10 = .ok (.iconst 2, 1) := by decide +kernel
theorem dX5_addTube_11 : decode cX5_addTube 11 = .ok (.iload_n 3, 1) := by decide +kernel
theorem dX5_addTube_12 : decode cX5_addTube 12 = .ok (.imul, 1) := by decide +kernel
theorem dX5_addTube_13 : decode cX5_addTube 13 = .ok (.iadd, 1) := by decide +kernel
theorem dX5_addTube_14 : decode cX5_addTube 14 = .ok (.iload_n 1, 1) := by decide +kernel
theorem dX5_addTube_15 : decode cX5_addTube 15 = .ok (.iastore, 1) := by decide +kernel
theorem dX5_addTube_16 : decode cX5_addTube 16 = .ok (.aload_n 0, 1) := by decide +kernel
theorem dX5_addTube_17 : decode cX5_addTube 17 = .ok (.sipush 140, 3) := by decide +kernel
theorem dX5_addTube_20 : decode cX5_addTube 20 = .ok (.iconst 2, 1) := by decide +kernel
theorem dX5_addTube_21 : decode cX5_addTube 21 = .ok (.iload_n 3, 1) := by decide +kernel
theorem dX5_addTube_22 : decode cX5_addTube 22 = .ok (.imul, 1) := by decide +kernel
theorem dX5_addTube_23 : decode cX5_addTube 23 = .ok (.iadd, 1) := by decide +kernel
theorem dX5_addTube_24 : decode cX5_addTube 24 = .ok (.iconst 1, 1) := by decide +kernel
theorem dX5_addTube_25 : decode cX5_addTube 25 = .ok (.iadd, 1) := by decide +kernel
theorem dX5_addTube_26 : decode cX5_addTube 26 = .ok (.iload_n 2, 1) := by decide +kernel
theorem dX5_addTube_27 : decode cX5_addTube 27 = .ok (.iastore, 1) := by decide +kernel
theorem dX5_addTube_28 : decode cX5_addTube 28 = .ok (.aload_n 0, 1) := by decide +kernel
theorem dX5_addTube_29 : decode cX5_addTube 29 = .ok (.sipush 197, 3) := by decide +kernel
theorem dX5_addTube_32 : decode cX5_addTube 32 = .ok (.dup2, 1) := by decide +kernel
theorem dX5_addTube_33 : decode cX5_addTube 33 = .ok (.iaload, 1) := by decide +kernel
theorem dX5_addTube_34 : decode cX5_addTube 34 = .ok (.iconst 1, 1) := by decide +kernel
theorem dX5_addTube_35 : decode cX5_addTube 35 = .ok (.iadd, 1) := by decide +kernel
theorem dX5_addTube_36 : decode cX5_addTube 36 = .ok (.iastore, 1) := by decide +kernel
theorem dX5_addTube_37 : decode cX5_addTube 37 = .ok (.iload_n 3, 1) := by decide +kernel
theorem dX5_addTube_38 : decode cX5_addTube 38 = .ok (.ireturn, 1) := by decide +kernel
set_option maxRecDepth 20000 in
theorem ggX5_canLay_X5_frozen : GoodIn wsX5_canLay wsX5_frozen := goodIn_r _ [4, 5, 6, 3, 7] (by decide +kernel) (by decide +kernel)
set_option maxRecDepth 20000 in
theorem gX5_canLay_X5_frozen : GoodIn wsX5_canLay (va_wsS RX5 60 yX5_frozen wsX5_frozen) := goodIn_app (goodIn_of _ (by decide +kernel)) ggX5_canLay_X5_frozen
theorem dX5_canLay_0 : decode cX5_canLay 0 = .ok (.aload_n 0, 1) := by decide +kernel
theorem dX5_canLay_1 : decode cX5_canLay 1 = .ok (.iload_n 1, 1) := by decide +kernel
theorem dX5_canLay_2 : decode cX5_canLay 2 = .ok (.iload_n 2, 1) := by decide +kernel
theorem dX5_canLay_3 : decode cX5_canLay 3 = .ok (.invokestatic 60, 3) := by decide +kernel
theorem dX5_canLay_6 : decode cX5_canLay 6 = .ok (.ifCond .ne 17, 3) := by decide +kernel
theorem dX5_canLay_9 : decode cX5_canLay 9 = .ok (.aload_n 0, 1) := by decide +kernel
theorem dX5_canLay_10 : decode cX5_canLay 10 = .ok (.sipush 198, 3) := by decide +kernel
theorem dX5_canLay_13 : decode cX5_canLay 13 = .ok (.iaload, 1) := by decide +kernel
theorem dX5_canLay_14 : decode cX5_canLay 14 = .ok (.bipush 8, 2) := by decide +kernel
theorem dX5_canLay_16 : decode cX5_canLay 16 = .ok (.if_icmp .ge 7, 3) := by decide +kernel
theorem dX5_canLay_19 : decode cX5_canLay 19 = .ok (.iconst 1, 1) := by decide +kernel
theorem dX5_canLay_20 : decode cX5_canLay 20 = .ok (.goto 4, 3) := by decide +kernel
theorem dX5_canLay_23 : decode cX5_canLay 23 = .ok (.iconst 0, 1) := by decide +kernel
theorem dX5_canLay_24 : decode cX5_canLay 24 = .ok (.ireturn, 1) := by decide +kernel
theorem dX5_addPipe_0 : decode cX5_addPipe 0 = .ok (.sipush 156, 3) := by decide +kernel
theorem dX5_addPipe_3 : decode cX5_addPipe 3 = .ok (.iconst 5, 1) := by decide +kernel
theorem dX5_addPipe_4 : decode cX5_addPipe 4 = .ok (.aload_n 0, 1) := by decide +kernel
theorem dX5_addPipe_5 : decode cX5_addPipe 5 = .ok (.sipush 198, 3) := by decide +kernel
theorem dX5_addPipe_8 : decode cX5_addPipe 8 = .ok (.iaload, 1) := by decide +kernel
theorem dX5_addPipe_9 : decode cX5_addPipe 9 = .ok (.imul, 1) := by decide +kernel
theorem dX5_addPipe_10 : decode cX5_addPipe 10 = .ok (.iadd, 1) := by decide +kernel
theorem dX5_addPipe_11 : decode cX5_addPipe 11 = .ok (.istore_n 3, 1) := by decide +kernel
theorem dX5_addPipe_12 : decode cX5_addPipe 12 = .ok (.aload_n 0, 1) := by decide +kernel
theorem dX5_addPipe_13 : decode cX5_addPipe 13 = .ok (.iload_n 3, 1) := by decide +kernel
theorem dX5_addPipe_14 : decode cX5_addPipe 14 = .ok (.iload_n 1, 1) := by decide +kernel
theorem dX5_addPipe_15 : decode cX5_addPipe 15 = .ok (.iastore, 1) := by decide +kernel
theorem dX5_addPipe_16 : decode cX5_addPipe 16 = .ok (.aload_n 0, 1) := by decide +kernel
theorem dX5_addPipe_17 : decode cX5_addPipe 17 = .ok (.iload_n 3, 1) := by decide +kernel
theorem dX5_addPipe_18 : decode cX5_addPipe 18 = .ok (.iconst 1, 1) := by decide +kernel
theorem dX5_addPipe_19 : decode cX5_addPipe 19 = .ok (.iadd, 1) := by decide +kernel
theorem dX5_addPipe_20 : decode cX5_addPipe 20 = .ok (.iload_n 2, 1) := by decide +kernel
theorem dX5_addPipe_21 : decode cX5_addPipe 21 = .ok (.iastore, 1) := by decide +kernel
theorem dX5_addPipe_22 : decode cX5_addPipe 22 = .ok (.aload_n 0, 1) := by decide +kernel
theorem dX5_addPipe_23 : decode cX5_addPipe 23 = .ok (.sipush 198, 3) := by decide +kernel
theorem dX5_addPipe_26 : decode cX5_addPipe 26 = .ok (.dup2, 1) := by decide +kernel
theorem dX5_addPipe_27 : decode cX5_addPipe 27 = .ok (.iaload, 1) := by decide +kernel
theorem dX5_addPipe_28 : decode cX5_addPipe 28 = .ok (.iconst 1, 1) := by decide +kernel
theorem dX5_addPipe_29 : decode cX5_addPipe 29 = .ok (.iadd, 1) := by decide +kernel
theorem dX5_addPipe_30 : decode cX5_addPipe 30 = .ok (.iastore, 1) := by decide +kernel
theorem dX5_addPipe_31 : decode cX5_addPipe 31 = .ok (.aload_n 0, 1) := by decide +kernel
theorem dX5_addPipe_32 : decode cX5_addPipe 32 = .ok (.sipush 198, 3) := by decide +kernel
theorem dX5_addPipe_35 : decode cX5_addPipe 35 = .ok (.iaload, 1) := by decide +kernel
theorem dX5_addPipe_36 : decode cX5_addPipe 36 = .ok (.iconst 1, 1) := by decide +kernel
theorem dX5_addPipe_37 : decode cX5_addPipe 37 = .ok (.isub, 1) := by decide +kernel
theorem dX5_addPipe_38 : decode cX5_addPipe 38 = .ok (.ireturn, 1) := by decide +kernel
theorem dX5_put_0 : decode cX5_put 0 = .ok (.aload_n 0, 1) := by decide +kernel
theorem dX5_put_1 : decode cX5_put 1 = .ok (.iload_n 1, 1) := by decide +kernel
theorem dX5_put_2 : decode cX5_put 2 = .ok (.iaload, 1) := by decide +kernel
theorem dX5_put_3 : decode cX5_put 3 = .ok (.istore_n 3, 1) := by decide +kernel
theorem dX5_put_4 : decode cX5_put 4 = .ok (.aload_n 0, 1) := by decide +kernel
theorem dX5_put_5 : decode cX5_put 5 = .ok (.iload_n 1, 1) := by decide +kernel
theorem dX5_put_6 : decode cX5_put 6 = .ok (.iload_n 2, 1) := by decide +kernel
theorem dX5_put_7 : decode cX5_put 7 = .ok (.iastore, 1) := by decide +kernel
theorem dX5_put_8 : decode cX5_put 8 = .ok (.iload_n 3, 1) := by decide +kernel
theorem dX5_put_9 : decode cX5_put 9 = .ok (.ireturn, 1) := by decide +kernel
set_option maxRecDepth 20000 in
theorem ggX5_beginWinter_X5_put : GoodIn wsX5_beginWinter wsX5_put := goodIn_r _ [4] (by decide +kernel) (by decide +kernel)
set_option maxRecDepth 20000 in
theorem gX5_beginWinter_X5_put : GoodIn wsX5_beginWinter (va_wsS RX5 115 yX5_put wsX5_put) := goodIn_app (goodIn_of _ (by decide +kernel)) ggX5_beginWinter_X5_put
theorem dX5_beginWinter_0 : decode cX5_beginWinter 0 = .ok (.iconst 0, 1) := by decide +kernel
theorem dX5_beginWinter_1 : decode cX5_beginWinter 1 = .ok (.istore_n 1, 1) := by decide +kernel
theorem dX5_beginWinter_2 : decode cX5_beginWinter 2 = .ok (.iconst 0, 1) := by decide +kernel
theorem dX5_beginWinter_3 : decode cX5_beginWinter 3 = .ok (.istore_n 2, 1) := by decide +kernel
theorem dX5_beginWinter_4 : decode cX5_beginWinter 4 = .ok (.iload_n 2, 1) := by decide +kernel
theorem dX5_beginWinter_5 : decode cX5_beginWinter 5 = .ok (.aload_n 0, 1) := by decide +kernel
theorem dX5_beginWinter_6 : decode cX5_beginWinter 6 = .ok (.sipush 196, 3) := by decide +kernel
theorem dX5_beginWinter_9 : decode cX5_beginWinter 9 = .ok (.iaload, 1) := by decide +kernel
theorem dX5_beginWinter_10 : decode cX5_beginWinter 10 = .ok (.if_icmp .ge 32, 3) := by decide +kernel
theorem dX5_beginWinter_13 : decode cX5_beginWinter 13 = .ok (.aload_n 0, 1) := by decide +kernel
theorem dX5_beginWinter_14 : decode cX5_beginWinter 14 = .ok (.bipush 35, 2) := by decide +kernel
theorem dX5_beginWinter_16 : decode cX5_beginWinter 16 = .ok (.iload_n 2, 1) := by decide +kernel
theorem dX5_beginWinter_17 : decode cX5_beginWinter 17 = .ok (.imul, 1) := by decide +kernel
theorem dX5_beginWinter_18 : decode cX5_beginWinter 18 = .ok (.iconst 4, 1) := by decide +kernel
theorem dX5_beginWinter_19 : decode cX5_beginWinter 19 = .ok (.iadd, 1) := by decide +kernel
theorem dX5_beginWinter_20 : decode cX5_beginWinter 20 = .ok (.iconst 0, 1) := by decide +kernel
theorem dX5_beginWinter_21 : decode cX5_beginWinter 21 = .ok (.invokestatic 115, 3) := by decide +kernel
theorem dX5_beginWinter_24 : decode cX5_beginWinter 24 = .ok (.istore_n 3, 1) := by decide +kernel
theorem dX5_beginWinter_25 : decode cX5_beginWinter 25 = .ok (.iload_n 3, 1) := by decide +kernel
theorem dX5_beginWinter_26 : decode cX5_beginWinter 26 = .ok (.iload_n 1, 1) := by decide +kernel
theorem dX5_beginWinter_27 : decode cX5_beginWinter 27 = .ok (.if_icmp .le 7, 3) := by decide +kernel
theorem dX5_beginWinter_30 : decode cX5_beginWinter 30 = .ok (.iload_n 3, 1) := by decide +kernel
theorem dX5_beginWinter_31 : decode cX5_beginWinter 31 = .ok (.goto 4, 3) := by decide +kernel
theorem dX5_beginWinter_34 : decode cX5_beginWinter 34 = .ok (.iload_n 1, 1) := by decide +kernel
theorem dX5_beginWinter_35 : decode cX5_beginWinter 35 = .ok (.istore_n 1, 1) := by decide +kernel
theorem dX5_beginWinter_36 : decode cX5_beginWinter 36 = .ok (.iinc 2 1, 3) := by decide +kernel
theorem dX5_beginWinter_39 : decode cX5_beginWinter 39 = .ok (.goto (-35), 3) := by decide +kernel
theorem dX5_beginWinter_42 : decode cX5_beginWinter 42 = .ok (.aload_n 0, 1) := by decide +kernel
theorem dX5_beginWinter_43 : decode cX5_beginWinter 43 = .ok (.sipush 200, 3) := by decide +kernel
theorem dX5_beginWinter_46 : decode cX5_beginWinter 46 = .ok (.dup2, 1) := by decide +kernel
theorem dX5_beginWinter_47 : decode cX5_beginWinter 47 = .ok (.iaload, 1) := by decide +kernel
theorem dX5_beginWinter_48 : decode cX5_beginWinter 48 = .ok (.iconst 1, 1) := by decide +kernel
theorem dX5_beginWinter_49 : decode cX5_beginWinter 49 = .ok (.iadd, 1) := by decide +kernel
theorem dX5_beginWinter_50 : decode cX5_beginWinter 50 = .ok (.iastore, 1) := by decide +kernel
theorem dX5_beginWinter_51 : decode cX5_beginWinter 51 = .ok (.aload_n 0, 1) := by decide +kernel
theorem dX5_beginWinter_52 : decode cX5_beginWinter 52 = .ok (.sipush 201, 3) := by decide +kernel
theorem dX5_beginWinter_55 : decode cX5_beginWinter 55 = .ok (.iload_n 1, 1) := by decide +kernel
theorem dX5_beginWinter_56 : decode cX5_beginWinter 56 = .ok (.aload_n 0, 1) := by decide +kernel
theorem dX5_beginWinter_57 : decode cX5_beginWinter 57 = .ok (.sipush 201, 3) := by decide +kernel
theorem dX5_beginWinter_60 : decode cX5_beginWinter 60 = .ok (.iaload, 1) := by decide +kernel
theorem dX5_beginWinter_61 : decode cX5_beginWinter 61 = .ok (.if_icmp .le 7, 3) := by decide +kernel
theorem dX5_beginWinter_64 : decode cX5_beginWinter 64 = .ok (.iload_n 1, 1) := by decide +kernel
theorem dX5_beginWinter_65 : decode cX5_beginWinter 65 = .ok (.goto 8, 3) := by decide +kernel
theorem dX5_beginWinter_68 : decode cX5_beginWinter 68 = .ok (.aload_n 0, 1) := by decide +kernel
theorem dX5_beginWinter_69 : decode cX5_beginWinter 69 = .ok (.sipush 201, 3) := by decide +kernel
theorem dX5_beginWinter_72 : decode cX5_beginWinter 72 = .ok (.iaload, 1) := by decide +kernel
theorem dX5_beginWinter_73 : decode cX5_beginWinter 73 = .ok (.iastore, 1) := by decide +kernel
theorem dX5_beginWinter_74 : decode cX5_beginWinter 74 = .ok (.iload_n 1, 1) := by decide +kernel
theorem dX5_beginWinter_75 : decode cX5_beginWinter 75 = .ok (.ireturn, 1) := by decide +kernel
theorem dX5_remember_0 : decode cX5_remember 0 = .ok (.aload_n 0, 1) := by decide +kernel
theorem dX5_remember_1 : decode cX5_remember 1 = .ok (.getfield 119, 3) := by decide +kernel
theorem dX5_remember_4 : decode cX5_remember 4 = .ok (.bipush 14, 2) := by decide +kernel
theorem dX5_remember_6 : decode cX5_remember 6 = .ok (.if_icmp .ne 44, 3) := by decide +kernel
theorem dX5_remember_9 : decode cX5_remember 9 = .ok (.iconst 0, 1) := by decide +kernel
theorem dX5_remember_10 : decode cX5_remember 10 = .ok (.istore_n 1, 1) := by decide +kernel
theorem dX5_remember_11 : decode cX5_remember 11 = .ok (.iload_n 1, 1) := by decide +kernel
theorem dX5_remember_12 : decode cX5_remember 12 = .ok (.sipush 2665, 3) := by decide +kernel
theorem dX5_remember_15 : decode cX5_remember 15 = .ok (.if_icmp .ge 25, 3) := by decide +kernel
theorem dX5_remember_18 : decode cX5_remember 18 = .ok (.aload_n 0, 1) := by decide +kernel
theorem dX5_remember_19 : decode cX5_remember 19 = .ok (.getfield 19, 3) := by decide +kernel
theorem dX5_remember_22 : decode cX5_remember 22 = .ok (.iload_n 1, 1) := by decide +kernel
theorem dX5_remember_23 : decode cX5_remember 23 = .ok (.aload_n 0, 1) := by decide +kernel
theorem dX5_remember_24 : decode cX5_remember 24 = .ok (.getfield 19, 3) := by decide +kernel
theorem dX5_remember_27 : decode cX5_remember 27 = .ok (.sipush 205, 3) := by decide +kernel
theorem dX5_remember_30 : decode cX5_remember 30 = .ok (.iload_n 1, 1) := by decide +kernel
theorem dX5_remember_31 : decode cX5_remember 31 = .ok (.iadd, 1) := by decide +kernel
theorem dX5_remember_32 : decode cX5_remember 32 = .ok (.iaload, 1) := by decide +kernel
theorem dX5_remember_33 : decode cX5_remember 33 = .ok (.iastore, 1) := by decide +kernel
theorem dX5_remember_34 : decode cX5_remember 34 = .ok (.iinc 1 1, 3) := by decide +kernel
theorem dX5_remember_37 : decode cX5_remember 37 = .ok (.goto (-26), 3) := by decide +kernel
theorem dX5_remember_40 : decode cX5_remember 40 = .ok (.aload_n 0, 1) := by decide +kernel
theorem dX5_remember_41 : decode cX5_remember 41 = .ok (.dup, 1) := by decide +kernel
theorem dX5_remember_42 : decode cX5_remember 42 = .ok (.getfield 119, 3) := by decide +kernel
theorem dX5_remember_45 : decode cX5_remember 45 = .ok (.iconst 1, 1) := by decide +kernel
theorem dX5_remember_46 : decode cX5_remember 46 = .ok (.isub, 1) := by decide +kernel
theorem dX5_remember_47 : decode cX5_remember 47 = .ok (.putfield 119, 3) := by decide +kernel
theorem dX5_remember_50 : decode cX5_remember 50 = .ok (.iconst 0, 1) := by decide +kernel
theorem dX5_remember_51 : decode cX5_remember 51 = .ok (.istore_n 1, 1) := by decide +kernel
theorem dX5_remember_52 : decode cX5_remember 52 = .ok (.iload_n 1, 1) := by decide +kernel
theorem dX5_remember_53 : decode cX5_remember 53 = .ok (.sipush 205, 3) := by decide +kernel
theorem dX5_remember_56 : decode cX5_remember 56 = .ok (.if_icmp .ge 30, 3) := by decide +kernel
theorem dX5_remember_59 : decode cX5_remember 59 = .ok (.aload_n 0, 1) := by decide +kernel
theorem dX5_remember_60 : decode cX5_remember 60 = .ok (.getfield 19, 3) := by decide +kernel
theorem dX5_remember_63 : decode cX5_remember 63 = .ok (.sipush 205, 3) := by decide +kernel
theorem dX5_remember_66 : decode cX5_remember 66 = .ok (.aload_n 0, 1) := by decide +kernel
theorem dX5_remember_67 : decode cX5_remember 67 = .ok (.getfield 119, 3) := by decide +kernel
theorem dX5_remember_70 : decode cX5_remember 70 = .ok (.imul, 1) := by decide +kernel
theorem dX5_remember_71 : decode cX5_remember 71 = .ok (.iload_n 1, 1) := by decide +kernel
theorem dX5_remember_72 : decode cX5_remember 72 = .ok (.iadd, 1) := by decide +kernel
theorem dX5_remember_73 : decode cX5_remember 73 = .ok (.aload_n 0, 1) := by decide +kernel
theorem dX5_remember_74 : decode cX5_remember 74 = .ok (.getfield 7, 3) := by decide +kernel
theorem dX5_remember_77 : decode cX5_remember 77 = .ok (.iload_n 1, 1) := by decide +kernel
theorem dX5_remember_78 : decode cX5_remember 78 = .ok (.iaload, 1) := by decide +kernel
theorem dX5_remember_79 : decode cX5_remember 79 = .ok (.iastore, 1) := by decide +kernel
theorem dX5_remember_80 : decode cX5_remember 80 = .ok (.iinc 1 1, 3) := by decide +kernel
theorem dX5_remember_83 : decode cX5_remember 83 = .ok (.goto (-31), 3) := by decide +kernel
theorem dX5_remember_86 : decode cX5_remember 86 = .ok (.aload_n 0, 1) := by decide +kernel
theorem dX5_remember_87 : decode cX5_remember 87 = .ok (.dup, 1) := by decide +kernel
theorem dX5_remember_88 : decode cX5_remember 88 = .ok (.getfield 119, 3) := by decide +kernel
theorem dX5_remember_91 : decode cX5_remember 91 = .ok (.iconst 1, 1) := by decide +kernel
theorem dX5_remember_92 : decode cX5_remember 92 = .ok (.iadd, 1) := by decide +kernel
theorem dX5_remember_93 : decode cX5_remember 93 = .ok (.putfield 119, 3) := by decide +kernel
theorem dX5_remember_96 : decode cX5_remember 96 = .ok (.return_, 1) := by decide +kernel
set_option maxRecDepth 20000 in
theorem ggX5_append_X5_in : GoodIn wsX5_append wsX5_in := goodIn_r _ [7] (by decide +kernel) (by decide +kernel)
set_option maxRecDepth 20000 in
theorem gX5_append_X5_in : GoodIn wsX5_append (va_wsS RX5 42 yX5_in wsX5_in) := goodIn_app (goodIn_of _ (by decide +kernel)) ggX5_append_X5_in
set_option maxRecDepth 20000 in
theorem ggX5_append_X5_refused : GoodIn wsX5_append wsX5_refused := goodIn_r _ [11, 12, 13, 14, 15, 16, 17, 18, 19, 20, 21, 22, 23, 24, 25] (by decide +kernel) (by decide +kernel)
set_option maxRecDepth 20000 in
theorem gX5_append_X5_refused : GoodIn wsX5_append (wsV RX5 127 RX5 yX5_refused wsX5_refused) := goodIn_app (goodIn_of _ (by decide +kernel)) ggX5_append_X5_refused
theorem dX5_append_0 : decode cX5_append 0 = .ok (.aload_n 0, 1) := by decide +kernel
theorem dX5_append_1 : decode cX5_append 1 = .ok (.iload_n 1, 1) := by decide +kernel
theorem dX5_append_2 : decode cX5_append 2 = .ok (.i2l, 1) := by decide +kernel
theorem dX5_append_3 : decode cX5_append 3 = .ok (.lconst 0, 1) := by decide +kernel
theorem dX5_append_4 : decode cX5_append 4 = .ok (.ldc2_w 122, 3) := by decide +kernel
theorem dX5_append_7 : decode cX5_append 7 = .ok (.invokestatic 42, 3) := by decide +kernel
theorem dX5_append_10 : decode cX5_append 10 = .ok (.ifCond .ne 7, 3) := by decide +kernel
theorem dX5_append_13 : decode cX5_append 13 = .ok (.iconst 1, 1) := by decide +kernel
theorem dX5_append_14 : decode cX5_append 14 = .ok (.goto 17, 3) := by decide +kernel
theorem dX5_append_17 : decode cX5_append 17 = .ok (.aload_n 0, 1) := by decide +kernel
theorem dX5_append_18 : decode cX5_append 18 = .ok (.getfield 124, 3) := by decide +kernel
theorem dX5_append_21 : decode cX5_append 21 = .ok (.bipush 120, 2) := by decide +kernel
theorem dX5_append_23 : decode cX5_append 23 = .ok (.if_icmp .ne 7, 3) := by decide +kernel
theorem dX5_append_26 : decode cX5_append 26 = .ok (.iconst 2, 1) := by decide +kernel
theorem dX5_append_27 : decode cX5_append 27 = .ok (.goto 4, 3) := by decide +kernel
theorem dX5_append_30 : decode cX5_append 30 = .ok (.iconst 0, 1) := by decide +kernel
theorem dX5_append_31 : decode cX5_append 31 = .ok (.invokevirtual 127, 3) := by decide +kernel
theorem dX5_append_34 : decode cX5_append 34 = .ok (.ifCond .eq 5, 3) := by decide +kernel
theorem dX5_append_37 : decode cX5_append 37 = .ok (.iconst 0, 1) := by decide +kernel
theorem dX5_append_38 : decode cX5_append 38 = .ok (.ireturn, 1) := by decide +kernel
theorem dX5_append_39 : decode cX5_append 39 = .ok (.aload_n 0, 1) := by decide +kernel
theorem dX5_append_40 : decode cX5_append 40 = .ok (.getfield 29, 3) := by decide +kernel
theorem dX5_append_43 : decode cX5_append 43 = .ok (.aload_n 0, 1) := by decide +kernel
theorem dX5_append_44 : decode cX5_append 44 = .ok (.getfield 124, 3) := by decide +kernel
theorem dX5_append_47 : decode cX5_append 47 = .ok (.iload_n 1, 1) := by decide +kernel
theorem dX5_append_48 : decode cX5_append 48 = .ok (.iastore, 1) := by decide +kernel
theorem dX5_append_49 : decode cX5_append 49 = .ok (.aload_n 0, 1) := by decide +kernel
theorem dX5_append_50 : decode cX5_append 50 = .ok (.dup, 1) := by decide +kernel
theorem dX5_append_51 : decode cX5_append 51 = .ok (.getfield 124, 3) := by decide +kernel
theorem dX5_append_54 : decode cX5_append 54 = .ok (.iconst 1, 1) := by decide +kernel
theorem dX5_append_55 : decode cX5_append 55 = .ok (.iadd, 1) := by decide +kernel
theorem dX5_append_56 : decode cX5_append 56 = .ok (.putfield 124, 3) := by decide +kernel
theorem dX5_append_59 : decode cX5_append 59 = .ok (.aload_n 0, 1) := by decide +kernel
theorem dX5_append_60 : decode cX5_append 60 = .ok (.getfield 124, 3) := by decide +kernel
theorem dX5_append_63 : decode cX5_append 63 = .ok (.ireturn, 1) := by decide +kernel
theorem dX5_clearText_0 : decode cX5_clearText 0 = .ok (.aload_n 0, 1) := by decide +kernel
theorem dX5_clearText_1 : decode cX5_clearText 1 = .ok (.iconst 0, 1) := by decide +kernel
theorem dX5_clearText_2 : decode cX5_clearText 2 = .ok (.putfield 36, 3) := by decide +kernel
theorem dX5_clearText_5 : decode cX5_clearText 5 = .ok (.aload_n 0, 1) := by decide +kernel
theorem dX5_clearText_6 : decode cX5_clearText 6 = .ok (.getfield 124, 3) := by decide +kernel
theorem dX5_clearText_9 : decode cX5_clearText 9 = .ok (.istore_n 1, 1) := by decide +kernel
theorem dX5_clearText_10 : decode cX5_clearText 10 = .ok (.aload_n 0, 1) := by decide +kernel
theorem dX5_clearText_11 : decode cX5_clearText 11 = .ok (.iconst 0, 1) := by decide +kernel
theorem dX5_clearText_12 : decode cX5_clearText 12 = .ok (.putfield 124, 3) := by decide +kernel
theorem dX5_clearText_15 : decode cX5_clearText 15 = .ok (.iload_n 1, 1) := by decide +kernel
theorem dX5_clearText_16 : decode cX5_clearText 16 = .ok (.ireturn, 1) := by decide +kernel
theorem dX5_here_0 : decode cX5_here 0 = .ok (.aload_n 0, 1) := by decide +kernel
theorem dX5_here_1 : decode cX5_here 1 = .ok (.getfield 130, 3) := by decide +kernel
theorem dX5_here_4 : decode cX5_here 4 = .ok (.aload_n 0, 1) := by decide +kernel
