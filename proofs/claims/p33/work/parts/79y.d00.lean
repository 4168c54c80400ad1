theorem dL_draw_0 : decode cL_draw 0 = .ok (.iload_n 1, 1) := by decide +kernel
theorem dL_draw_1 : decode cL_draw 1 = .ok (.aload_n 0, 1) := by decide +kernel
theorem dL_draw_2 : decode cL_draw 2 = .ok (.arraylength, 1) := by decide +kernel
theorem dL_draw_3 : decode cL_draw 3 = .ok (.if_icmp .ge 9, 3) := by decide +kernel
theorem dL_draw_6 : decode cL_draw 6 = .ok (.aload_n 0, 1) := by decide +kernel
theorem dL_draw_7 : decode cL_draw 7 = .ok (.iload_n 1, 1) := by decide +kernel
theorem dL_draw_8 : decode cL_draw 8 = .ok (.iaload, 1) := by decide +kernel
theorem dL_draw_9 : decode cL_draw 9 = .ok (.goto 11, 3) := by decide +kernel
theorem dL_draw_12 : decode cL_draw 12 = .ok (.ldc 7, 2) := by decide +kernel
theorem dL_draw_14 : decode cL_draw 14 = .ok (.iload_n 1, 1) := by decide +kernel
theorem dL_draw_15 : decode cL_draw 15 = .ok (.imul, 1) := by decide +kernel
theorem dL_draw_16 : decode cL_draw 16 = .ok (.sipush 10847, 3) := by decide +kernel
theorem dL_draw_19 : decode cL_draw 19 = .ok (.iadd, 1) := by decide +kernel
theorem dL_draw_20 : decode cL_draw 20 = .ok (.ldc 8, 2) := by decide +kernel
theorem dL_draw_22 : decode cL_draw 22 = .ok (.iand, 1) := by decide +kernel
theorem dL_draw_23 : decode cL_draw 23 = .ok (.ireturn, 1) := by decide +kernel
theorem dL_in_0 : decode cL_in 0 = .ok (.lload_n 0, 1) := by decide +kernel
theorem dL_in_1 : decode cL_in 1 = .ok (.lload_n 2, 1) := by decide +kernel
theorem dL_in_2 : decode cL_in 2 = .ok (.lcmp, 1) := by decide +kernel
theorem dL_in_3 : decode cL_in 3 = .ok (.ifCond .lt 14, 3) := by decide +kernel
theorem dL_in_6 : decode cL_in 6 = .ok (.lload_n 0, 1) := by decide +kernel
theorem dL_in_7 : decode cL_in 7 = .ok (.lload 4, 2) := by decide +kernel
theorem dL_in_9 : decode cL_in 9 = .ok (.lcmp, 1) := by decide +kernel
theorem dL_in_10 : decode cL_in 10 = .ok (.ifCond .gt 7, 3) := by decide +kernel
theorem dL_in_13 : decode cL_in 13 = .ok (.iconst 1, 1) := by decide +kernel
theorem dL_in_14 : decode cL_in 14 = .ok (.goto 4, 3) := by decide +kernel
theorem dL_in_17 : decode cL_in 17 = .ok (.iconst 0, 1) := by decide +kernel
theorem dL_in_18 : decode cL_in 18 = .ok (.ireturn, 1) := by decide +kernel
theorem dL_append_0 : decode cL_append 0 = .ok (.aload_n 0, 1) := by decide +kernel
theorem dL_append_1 : decode cL_append 1 = .ok (.iload_n 1, 1) := by decide +kernel
theorem dL_append_2 : decode cL_append 2 = .ok (.invokevirtual 9, 3) := by decide +kernel
theorem dL_append_5 : decode cL_append 5 = .ok (.i2l, 1) := by decide +kernel
theorem dL_append_6 : decode cL_append 6 = .ok (.lreturn, 1) := by decide +kernel
theorem dL_append_7 : decode cL_append 7 = .ok (.astore_n 2, 1) := by decide +kernel
theorem dL_append_8 : decode cL_append 8 = .ok (.ldc2_w 17, 3) := by decide +kernel
theorem dL_append_11 : decode cL_append 11 = .ok (.lreturn, 1) := by decide +kernel
theorem dL_append_12 : decode cL_append 12 = .ok (.astore_n 2, 1) := by decide +kernel
theorem dL_append_13 : decode cL_append 13 = .ok (.ldc2_w 21, 3) := by decide +kernel
theorem dL_append_16 : decode cL_append 16 = .ok (.lreturn, 1) := by decide +kernel
theorem dL_load_0 : decode cL_load 0 = .ok (.aload_n 0, 1) := by decide +kernel
theorem dL_load_1 : decode cL_load 1 = .ok (.invokevirtual 23, 3) := by decide +kernel
theorem dL_load_4 : decode cL_load 4 = .ok (.i2l, 1) := by decide +kernel
theorem dL_load_5 : decode cL_load 5 = .ok (.lreturn, 1) := by decide +kernel
theorem dL_load_6 : decode cL_load 6 = .ok (.astore_n 1, 1) := by decide +kernel
theorem dL_load_7 : decode cL_load 7 = .ok (.ldc2_w 21, 3) := by decide +kernel
theorem dL_load_10 : decode cL_load 10 = .ok (.lreturn, 1) := by decide +kernel
theorem dL_about_0 : decode cL_about 0 = .ok (.aload_n 0, 1) := by decide +kernel
theorem dL_about_1 : decode cL_about 1 = .ok (.iload_n 1, 1) := by decide +kernel
theorem dL_about_2 : decode cL_about 2 = .ok (.invokevirtual 27, 3) := by decide +kernel
theorem dL_about_5 : decode cL_about 5 = .ok (.i2l, 1) := by decide +kernel
theorem dL_about_6 : decode cL_about 6 = .ok (.lreturn, 1) := by decide +kernel
theorem dL_about_7 : decode cL_about 7 = .ok (.astore_n 2, 1) := by decide +kernel
theorem dL_about_8 : decode cL_about 8 = .ok (.ldc2_w 17, 3) := by decide +kernel
theorem dL_about_11 : decode cL_about 11 = .ok (.lreturn, 1) := by decide +kernel
theorem dL_siteOf_0 : decode cL_siteOf 0 = .ok (.aload_n 0, 1) := by decide +kernel
theorem dL_siteOf_1 : decode cL_siteOf 1 = .ok (.iload_n 1, 1) := by decide +kernel
theorem dL_siteOf_2 : decode cL_siteOf 2 = .ok (.iload_n 2, 1) := by decide +kernel
theorem dL_siteOf_3 : decode cL_siteOf 3 = .ok (.invokevirtual 30, 3) := by decide +kernel
theorem dL_siteOf_6 : decode cL_siteOf 6 = .ok (.i2l, 1) := by decide +kernel
theorem dL_siteOf_7 : decode cL_siteOf 7 = .ok (.lreturn, 1) := by decide +kernel
theorem dL_siteOf_8 : decode cL_siteOf 8 = .ok (.astore_n 3, 1) := by decide +kernel
theorem dL_siteOf_9 : decode cL_siteOf 9 = .ok (.ldc2_w 36, 3) := by decide +kernel
theorem dL_siteOf_12 : decode cL_siteOf 12 = .ok (.lreturn, 1) := by decide +kernel
theorem dL_siteOf_13 : decode cL_siteOf 13 = .ok (.astore_n 3, 1) := by decide +kernel
theorem dL_siteOf_14 : decode cL_siteOf 14 = .ok (.ldc2_w 17, 3) := by decide +kernel
theorem dL_siteOf_17 : decode cL_siteOf 17 = .ok (.lreturn, 1) := by decide +kernel
theorem dL_since_0 : decode cL_since 0 = .ok (.aload_n 0, 1) := by decide +kernel
theorem dL_since_1 : decode cL_since 1 = .ok (.iload_n 1, 1) := by decide +kernel
theorem dL_since_2 : decode cL_since 2 = .ok (.iload_n 2, 1) := by decide +kernel
theorem dL_since_3 : decode cL_since 3 = .ok (.invokevirtual 38, 3) := by decide +kernel
theorem dL_since_6 : decode cL_since 6 = .ok (.i2l, 1) := by decide +kernel
theorem dL_since_7 : decode cL_since 7 = .ok (.lreturn, 1) := by decide +kernel
theorem dL_since_8 : decode cL_since 8 = .ok (.astore_n 3, 1) := by decide +kernel
theorem dL_since_9 : decode cL_since 9 = .ok (.ldc2_w 36, 3) := by decide +kernel
theorem dL_since_12 : decode cL_since 12 = .ok (.lreturn, 1) := by decide +kernel
theorem dL_layerOf_0 : decode cL_layerOf 0 = .ok (.aload_n 0, 1) := by decide +kernel
theorem dL_layerOf_1 : decode cL_layerOf 1 = .ok (.iload_n 1, 1) := by decide +kernel
theorem dL_layerOf_2 : decode cL_layerOf 2 = .ok (.iload_n 2, 1) := by decide +kernel
theorem dL_layerOf_3 : decode cL_layerOf 3 = .ok (.iload_n 3, 1) := by decide +kernel
theorem dL_layerOf_4 : decode cL_layerOf 4 = .ok (.invokevirtual 41, 3) := by decide +kernel
theorem dL_layerOf_7 : decode cL_layerOf 7 = .ok (.i2l, 1) := by decide +kernel
theorem dL_layerOf_8 : decode cL_layerOf 8 = .ok (.lreturn, 1) := by decide +kernel
theorem dL_layerOf_9 : decode cL_layerOf 9 = .ok (.astore 4, 2) := by decide +kernel
theorem dL_layerOf_11 : decode cL_layerOf 11 = .ok (.ldc2_w 36, 3) := by decide +kernel
theorem dL_layerOf_14 : decode cL_layerOf 14 = .ok (.lreturn, 1) := by decide +kernel
theorem dL_layerOf_15 : decode cL_layerOf 15 = .ok (.astore 4, 2) := by decide +kernel
theorem dL_layerOf_17 : decode cL_layerOf 17 = .ok (.ldc2_w 17, 3) := by decide +kernel
theorem dL_layerOf_20 : decode cL_layerOf 20 = .ok (.lreturn, 1) := by decide +kernel
theorem dL_tubeOf_0 : decode cL_tubeOf 0 = .ok (.aload_n 0, 1) := by decide +kernel
theorem dL_tubeOf_1 : decode cL_tubeOf 1 = .ok (.iload_n 1, 1) := by decide +kernel
theorem dL_tubeOf_2 : decode cL_tubeOf 2 = .ok (.iload_n 2, 1) := by decide +kernel
theorem dL_tubeOf_3 : decode cL_tubeOf 3 = .ok (.invokevirtual 45, 3) := by decide +kernel
theorem dL_tubeOf_6 : decode cL_tubeOf 6 = .ok (.i2l, 1) := by decide +kernel
theorem dL_tubeOf_7 : decode cL_tubeOf 7 = .ok (.lreturn, 1) := by decide +kernel
theorem dL_tubeOf_8 : decode cL_tubeOf 8 = .ok (.astore_n 3, 1) := by decide +kernel
theorem dL_tubeOf_9 : decode cL_tubeOf 9 = .ok (.ldc2_w 36, 3) := by decide +kernel
theorem dL_tubeOf_12 : decode cL_tubeOf 12 = .ok (.lreturn, 1) := by decide +kernel
theorem dL_tubeOf_13 : decode cL_tubeOf 13 = .ok (.astore_n 3, 1) := by decide +kernel
theorem dL_tubeOf_14 : decode cL_tubeOf 14 = .ok (.ldc2_w 17, 3) := by decide +kernel
theorem dL_tubeOf_17 : decode cL_tubeOf 17 = .ok (.lreturn, 1) := by decide +kernel
theorem dL_pipeOf_0 : decode cL_pipeOf 0 = .ok (.aload_n 0, 1) := by decide +kernel
theorem dL_pipeOf_1 : decode cL_pipeOf 1 = .ok (.iload_n 1, 1) := by decide +kernel
theorem dL_pipeOf_2 : decode cL_pipeOf 2 = .ok (.iload_n 2, 1) := by decide +kernel
theorem dL_pipeOf_3 : decode cL_pipeOf 3 = .ok (.invokevirtual 48, 3) := by decide +kernel
theorem dL_pipeOf_6 : decode cL_pipeOf 6 = .ok (.i2l, 1) := by decide +kernel
theorem dL_pipeOf_7 : decode cL_pipeOf 7 = .ok (.lreturn, 1) := by decide +kernel
theorem dL_pipeOf_8 : decode cL_pipeOf 8 = .ok (.astore_n 3, 1) := by decide +kernel
theorem dL_pipeOf_9 : decode cL_pipeOf 9 = .ok (.ldc2_w 36, 3) := by decide +kernel
theorem dL_pipeOf_12 : decode cL_pipeOf 12 = .ok (.lreturn, 1) := by decide +kernel
theorem dL_pipeOf_13 : decode cL_pipeOf 13 = .ok (.astore_n 3, 1) := by decide +kernel
theorem dL_pipeOf_14 : decode cL_pipeOf 14 = .ok (.ldc2_w 17, 3) := by decide +kernel
theorem dL_pipeOf_17 : decode cL_pipeOf 17 = .ok (.lreturn, 1) := by decide +kernel
theorem dL_layers_0 : decode cL_layers 0 = .ok (.aload_n 0, 1) := by decide +kernel
theorem dL_layers_1 : decode cL_layers 1 = .ok (.iload_n 1, 1) := by decide +kernel
theorem dL_layers_2 : decode cL_layers 2 = .ok (.iload_n 2, 1) := by decide +kernel
theorem dL_layers_3 : decode cL_layers 3 = .ok (.invokevirtual 51, 3) := by decide +kernel
theorem dL_layers_6 : decode cL_layers 6 = .ok (.i2l, 1) := by decide +kernel
theorem dL_layers_7 : decode cL_layers 7 = .ok (.lreturn, 1) := by decide +kernel
theorem dL_layers_8 : decode cL_layers 8 = .ok (.astore_n 3, 1) := by decide +kernel
theorem dL_layers_9 : decode cL_layers 9 = .ok (.ldc2_w 36, 3) := by decide +kernel
theorem dL_layers_12 : decode cL_layers 12 = .ok (.lreturn, 1) := by decide +kernel
theorem dL_layers_13 : decode cL_layers 13 = .ok (.astore_n 3, 1) := by decide +kernel
theorem dL_layers_14 : decode cL_layers 14 = .ok (.ldc2_w 17, 3) := by decide +kernel
theorem dL_layers_17 : decode cL_layers 17 = .ok (.lreturn, 1) := by decide +kernel
theorem dL_oldest_0 : decode cL_oldest 0 = .ok (.aload_n 0, 1) := by decide +kernel
theorem dL_oldest_1 : decode cL_oldest 1 = .ok (.iload_n 1, 1) := by decide +kernel
theorem dL_oldest_2 : decode cL_oldest 2 = .ok (.invokevirtual 54, 3) := by decide +kernel
theorem dL_oldest_5 : decode cL_oldest 5 = .ok (.i2l, 1) := by decide +kernel
theorem dL_oldest_6 : decode cL_oldest 6 = .ok (.lreturn, 1) := by decide +kernel
theorem dL_oldest_7 : decode cL_oldest 7 = .ok (.astore_n 2, 1) := by decide +kernel
theorem dL_oldest_8 : decode cL_oldest 8 = .ok (.ldc2_w 36, 3) := by decide +kernel
theorem dL_oldest_11 : decode cL_oldest 11 = .ok (.lreturn, 1) := by decide +kernel
theorem dL_site_0 : decode cL_site 0 = .ok (.aload_n 0, 1) := by decide +kernel
theorem dL_site_1 : decode cL_site 1 = .ok (.invokevirtual 57, 3) := by decide +kernel
theorem dL_site_4 : decode cL_site 4 = .ok (.i2l, 1) := by decide +kernel
theorem dL_site_5 : decode cL_site 5 = .ok (.lreturn, 1) := by decide +kernel
theorem dL_site_6 : decode cL_site 6 = .ok (.astore_n 1, 1) := by decide +kernel
theorem dL_site_7 : decode cL_site 7 = .ok (.ldc2_w 21, 3) := by decide +kernel
theorem dL_site_10 : decode cL_site 10 = .ok (.lreturn, 1) := by decide +kernel
theorem dL_tube_0 : decode cL_tube 0 = .ok (.aload_n 0, 1) := by decide +kernel
theorem dL_tube_1 : decode cL_tube 1 = .ok (.iload_n 1, 1) := by decide +kernel
theorem dL_tube_2 : decode cL_tube 2 = .ok (.iload_n 2, 1) := by decide +kernel
theorem dL_tube_3 : decode cL_tube 3 = .ok (.invokevirtual 60, 3) := by decide +kernel
theorem dL_tube_6 : decode cL_tube 6 = .ok (.i2l, 1) := by decide +kernel
theorem dL_tube_7 : decode cL_tube 7 = .ok (.lreturn, 1) := by decide +kernel
theorem dL_tube_8 : decode cL_tube 8 = .ok (.astore_n 3, 1) := by decide +kernel
theorem dL_tube_9 : decode cL_tube 9 = .ok (.ldc2_w 36, 3) := by decide +kernel
theorem dL_tube_12 : decode cL_tube 12 = .ok (.lreturn, 1) := by decide +kernel
theorem dL_tube_13 : decode cL_tube 13 = .ok (.astore_n 3, 1) := by decide +kernel
theorem dL_tube_14 : decode cL_tube 14 = .ok (.ldc2_w 17, 3) := by decide +kernel
theorem dL_tube_17 : decode cL_tube 17 = .ok (.lreturn, 1) := by decide +kernel
theorem dL_tube_18 : decode cL_tube 18 = .ok (.astore_n 3, 1) := by decide +kernel
theorem dL_tube_19 : decode cL_tube 19 = .ok (.ldc2_w 21, 3) := by decide +kernel
theorem dL_tube_22 : decode cL_tube 22 = .ok (.lreturn, 1) := by decide +kernel
theorem dL_pipe_0 : decode cL_pipe 0 = .ok (.aload_n 0, 1) := by decide +kernel
theorem dL_pipe_1 : decode cL_pipe 1 = .ok (.iload_n 1, 1) := by decide +kernel
theorem dL_pipe_2 : decode cL_pipe 2 = .ok (.iload_n 2, 1) := by decide +kernel
theorem dL_pipe_3 : decode cL_pipe 3 = .ok (.invokevirtual 63, 3) := by decide +kernel
theorem dL_pipe_6 : decode cL_pipe 6 = .ok (.i2l, 1) := by decide +kernel
theorem dL_pipe_7 : decode cL_pipe 7 = .ok (.lreturn, 1) := by decide +kernel
theorem dL_pipe_8 : decode cL_pipe 8 = .ok (.astore_n 3, 1) := by decide +kernel
theorem dL_pipe_9 : decode cL_pipe 9 = .ok (.ldc2_w 36, 3) := by decide +kernel
theorem dL_pipe_12 : decode cL_pipe 12 = .ok (.lreturn, 1) := by decide +kernel
theorem dL_pipe_13 : decode cL_pipe 13 = .ok (.astore_n 3, 1) := by decide +kernel
theorem dL_pipe_14 : decode cL_pipe 14 = .ok (.ldc2_w 21, 3) := by decide +kernel
theorem dL_pipe_17 : decode cL_pipe 17 = .ok (.lreturn, 1) := by decide +kernel
theorem dL_fence_0 : decode cL_fence 0 = .ok (.aload_n 0, 1) := by decide +kernel
theorem dL_fence_1 : decode cL_fence 1 = .ok (.iload_n 1, 1) := by decide +kernel
theorem dL_fence_2 : decode cL_fence 2 = .ok (.iload_n 2, 1) := by decide +kernel
theorem dL_fence_3 : decode cL_fence 3 = .ok (.invokevirtual 66, 3) := by decide +kernel
theorem dL_fence_6 : decode cL_fence 6 = .ok (.i2l, 1) := by decide +kernel
theorem dL_fence_7 : decode cL_fence 7 = .ok (.lreturn, 1) := by decide +kernel
theorem dL_fence_8 : decode cL_fence 8 = .ok (.astore_n 3, 1) := by decide +kernel
theorem dL_fence_9 : decode cL_fence 9 = .ok (.ldc2_w 36, 3) := by decide +kernel
theorem dL_fence_12 : decode cL_fence 12 = .ok (.lreturn, 1) := by decide +kernel
theorem dL_fence_13 : decode cL_fence 13 = .ok (.astore_n 3, 1) := by decide +kernel
theorem dL_fence_14 : decode cL_fence 14 = .ok (.ldc2_w 17, 3) := by decide +kernel
theorem dL_fence_17 : decode cL_fence 17 = .ok (.lreturn, 1) := by decide +kernel
theorem dL_shovel_0 : decode cL_shovel 0 = .ok (.aload_n 0, 1) := by decide +kernel
theorem dL_shovel_1 : decode cL_shovel 1 = .ok (.iload_n 1, 1) := by decide +kernel
theorem dL_shovel_2 : decode cL_shovel 2 = .ok (.invokevirtual 69, 3) := by decide +kernel
theorem dL_shovel_5 : decode cL_shovel 5 = .ok (.i2l, 1) := by decide +kernel
theorem dL_shovel_6 : decode cL_shovel 6 = .ok (.lreturn, 1) := by decide +kernel
theorem dL_shovel_7 : decode cL_shovel 7 = .ok (.astore_n 2, 1) := by decide +kernel
theorem dL_shovel_8 : decode cL_shovel 8 = .ok (.ldc2_w 36, 3) := by decide +kernel
theorem dL_shovel_11 : decode cL_shovel 11 = .ok (.lreturn, 1) := by decide +kernel
theorem dL_days_0 : decode cL_days 0 = .ok (.aload_n 0, 1) := by decide +kernel
theorem dL_days_1 : decode cL_days 1 = .ok (.iload_n 1, 1) := by decide +kernel
theorem dL_days_2 : decode cL_days 2 = .ok (.iload_n 2, 1) := by decide +kernel
theorem dL_days_3 : decode cL_days 3 = .ok (.iload_n 3, 1) := by decide +kernel
theorem dL_days_4 : decode cL_days 4 = .ok (.invokevirtual 72, 3) := by decide +kernel
theorem dL_days_7 : decode cL_days 7 = .ok (.i2l, 1) := by decide +kernel
theorem dL_days_8 : decode cL_days 8 = .ok (.lreturn, 1) := by decide +kernel
theorem dL_days_9 : decode cL_days 9 = .ok (.astore 4, 2) := by decide +kernel
theorem dL_days_11 : decode cL_days 11 = .ok (.ldc2_w 17, 3) := by decide +kernel
theorem dL_days_14 : decode cL_days 14 = .ok (.lreturn, 1) := by decide +kernel
theorem dL_days_15 : decode cL_days 15 = .ok (.astore 4, 2) := by decide +kernel
theorem dL_days_17 : decode cL_days 17 = .ok (.ldc2_w 21, 3) := by decide +kernel
theorem dL_days_20 : decode cL_days 20 = .ok (.lreturn, 1) := by decide +kernel
theorem dL_set_0 : decode cL_set 0 = .ok (.aload_n 0, 1) := by decide +kernel
theorem dL_set_1 : decode cL_set 1 = .ok (.iload_n 1, 1) := by decide +kernel
theorem dL_set_2 : decode cL_set 2 = .ok (.iload_n 2, 1) := by decide +kernel
theorem dL_set_3 : decode cL_set 3 = .ok (.invokevirtual 75, 3) := by decide +kernel
theorem dL_set_6 : decode cL_set 6 = .ok (.i2l, 1) := by decide +kernel
theorem dL_set_7 : decode cL_set 7 = .ok (.lreturn, 1) := by decide +kernel
theorem dL_set_8 : decode cL_set 8 = .ok (.astore_n 3, 1) := by decide +kernel
theorem dL_set_9 : decode cL_set 9 = .ok (.ldc2_w 17, 3) := by decide +kernel
theorem dL_set_12 : decode cL_set 12 = .ok (.lreturn, 1) := by decide +kernel
theorem dL_undo_0 : decode cL_undo 0 = .ok (.aload_n 0, 1) := by decide +kernel
theorem dL_undo_1 : decode cL_undo 1 = .ok (.invokevirtual 78, 3) := by decide +kernel
theorem dL_undo_4 : decode cL_undo 4 = .ok (.i2l, 1) := by decide +kernel
theorem dL_undo_5 : decode cL_undo 5 = .ok (.lreturn, 1) := by decide +kernel
theorem dL_undo_6 : decode cL_undo 6 = .ok (.astore_n 1, 1) := by decide +kernel
theorem dL_undo_7 : decode cL_undo 7 = .ok (.ldc2_w 21, 3) := by decide +kernel
theorem dL_undo_10 : decode cL_undo 10 = .ok (.lreturn, 1) := by decide +kernel
theorem dL_goneIn_0 : decode cL_goneIn 0 = .ok (.aload_n 0, 1) := by decide +kernel
theorem dL_goneIn_1 : decode cL_goneIn 1 = .ok (.iload_n 1, 1) := by decide +kernel
theorem dL_goneIn_2 : decode cL_goneIn 2 = .ok (.iload_n 2, 1) := by decide +kernel
theorem dL_goneIn_3 : decode cL_goneIn 3 = .ok (.invokevirtual 81, 3) := by decide +kernel
theorem dL_goneIn_6 : decode cL_goneIn 6 = .ok (.i2l, 1) := by decide +kernel
theorem dL_goneIn_7 : decode cL_goneIn 7 = .ok (.lreturn, 1) := by decide +kernel
theorem dL_goneIn_8 : decode cL_goneIn 8 = .ok (.astore_n 3, 1) := by decide +kernel
theorem dL_goneIn_9 : decode cL_goneIn 9 = .ok (.ldc2_w 36, 3) := by decide +kernel
theorem dL_goneIn_12 : decode cL_goneIn 12 = .ok (.lreturn, 1) := by decide +kernel
theorem dL_goneIn_13 : decode cL_goneIn 13 = .ok (.astore_n 3, 1) := by decide +kernel
theorem dL_goneIn_14 : decode cL_goneIn 14 = .ok (.ldc2_w 17, 3) := by decide +kernel
theorem dL_goneIn_17 : decode cL_goneIn 17 = .ok (.lreturn, 1) := by decide +kernel
theorem dL_reachedIn_0 : decode cL_reachedIn 0 = .ok (.aload_n 0, 1) := by decide +kernel
theorem dL_reachedIn_1 : decode cL_reachedIn 1 = .ok (.iload_n 1, 1) := by decide +kernel
theorem dL_reachedIn_2 : decode cL_reachedIn 2 = .ok (.iload_n 2, 1) := by decide +kernel
theorem dL_reachedIn_3 : decode cL_reachedIn 3 = .ok (.iload_n 3, 1) := by decide +kernel
theorem dL_reachedIn_4 : decode cL_reachedIn 4 = .ok (.invokevirtual 84, 3) := by decide +kernel
theorem dL_reachedIn_7 : decode cL_reachedIn 7 = .ok (.i2l, 1) := by decide +kernel
theorem dL_reachedIn_8 : decode cL_reachedIn 8 = .ok (.lreturn, 1) := by decide +kernel
theorem dL_reachedIn_9 : decode cL_reachedIn 9 = .ok (.astore 4, 2) := by decide +kernel
theorem dL_reachedIn_11 : decode cL_reachedIn 11 = .ok (.ldc2_w 36, 3) := by decide +kernel
theorem dL_reachedIn_14 : decode cL_reachedIn 14 = .ok (.lreturn, 1) := by decide +kernel
theorem dL_reachedIn_15 : decode cL_reachedIn 15 = .ok (.astore 4, 2) := by decide +kernel
theorem dL_reachedIn_17 : decode cL_reachedIn 17 = .ok (.ldc2_w 17, 3) := by decide +kernel
theorem dL_reachedIn_20 : decode cL_reachedIn 20 = .ok (.lreturn, 1) := by decide +kernel
theorem dL_bestFence_0 : decode cL_bestFence 0 = .ok (.aload_n 0, 1) := by decide +kernel
theorem dL_bestFence_1 : decode cL_bestFence 1 = .ok (.iload_n 1, 1) := by decide +kernel
theorem dL_bestFence_2 : decode cL_bestFence 2 = .ok (.iload_n 2, 1) := by decide +kernel
theorem dL_bestFence_3 : decode cL_bestFence 3 = .ok (.iload_n 3, 1) := by decide +kernel
theorem dL_bestFence_4 : decode cL_bestFence 4 = .ok (.iload 4, 2) := by decide +kernel
theorem dL_bestFence_6 : decode cL_bestFence 6 = .ok (.invokevirtual 87, 3) := by decide +kernel
theorem dL_bestFence_9 : decode cL_bestFence 9 = .ok (.i2l, 1) := by decide +kernel
theorem dL_bestFence_10 : decode cL_bestFence 10 = .ok (.lreturn, 1) := by decide +kernel
theorem dL_bestFence_11 : decode cL_bestFence 11 = .ok (.astore 5, 2) := by decide +kernel
theorem dL_bestFence_13 : decode cL_bestFence 13 = .ok (.ldc2_w 36, 3) := by decide +kernel
theorem dL_bestFence_16 : decode cL_bestFence 16 = .ok (.lreturn, 1) := by decide +kernel
theorem dL_bestFence_17 : decode cL_bestFence 17 = .ok (.astore 5, 2) := by decide +kernel
theorem dL_bestFence_19 : decode cL_bestFence 19 = .ok (.ldc2_w 17, 3) := by decide +kernel
theorem dL_bestFence_22 : decode cL_bestFence 22 = .ok (.lreturn, 1) := by decide +kernel
theorem dL_heaveIn_0 : decode cL_heaveIn 0 = .ok (.aload_n 0, 1) := by decide +kernel
theorem dL_heaveIn_1 : decode cL_heaveIn 1 = .ok (.iload_n 1, 1) := by decide +kernel
theorem dL_heaveIn_2 : decode cL_heaveIn 2 = .ok (.iload_n 2, 1) := by decide +kernel
theorem dL_heaveIn_3 : decode cL_heaveIn 3 = .ok (.iload_n 3, 1) := by decide +kernel
theorem dL_heaveIn_4 : decode cL_heaveIn 4 = .ok (.invokevirtual 91, 3) := by decide +kernel
theorem dL_heaveIn_7 : decode cL_heaveIn 7 = .ok (.i2l, 1) := by decide +kernel
theorem dL_heaveIn_8 : decode cL_heaveIn 8 = .ok (.lreturn, 1) := by decide +kernel
theorem dL_heaveIn_9 : decode cL_heaveIn 9 = .ok (.astore 4, 2) := by decide +kernel
theorem dL_heaveIn_11 : decode cL_heaveIn 11 = .ok (.ldc2_w 36, 3) := by decide +kernel
theorem dL_heaveIn_14 : decode cL_heaveIn 14 = .ok (.lreturn, 1) := by decide +kernel
theorem dL_heaveIn_15 : decode cL_heaveIn 15 = .ok (.astore 4, 2) := by decide +kernel
theorem dL_heaveIn_17 : decode cL_heaveIn 17 = .ok (.ldc2_w 17, 3) := by decide +kernel
theorem dL_heaveIn_20 : decode cL_heaveIn 20 = .ok (.lreturn, 1) := by decide +kernel
theorem dL_script_0 : decode cL_script 0 = .ok (.aload_n 0, 1) := by decide +kernel
theorem dL_script_1 : decode cL_script 1 = .ok (.iload_n 1, 1) := by decide +kernel
theorem dL_script_2 : decode cL_script 2 = .ok (.lload_n 2, 1) := by decide +kernel
theorem dL_script_3 : decode cL_script 3 = .ok (.invokevirtual 94, 3) := by decide +kernel
theorem dL_script_6 : decode cL_script 6 = .ok (.i2l, 1) := by decide +kernel
theorem dL_script_7 : decode cL_script 7 = .ok (.lreturn, 1) := by decide +kernel
theorem dL_script_8 : decode cL_script 8 = .ok (.astore 4, 2) := by decide +kernel
theorem dL_script_10 : decode cL_script 10 = .ok (.ldc2_w 17, 3) := by decide +kernel
theorem dL_script_13 : decode cL_script 13 = .ok (.lreturn, 1) := by decide +kernel
theorem dL_simulate_0 : decode cL_simulate 0 = .ok (.aload_n 0, 1) := by decide +kernel
theorem dL_simulate_1 : decode cL_simulate 1 = .ok (.lload_n 1, 1) := by decide +kernel
theorem dL_simulate_2 : decode cL_simulate 2 = .ok (.iload_n 3, 1) := by decide +kernel
theorem dL_simulate_3 : decode cL_simulate 3 = .ok (.invokevirtual 98, 3) := by decide +kernel
theorem dL_simulate_6 : decode cL_simulate 6 = .ok (.i2l, 1) := by decide +kernel
theorem dL_simulate_7 : decode cL_simulate 7 = .ok (.lreturn, 1) := by decide +kernel
theorem dL_simulate_8 : decode cL_simulate 8 = .ok (.astore 4, 2) := by decide +kernel
theorem dL_simulate_10 : decode cL_simulate 10 = .ok (.ldc2_w 17, 3) := by decide +kernel
theorem dL_simulate_13 : decode cL_simulate 13 = .ok (.lreturn, 1) := by decide +kernel
theorem dL_save_0 : decode cL_save 0 = .ok (.aload_n 0, 1) := by decide +kernel
theorem dL_save_1 : decode cL_save 1 = .ok (.iload_n 1, 1) := by decide +kernel
theorem dL_save_2 : decode cL_save 2 = .ok (.invokevirtual 102, 3) := by decide +kernel
theorem dL_save_5 : decode cL_save 5 = .ok (.i2l, 1) := by decide +kernel
theorem dL_save_6 : decode cL_save 6 = .ok (.lreturn, 1) := by decide +kernel
theorem dL_save_7 : decode cL_save 7 = .ok (.astore_n 2, 1) := by decide +kernel
theorem dL_save_8 : decode cL_save 8 = .ok (.ldc2_w 36, 3) := by decide +kernel
theorem dL_save_11 : decode cL_save 11 = .ok (.lreturn, 1) := by decide +kernel
theorem dL_restore_0 : decode cL_restore 0 = .ok (.aload_n 0, 1) := by decide +kernel
theorem dL_restore_1 : decode cL_restore 1 = .ok (.iload_n 1, 1) := by decide +kernel
theorem dL_restore_2 : decode cL_restore 2 = .ok (.invokevirtual 105, 3) := by decide +kernel
theorem dL_restore_5 : decode cL_restore 5 = .ok (.i2l, 1) := by decide +kernel
theorem dL_restore_6 : decode cL_restore 6 = .ok (.lreturn, 1) := by decide +kernel
theorem dL_restore_7 : decode cL_restore 7 = .ok (.astore_n 2, 1) := by decide +kernel
theorem dL_restore_8 : decode cL_restore 8 = .ok (.ldc2_w 36, 3) := by decide +kernel
theorem dL_restore_11 : decode cL_restore 11 = .ok (.lreturn, 1) := by decide +kernel
theorem dL_restore_12 : decode cL_restore 12 = .ok (.astore_n 2, 1) := by decide +kernel
theorem dL_restore_13 : decode cL_restore 13 = .ok (.ldc2_w 21, 3) := by decide +kernel
theorem dL_restore_16 : decode cL_restore 16 = .ok (.lreturn, 1) := by decide +kernel
theorem dL_now_0 : decode cL_now 0 = .ok (.ldc2_w 108, 3) := by decide +kernel
theorem dL_now_3 : decode cL_now 3 = .ok (.lstore_n 1, 1) := by decide +kernel
theorem dL_now_4 : decode cL_now 4 = .ok (.iconst 0, 1) := by decide +kernel
theorem dL_now_5 : decode cL_now 5 = .ok (.istore_n 3, 1) := by decide +kernel
theorem dL_now_6 : decode cL_now 6 = .ok (.iload_n 3, 1) := by decide +kernel
theorem dL_now_7 : decode cL_now 7 = .ok (.bipush 12, 2) := by decide +kernel
theorem dL_now_9 : decode cL_now 9 = .ok (.if_icmp .ge 21, 3) := by decide +kernel
theorem dL_now_12 : decode cL_now 12 = .ok (.ldc2_w 110, 3) := by decide +kernel
theorem dL_now_15 : decode cL_now 15 = .ok (.lload_n 1, 1) := by decide +kernel
theorem dL_now_16 : decode cL_now 16 = .ok (.lmul, 1) := by decide +kernel
theorem dL_now_17 : decode cL_now 17 = .ok (.aload_n 0, 1) := by decide +kernel
theorem dL_now_18 : decode cL_now 18 = .ok (.iload_n 3, 1) := by decide +kernel
theorem dL_now_19 : decode cL_now 19 = .ok (.invokestatic 112, 3) := by decide +kernel
theorem dL_now_22 : decode cL_now 22 = .ok (.ladd, 1) := by decide +kernel
theorem dL_now_23 : decode cL_now 23 = .ok (.lstore_n 1, 1) := by decide +kernel
theorem dL_now_24 : decode cL_now 24 = .ok (.iinc 3 1, 3) := by decide +kernel
theorem dL_now_27 : decode cL_now 27 = .ok (.goto (-21), 3) := by decide +kernel
theorem dL_now_30 : decode cL_now 30 = .ok (.iconst 0, 1) := by decide +kernel
theorem dL_now_31 : decode cL_now 31 = .ok (.istore_n 3, 1) := by decide +kernel
theorem dL_now_32 : decode cL_now 32 = .ok (.iload_n 3, 1) := by decide +kernel
theorem dL_now_33 : decode cL_now 33 = .ok (.i2l, 1) := by decide +kernel
theorem dL_now_34 : decode cL_now 34 = .ok (.aload_n 0, 1) := by decide +kernel
theorem dL_now_35 : decode cL_now 35 = .ok (.iconst 0, 1) := by decide +kernel
theorem dL_now_36 : decode cL_now 36 = .ok (.invokestatic 112, 3) := by decide +kernel
theorem dL_now_39 : decode cL_now 39 = .ok (.lcmp, 1) := by decide +kernel
theorem dL_now_40 : decode cL_now 40 = .ok (.ifCond .ge 69, 3) := by decide +kernel
theorem dL_now_43 : decode cL_now 43 = .ok (.iconst 0, 1) := by decide +kernel
theorem dL_now_44 : decode cL_now 44 = .ok (.istore 4, 2) := by decide +kernel
theorem dL_now_46 : decode cL_now 46 = .ok (.iload 4, 2) := by decide +kernel
theorem dL_now_48 : decode cL_now 48 = .ok (.bipush 9, 2) := by decide +kernel
theorem dL_now_50 : decode cL_now 50 = .ok (.if_icmp .ge 23, 3) := by decide +kernel
theorem dL_now_53 : decode cL_now 53 = .ok (.ldc2_w 110, 3) := by decide +kernel
theorem dL_now_56 : decode cL_now 56 = .ok (.lload_n 1, 1) := by decide +kernel
theorem dL_now_57 : decode cL_now 57 = .ok (.lmul, 1) := by decide +kernel
theorem dL_now_58 : decode cL_now 58 = .ok (.aload_n 0, 1) := by decide +kernel
theorem dL_now_59 : decode cL_now 59 = .ok (.iload_n 3, 1) := by decide +kernel
theorem dL_now_60 : decode cL_now 60 = .ok (.iload 4, 2) := by decide +kernel
theorem dL_now_62 : decode cL_now 62 = .ok (.invokestatic 117, 3) := by decide +kernel
theorem dL_now_65 : decode cL_now 65 = .ok (.ladd, 1) := by decide +kernel
theorem dL_now_66 : decode cL_now 66 = .ok (.lstore_n 1, 1) := by decide +kernel
theorem dL_now_67 : decode cL_now 67 = .ok (.iinc 4 1, 3) := by decide +kernel
theorem dL_now_70 : decode cL_now 70 = .ok (.goto (-24), 3) := by decide +kernel
theorem dL_now_73 : decode cL_now 73 = .ok (.iconst 0, 1) := by decide +kernel
theorem dL_now_74 : decode cL_now 74 = .ok (.istore 4, 2) := by decide +kernel
theorem dL_now_76 : decode cL_now 76 = .ok (.iload 4, 2) := by decide +kernel
theorem dL_now_78 : decode cL_now 78 = .ok (.bipush 30, 2) := by decide +kernel
theorem dL_now_80 : decode cL_now 80 = .ok (.if_icmp .ge 23, 3) := by decide +kernel
theorem dL_now_83 : decode cL_now 83 = .ok (.ldc2_w 110, 3) := by decide +kernel
theorem dL_now_86 : decode cL_now 86 = .ok (.lload_n 1, 1) := by decide +kernel
theorem dL_now_87 : decode cL_now 87 = .ok (.lmul, 1) := by decide +kernel
theorem dL_now_88 : decode cL_now 88 = .ok (.aload_n 0, 1) := by decide +kernel
theorem dL_now_89 : decode cL_now 89 = .ok (.iload_n 3, 1) := by decide +kernel
theorem dL_now_90 : decode cL_now 90 = .ok (.iload 4, 2) := by decide +kernel
theorem dL_now_92 : decode cL_now 92 = .ok (.invokestatic 120, 3) := by decide +kernel
theorem dL_now_95 : decode cL_now 95 = .ok (.ladd, 1) := by decide +kernel
theorem dL_now_96 : decode cL_now 96 = .ok (.lstore_n 1, 1) := by decide +kernel
theorem dL_now_97 : decode cL_now 97 = .ok (.iinc 4 1, 3) := by decide +kernel
theorem dL_now_100 : decode cL_now 100 = .ok (.goto (-24), 3) := by decide +kernel
theorem dL_now_103 : decode cL_now 103 = .ok (.iinc 3 1, 3) := by decide +kernel
theorem dL_now_106 : decode cL_now 106 = .ok (.goto (-74), 3) := by decide +kernel
theorem dL_now_109 : decode cL_now 109 = .ok (.iconst 0, 1) := by decide +kernel
theorem dL_now_110 : decode cL_now 110 = .ok (.istore_n 3, 1) := by decide +kernel
theorem dL_now_111 : decode cL_now 111 = .ok (.iload_n 3, 1) := by decide +kernel
theorem dL_now_112 : decode cL_now 112 = .ok (.i2l, 1) := by decide +kernel
theorem dL_now_113 : decode cL_now 113 = .ok (.aload_n 0, 1) := by decide +kernel
theorem dL_now_114 : decode cL_now 114 = .ok (.iconst 1, 1) := by decide +kernel
theorem dL_now_115 : decode cL_now 115 = .ok (.invokestatic 112, 3) := by decide +kernel
theorem dL_now_118 : decode cL_now 118 = .ok (.lcmp, 1) := by decide +kernel
theorem dL_now_119 : decode cL_now 119 = .ok (.ifCond .ge 33, 3) := by decide +kernel
theorem dL_now_122 : decode cL_now 122 = .ok (.ldc2_w 110, 3) := by decide +kernel
theorem dL_now_125 : decode cL_now 125 = .ok (.lload_n 1, 1) := by decide +kernel
theorem dL_now_126 : decode cL_now 126 = .ok (.lmul, 1) := by decide +kernel
theorem dL_now_127 : decode cL_now 127 = .ok (.aload_n 0, 1) := by decide +kernel
theorem dL_now_128 : decode cL_now 128 = .ok (.iload_n 3, 1) := by decide +kernel
theorem dL_now_129 : decode cL_now 129 = .ok (.iconst 1, 1) := by decide +kernel
theorem dL_now_130 : decode cL_now 130 = .ok (.invokestatic 122, 3) := by decide +kernel
theorem dL_now_133 : decode cL_now 133 = .ok (.ladd, 1) := by decide +kernel
theorem dL_now_134 : decode cL_now 134 = .ok (.ldc2_w 124, 3) := by decide +kernel
theorem dL_now_137 : decode cL_now 137 = .ok (.aload_n 0, 1) := by decide +kernel
theorem dL_now_138 : decode cL_now 138 = .ok (.iload_n 3, 1) := by decide +kernel
theorem dL_now_139 : decode cL_now 139 = .ok (.iconst 2, 1) := by decide +kernel
theorem dL_now_140 : decode cL_now 140 = .ok (.invokestatic 122, 3) := by decide +kernel
theorem dL_now_143 : decode cL_now 143 = .ok (.lmul, 1) := by decide +kernel
theorem dL_now_144 : decode cL_now 144 = .ok (.ladd, 1) := by decide +kernel
theorem dL_now_145 : decode cL_now 145 = .ok (.lstore_n 1, 1) := by decide +kernel
theorem dL_now_146 : decode cL_now 146 = .ok (.iinc 3 1, 3) := by decide +kernel
theorem dL_now_149 : decode cL_now 149 = .ok (.goto (-38), 3) := by decide +kernel
theorem dL_now_152 : decode cL_now 152 = .ok (.iconst 0, 1) := by decide +kernel
theorem dL_now_153 : decode cL_now 153 = .ok (.istore_n 3, 1) := by decide +kernel
theorem dL_now_154 : decode cL_now 154 = .ok (.iload_n 3, 1) := by decide +kernel
theorem dL_now_155 : decode cL_now 155 = .ok (.i2l, 1) := by decide +kernel
theorem dL_now_156 : decode cL_now 156 = .ok (.aload_n 0, 1) := by decide +kernel
theorem dL_now_157 : decode cL_now 157 = .ok (.iconst 2, 1) := by decide +kernel
theorem dL_now_158 : decode cL_now 158 = .ok (.invokestatic 112, 3) := by decide +kernel
theorem dL_now_161 : decode cL_now 161 = .ok (.lcmp, 1) := by decide +kernel
theorem dL_now_162 : decode cL_now 162 = .ok (.ifCond .ge 38, 3) := by decide +kernel
theorem dL_now_165 : decode cL_now 165 = .ok (.iconst 0, 1) := by decide +kernel
theorem dL_now_166 : decode cL_now 166 = .ok (.istore 4, 2) := by decide +kernel
theorem dL_now_168 : decode cL_now 168 = .ok (.iload 4, 2) := by decide +kernel
theorem dL_now_170 : decode cL_now 170 = .ok (.iconst 5, 1) := by decide +kernel
theorem dL_now_171 : decode cL_now 171 = .ok (.if_icmp .ge 23, 3) := by decide +kernel
theorem dL_now_174 : decode cL_now 174 = .ok (.ldc2_w 110, 3) := by decide +kernel
theorem dL_now_177 : decode cL_now 177 = .ok (.lload_n 1, 1) := by decide +kernel
theorem dL_now_178 : decode cL_now 178 = .ok (.lmul, 1) := by decide +kernel
theorem dL_now_179 : decode cL_now 179 = .ok (.aload_n 0, 1) := by decide +kernel
theorem dL_now_180 : decode cL_now 180 = .ok (.iload_n 3, 1) := by decide +kernel
theorem dL_now_181 : decode cL_now 181 = .ok (.iload 4, 2) := by decide +kernel
theorem dL_now_183 : decode cL_now 183 = .ok (.invokestatic 126, 3) := by decide +kernel
theorem dL_now_186 : decode cL_now 186 = .ok (.ladd, 1) := by decide +kernel
theorem dL_now_187 : decode cL_now 187 = .ok (.lstore_n 1, 1) := by decide +kernel
theorem dL_now_188 : decode cL_now 188 = .ok (.iinc 4 1, 3) := by decide +kernel
theorem dL_now_191 : decode cL_now 191 = .ok (.goto (-23), 3) := by decide +kernel
theorem dL_now_194 : decode cL_now 194 = .ok (.iinc 3 1, 3) := by decide +kernel
theorem dL_now_197 : decode cL_now 197 = .ok (.goto (-43), 3) := by decide +kernel
theorem dL_now_200 : decode cL_now 200 = .ok (.lload_n 1, 1) := by decide +kernel
theorem dL_now_201 : decode cL_now 201 = .ok (.lreturn, 1) := by decide +kernel
theorem dL_errors_0 : decode cL_errors 0 = .ok (.aload_n 0, 1) := by decide +kernel
theorem dL_errors_1 : decode cL_errors 1 = .ok (.invokestatic 128, 3) := by decide +kernel
theorem dL_errors_4 : decode cL_errors 4 = .ok (.lstore_n 1, 1) := by decide +kernel
theorem dL_errors_5 : decode cL_errors 5 = .ok (.aload_n 0, 1) := by decide +kernel
theorem dL_errors_6 : decode cL_errors 6 = .ok (.iconst 0, 1) := by decide +kernel
theorem dL_errors_7 : decode cL_errors 7 = .ok (.invokestatic 112, 3) := by decide +kernel
theorem dL_errors_10 : decode cL_errors 10 = .ok (.l2i, 1) := by decide +kernel
theorem dL_errors_11 : decode cL_errors 11 = .ok (.istore_n 3, 1) := by decide +kernel
theorem dL_errors_12 : decode cL_errors 12 = .ok (.aload_n 0, 1) := by decide +kernel
theorem dL_errors_13 : decode cL_errors 13 = .ok (.iconst (-1), 1) := by decide +kernel
theorem dL_errors_14 : decode cL_errors 14 = .ok (.invokestatic 112, 3) := by decide +kernel
theorem dL_errors_17 : decode cL_errors 17 = .ok (.ldc2_w 17, 3) := by decide +kernel
theorem dL_errors_20 : decode cL_errors 20 = .ok (.lcmp, 1) := by decide +kernel
theorem dL_errors_21 : decode cL_errors 21 = .ok (.ifCond .ne 277, 3) := by decide +kernel
theorem dL_errors_24 : decode cL_errors 24 = .ok (.aload_n 0, 1) := by decide +kernel
theorem dL_errors_25 : decode cL_errors 25 = .ok (.bipush 12, 2) := by decide +kernel
theorem dL_errors_27 : decode cL_errors 27 = .ok (.invokestatic 112, 3) := by decide +kernel
theorem dL_errors_30 : decode cL_errors 30 = .ok (.ldc2_w 17, 3) := by decide +kernel
theorem dL_errors_33 : decode cL_errors 33 = .ok (.lcmp, 1) := by decide +kernel
theorem dL_errors_34 : decode cL_errors 34 = .ok (.ifCond .ne 264, 3) := by decide +kernel
theorem dL_errors_37 : decode cL_errors 37 = .ok (.aload_n 0, 1) := by decide +kernel
theorem dL_errors_38 : decode cL_errors 38 = .ok (.iload_n 3, 1) := by decide +kernel
theorem dL_errors_39 : decode cL_errors 39 = .ok (.bipush 9, 2) := by decide +kernel
theorem dL_errors_41 : decode cL_errors 41 = .ok (.invokestatic 117, 3) := by decide +kernel
theorem dL_errors_44 : decode cL_errors 44 = .ok (.ldc2_w 36, 3) := by decide +kernel
theorem dL_errors_47 : decode cL_errors 47 = .ok (.lcmp, 1) := by decide +kernel
theorem dL_errors_48 : decode cL_errors 48 = .ok (.ifCond .ne 250, 3) := by decide +kernel
theorem dL_errors_51 : decode cL_errors 51 = .ok (.aload_n 0, 1) := by decide +kernel
theorem dL_errors_52 : decode cL_errors 52 = .ok (.iconst (-1), 1) := by decide +kernel
theorem dL_errors_53 : decode cL_errors 53 = .ok (.iconst 0, 1) := by decide +kernel
theorem dL_errors_54 : decode cL_errors 54 = .ok (.invokestatic 117, 3) := by decide +kernel
theorem dL_errors_57 : decode cL_errors 57 = .ok (.ldc2_w 36, 3) := by decide +kernel
theorem dL_errors_60 : decode cL_errors 60 = .ok (.lcmp, 1) := by decide +kernel
theorem dL_errors_61 : decode cL_errors 61 = .ok (.ifCond .ne 237, 3) := by decide +kernel
theorem dL_errors_64 : decode cL_errors 64 = .ok (.iload_n 3, 1) := by decide +kernel
theorem dL_errors_65 : decode cL_errors 65 = .ok (.ifCond .eq 163, 3) := by decide +kernel
theorem dL_errors_68 : decode cL_errors 68 = .ok (.aload_n 0, 1) := by decide +kernel
theorem dL_errors_69 : decode cL_errors 69 = .ok (.iconst 0, 1) := by decide +kernel
theorem dL_errors_70 : decode cL_errors 70 = .ok (.bipush 9, 2) := by decide +kernel
theorem dL_errors_72 : decode cL_errors 72 = .ok (.invokestatic 117, 3) := by decide +kernel
theorem dL_errors_75 : decode cL_errors 75 = .ok (.ldc2_w 17, 3) := by decide +kernel
theorem dL_errors_78 : decode cL_errors 78 = .ok (.lcmp, 1) := by decide +kernel
theorem dL_errors_79 : decode cL_errors 79 = .ok (.ifCond .ne 219, 3) := by decide +kernel
theorem dL_errors_82 : decode cL_errors 82 = .ok (.aload_n 0, 1) := by decide +kernel
theorem dL_errors_83 : decode cL_errors 83 = .ok (.iconst 0, 1) := by decide +kernel
theorem dL_errors_84 : decode cL_errors 84 = .ok (.bipush 30, 2) := by decide +kernel
theorem dL_errors_86 : decode cL_errors 86 = .ok (.invokestatic 120, 3) := by decide +kernel
theorem dL_errors_89 : decode cL_errors 89 = .ok (.ldc2_w 36, 3) := by decide +kernel
theorem dL_errors_92 : decode cL_errors 92 = .ok (.lcmp, 1) := by decide +kernel
theorem dL_errors_93 : decode cL_errors 93 = .ok (.ifCond .ne 205, 3) := by decide +kernel
theorem dL_errors_96 : decode cL_errors 96 = .ok (.aload_n 0, 1) := by decide +kernel
theorem dL_errors_97 : decode cL_errors 97 = .ok (.iconst 0, 1) := by decide +kernel
theorem dL_errors_98 : decode cL_errors 98 = .ok (.aload_n 0, 1) := by decide +kernel
theorem dL_errors_99 : decode cL_errors 99 = .ok (.iconst 0, 1) := by decide +kernel
theorem dL_errors_100 : decode cL_errors 100 = .ok (.bipush 6, 2) := by decide +kernel
theorem dL_errors_102 : decode cL_errors 102 = .ok (.invokestatic 117, 3) := by decide +kernel
theorem dL_errors_105 : decode cL_errors 105 = .ok (.l2i, 1) := by decide +kernel
theorem dL_errors_106 : decode cL_errors 106 = .ok (.iconst 4, 1) := by decide +kernel
theorem dL_errors_107 : decode cL_errors 107 = .ok (.invokestatic 132, 3) := by decide +kernel
theorem dL_errors_110 : decode cL_errors 110 = .ok (.ldc2_w 36, 3) := by decide +kernel
theorem dL_errors_113 : decode cL_errors 113 = .ok (.lcmp, 1) := by decide +kernel
theorem dL_errors_114 : decode cL_errors 114 = .ok (.ifCond .ne 184, 3) := by decide +kernel
theorem dL_errors_117 : decode cL_errors 117 = .ok (.aload_n 0, 1) := by decide +kernel
theorem dL_errors_118 : decode cL_errors 118 = .ok (.iconst 0, 1) := by decide +kernel
theorem dL_errors_119 : decode cL_errors 119 = .ok (.iconst 2, 1) := by decide +kernel
theorem dL_errors_120 : decode cL_errors 120 = .ok (.invokestatic 135, 3) := by decide +kernel
theorem dL_errors_123 : decode cL_errors 123 = .ok (.ldc2_w 17, 3) := by decide +kernel
theorem dL_errors_126 : decode cL_errors 126 = .ok (.lcmp, 1) := by decide +kernel
theorem dL_errors_127 : decode cL_errors 127 = .ok (.ifCond .ne 171, 3) := by decide +kernel
theorem dL_errors_130 : decode cL_errors 130 = .ok (.aload_n 0, 1) := by decide +kernel
theorem dL_errors_131 : decode cL_errors 131 = .ok (.iconst 0, 1) := by decide +kernel
theorem dL_errors_132 : decode cL_errors 132 = .ok (.iconst 0, 1) := by decide +kernel
theorem dL_errors_133 : decode cL_errors 133 = .ok (.invokestatic 137, 3) := by decide +kernel
theorem dL_errors_136 : decode cL_errors 136 = .ok (.ldc2_w 17, 3) := by decide +kernel
theorem dL_errors_139 : decode cL_errors 139 = .ok (.lcmp, 1) := by decide +kernel
theorem dL_errors_140 : decode cL_errors 140 = .ok (.ifCond .ne 158, 3) := by decide +kernel
theorem dL_errors_143 : decode cL_errors 143 = .ok (.aload_n 0, 1) := by decide +kernel
theorem dL_errors_144 : decode cL_errors 144 = .ok (.iconst 0, 1) := by decide +kernel
theorem dL_errors_145 : decode cL_errors 145 = .ok (.iconst (-1), 1) := by decide +kernel
theorem dL_errors_146 : decode cL_errors 146 = .ok (.invokestatic 139, 3) := by decide +kernel
