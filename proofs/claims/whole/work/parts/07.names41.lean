theorem dL_about_16 : decode cL_about 16 = .ok (.ireturn, 1) := by decide +kernel
theorem dL_siteOf_0 : decode cL_siteOf 0 = .ok (.aload_n 3, 1) := by decide +kernel
theorem dL_siteOf_1 : decode cL_siteOf 1 = .ok (.iconst 0, 1) := by decide +kernel
theorem dL_siteOf_2 : decode cL_siteOf 2 = .ok (.aload_n 0, 1) := by decide +kernel
theorem dL_siteOf_3 : decode cL_siteOf 3 = .ok (.iload_n 1, 1) := by decide +kernel
theorem dL_siteOf_4 : decode cL_siteOf 4 = .ok (.iload_n 2, 1) := by decide +kernel
theorem dL_siteOf_5 : decode cL_siteOf 5 = .ok (.invokevirtual 24, 3) := by decide +kernel
theorem dL_siteOf_8 : decode cL_siteOf 8 = .ok (.i2l, 1) := by decide +kernel
theorem dL_siteOf_9 : decode cL_siteOf 9 = .ok (.lastore, 1) := by decide +kernel
theorem dL_siteOf_10 : decode cL_siteOf 10 = .ok (.goto 11, 3) := by decide +kernel
theorem dL_siteOf_13 : decode cL_siteOf 13 = .ok (.astore 4, 2) := by decide +kernel
theorem dL_siteOf_15 : decode cL_siteOf 15 = .ok (.iconst 1, 1) := by decide +kernel
theorem dL_siteOf_16 : decode cL_siteOf 16 = .ok (.ireturn, 1) := by decide +kernel
theorem dL_siteOf_17 : decode cL_siteOf 17 = .ok (.astore 4, 2) := by decide +kernel
theorem dL_siteOf_19 : decode cL_siteOf 19 = .ok (.iconst 2, 1) := by decide +kernel
theorem dL_siteOf_20 : decode cL_siteOf 20 = .ok (.ireturn, 1) := by decide +kernel
theorem dL_siteOf_21 : decode cL_siteOf 21 = .ok (.iconst 0, 1) := by decide +kernel
theorem dL_siteOf_22 : decode cL_siteOf 22 = .ok (.ireturn, 1) := by decide +kernel
theorem dL_since_0 : decode cL_since 0 = .ok (.aload_n 3, 1) := by decide +kernel
theorem dL_since_1 : decode cL_since 1 = .ok (.iconst 0, 1) := by decide +kernel
theorem dL_since_2 : decode cL_since 2 = .ok (.aload_n 0, 1) := by decide +kernel
theorem dL_since_3 : decode cL_since 3 = .ok (.iload_n 1, 1) := by decide +kernel
theorem dL_since_4 : decode cL_since 4 = .ok (.iload_n 2, 1) := by decide +kernel
theorem dL_since_5 : decode cL_since 5 = .ok (.invokevirtual 30, 3) := by decide +kernel
theorem dL_since_8 : decode cL_since 8 = .ok (.i2l, 1) := by decide +kernel
theorem dL_since_9 : decode cL_since 9 = .ok (.lastore, 1) := by decide +kernel
theorem dL_since_10 : decode cL_since 10 = .ok (.goto 7, 3) := by decide +kernel
theorem dL_since_13 : decode cL_since 13 = .ok (.astore 4, 2) := by decide +kernel
theorem dL_since_15 : decode cL_since 15 = .ok (.iconst 1, 1) := by decide +kernel
theorem dL_since_16 : decode cL_since 16 = .ok (.ireturn, 1) := by decide +kernel
theorem dL_since_17 : decode cL_since 17 = .ok (.iconst 0, 1) := by decide +kernel
theorem dL_since_18 : decode cL_since 18 = .ok (.ireturn, 1) := by decide +kernel
theorem dL_layerOf_0 : decode cL_layerOf 0 = .ok (.aload 4, 2) := by decide +kernel
theorem dL_layerOf_2 : decode cL_layerOf 2 = .ok (.iconst 0, 1) := by decide +kernel
theorem dL_layerOf_3 : decode cL_layerOf 3 = .ok (.aload_n 0, 1) := by decide +kernel
theorem dL_layerOf_4 : decode cL_layerOf 4 = .ok (.iload_n 1, 1) := by decide +kernel
theorem dL_layerOf_5 : decode cL_layerOf 5 = .ok (.iload_n 2, 1) := by decide +kernel
theorem dL_layerOf_6 : decode cL_layerOf 6 = .ok (.iload_n 3, 1) := by decide +kernel
theorem dL_layerOf_7 : decode cL_layerOf 7 = .ok (.invokevirtual 33, 3) := by decide +kernel
theorem dL_layerOf_10 : decode cL_layerOf 10 = .ok (.i2l, 1) := by decide +kernel
theorem dL_layerOf_11 : decode cL_layerOf 11 = .ok (.lastore, 1) := by decide +kernel
theorem dL_layerOf_12 : decode cL_layerOf 12 = .ok (.goto 11, 3) := by decide +kernel
theorem dL_layerOf_15 : decode cL_layerOf 15 = .ok (.astore 5, 2) := by decide +kernel
theorem dL_layerOf_17 : decode cL_layerOf 17 = .ok (.iconst 1, 1) := by decide +kernel
theorem dL_layerOf_18 : decode cL_layerOf 18 = .ok (.ireturn, 1) := by decide +kernel
theorem dL_layerOf_19 : decode cL_layerOf 19 = .ok (.astore 5, 2) := by decide +kernel
theorem dL_layerOf_21 : decode cL_layerOf 21 = .ok (.iconst 2, 1) := by decide +kernel
theorem dL_layerOf_22 : decode cL_layerOf 22 = .ok (.ireturn, 1) := by decide +kernel
theorem dL_layerOf_23 : decode cL_layerOf 23 = .ok (.iconst 0, 1) := by decide +kernel
theorem dL_layerOf_24 : decode cL_layerOf 24 = .ok (.ireturn, 1) := by decide +kernel
theorem dL_tubeOf_0 : decode cL_tubeOf 0 = .ok (.aload_n 3, 1) := by decide +kernel
theorem dL_tubeOf_1 : decode cL_tubeOf 1 = .ok (.iconst 0, 1) := by decide +kernel
theorem dL_tubeOf_2 : decode cL_tubeOf 2 = .ok (.aload_n 0, 1) := by decide +kernel
theorem dL_tubeOf_3 : decode cL_tubeOf 3 = .ok (.iload_n 1, 1) := by decide +kernel
theorem dL_tubeOf_4 : decode cL_tubeOf 4 = .ok (.iload_n 2, 1) := by decide +kernel
theorem dL_tubeOf_5 : decode cL_tubeOf 5 = .ok (.invokevirtual 37, 3) := by decide +kernel
theorem dL_tubeOf_8 : decode cL_tubeOf 8 = .ok (.i2l, 1) := by decide +kernel
theorem dL_tubeOf_9 : decode cL_tubeOf 9 = .ok (.lastore, 1) := by decide +kernel
theorem dL_tubeOf_10 : decode cL_tubeOf 10 = .ok (.goto 11, 3) := by decide +kernel
theorem dL_tubeOf_13 : decode cL_tubeOf 13 = .ok (.astore 4, 2) := by decide +kernel
theorem dL_tubeOf_15 : decode cL_tubeOf 15 = .ok (.iconst 1, 1) := by decide +kernel
theorem dL_tubeOf_16 : decode cL_tubeOf 16 = .ok (.ireturn, 1) := by decide +kernel
theorem dL_tubeOf_17 : decode cL_tubeOf 17 = .ok (.astore 4, 2) := by decide +kernel
theorem dL_tubeOf_19 : decode cL_tubeOf 19 = .ok (.iconst 2, 1) := by decide +kernel
theorem dL_tubeOf_20 : decode cL_tubeOf 20 = .ok (.ireturn, 1) := by decide +kernel
theorem dL_tubeOf_21 : decode cL_tubeOf 21 = .ok (.iconst 0, 1) := by decide +kernel
theorem dL_tubeOf_22 : decode cL_tubeOf 22 = .ok (.ireturn, 1) := by decide +kernel
theorem dL_pipeOf_0 : decode cL_pipeOf 0 = .ok (.aload_n 3, 1) := by decide +kernel
theorem dL_pipeOf_1 : decode cL_pipeOf 1 = .ok (.iconst 0, 1) := by decide +kernel
theorem dL_pipeOf_2 : decode cL_pipeOf 2 = .ok (.aload_n 0, 1) := by decide +kernel
theorem dL_pipeOf_3 : decode cL_pipeOf 3 = .ok (.iload_n 1, 1) := by decide +kernel
theorem dL_pipeOf_4 : decode cL_pipeOf 4 = .ok (.iload_n 2, 1) := by decide +kernel
theorem dL_pipeOf_5 : decode cL_pipeOf 5 = .ok (.invokevirtual 40, 3) := by decide +kernel
theorem dL_pipeOf_8 : decode cL_pipeOf 8 = .ok (.i2l, 1) := by decide +kernel
theorem dL_pipeOf_9 : decode cL_pipeOf 9 = .ok (.lastore, 1) := by decide +kernel
theorem dL_pipeOf_10 : decode cL_pipeOf 10 = .ok (.goto 11, 3) := by decide +kernel
theorem dL_pipeOf_13 : decode cL_pipeOf 13 = .ok (.astore 4, 2) := by decide +kernel
theorem dL_pipeOf_15 : decode cL_pipeOf 15 = .ok (.iconst 1, 1) := by decide +kernel
theorem dL_pipeOf_16 : decode cL_pipeOf 16 = .ok (.ireturn, 1) := by decide +kernel
theorem dL_pipeOf_17 : decode cL_pipeOf 17 = .ok (.astore 4, 2) := by decide +kernel
theorem dL_pipeOf_19 : decode cL_pipeOf 19 = .ok (.iconst 2, 1) := by decide +kernel
theorem dL_pipeOf_20 : decode cL_pipeOf 20 = .ok (.ireturn, 1) := by decide +kernel
theorem dL_pipeOf_21 : decode cL_pipeOf 21 = .ok (.iconst 0, 1) := by decide +kernel
theorem dL_pipeOf_22 : decode cL_pipeOf 22 = .ok (.ireturn, 1) := by decide +kernel
theorem dL_layers_0 : decode cL_layers 0 = .ok (.aload_n 3, 1) := by decide +kernel
theorem dL_layers_1 : decode cL_layers 1 = .ok (.iconst 0, 1) := by decide +kernel
theorem dL_layers_2 : decode cL_layers 2 = .ok (.aload_n 0, 1) := by decide +kernel
theorem dL_layers_3 : decode cL_layers 3 = .ok (.iload_n 1, 1) := by decide +kernel
theorem dL_layers_4 : decode cL_layers 4 = .ok (.iload_n 2, 1) := by decide +kernel
theorem dL_layers_5 : decode cL_layers 5 = .ok (.invokevirtual 43, 3) := by decide +kernel
theorem dL_layers_8 : decode cL_layers 8 = .ok (.i2l, 1) := by decide +kernel
theorem dL_layers_9 : decode cL_layers 9 = .ok (.lastore, 1) := by decide +kernel
theorem dL_layers_10 : decode cL_layers 10 = .ok (.goto 11, 3) := by decide +kernel
theorem dL_layers_13 : decode cL_layers 13 = .ok (.astore 4, 2) := by decide +kernel
theorem dL_layers_15 : decode cL_layers 15 = .ok (.iconst 1, 1) := by decide +kernel
theorem dL_layers_16 : decode cL_layers 16 = .ok (.ireturn, 1) := by decide +kernel
theorem dL_layers_17 : decode cL_layers 17 = .ok (.astore 4, 2) := by decide +kernel
theorem dL_layers_19 : decode cL_layers 19 = .ok (.iconst 2, 1) := by decide +kernel
theorem dL_layers_20 : decode cL_layers 20 = .ok (.ireturn, 1) := by decide +kernel
theorem dL_layers_21 : decode cL_layers 21 = .ok (.iconst 0, 1) := by decide +kernel
theorem dL_layers_22 : decode cL_layers 22 = .ok (.ireturn, 1) := by decide +kernel
theorem dL_oldest_0 : decode cL_oldest 0 = .ok (.aload_n 2, 1) := by decide +kernel
theorem dL_oldest_1 : decode cL_oldest 1 = .ok (.iconst 0, 1) := by decide +kernel
theorem dL_oldest_2 : decode cL_oldest 2 = .ok (.aload_n 0, 1) := by decide +kernel
theorem dL_oldest_3 : decode cL_oldest 3 = .ok (.iload_n 1, 1) := by decide +kernel
theorem dL_oldest_4 : decode cL_oldest 4 = .ok (.invokevirtual 46, 3) := by decide +kernel
theorem dL_oldest_7 : decode cL_oldest 7 = .ok (.i2l, 1) := by decide +kernel
theorem dL_oldest_8 : decode cL_oldest 8 = .ok (.lastore, 1) := by decide +kernel
theorem dL_oldest_9 : decode cL_oldest 9 = .ok (.goto 6, 3) := by decide +kernel
theorem dL_oldest_12 : decode cL_oldest 12 = .ok (.astore_n 3, 1) := by decide +kernel
theorem dL_oldest_13 : decode cL_oldest 13 = .ok (.iconst 1, 1) := by decide +kernel
theorem dL_oldest_14 : decode cL_oldest 14 = .ok (.ireturn, 1) := by decide +kernel
theorem dL_oldest_15 : decode cL_oldest 15 = .ok (.iconst 0, 1) := by decide +kernel
theorem dL_oldest_16 : decode cL_oldest 16 = .ok (.ireturn, 1) := by decide +kernel
theorem dL_site_0 : decode cL_site 0 = .ok (.aload_n 1, 1) := by decide +kernel
theorem dL_site_1 : decode cL_site 1 = .ok (.iconst 0, 1) := by decide +kernel
theorem dL_site_2 : decode cL_site 2 = .ok (.aload_n 0, 1) := by decide +kernel
theorem dL_site_3 : decode cL_site 3 = .ok (.invokevirtual 49, 3) := by decide +kernel
theorem dL_site_6 : decode cL_site 6 = .ok (.i2l, 1) := by decide +kernel
theorem dL_site_7 : decode cL_site 7 = .ok (.lastore, 1) := by decide +kernel
theorem dL_site_8 : decode cL_site 8 = .ok (.goto 6, 3) := by decide +kernel
theorem dL_site_11 : decode cL_site 11 = .ok (.astore_n 2, 1) := by decide +kernel
theorem dL_site_12 : decode cL_site 12 = .ok (.iconst 1, 1) := by decide +kernel
theorem dL_site_13 : decode cL_site 13 = .ok (.ireturn, 1) := by decide +kernel
theorem dL_site_14 : decode cL_site 14 = .ok (.iconst 0, 1) := by decide +kernel
theorem dL_site_15 : decode cL_site 15 = .ok (.ireturn, 1) := by decide +kernel
theorem dL_tube_0 : decode cL_tube 0 = .ok (.aload_n 3, 1) := by decide +kernel
theorem dL_tube_1 : decode cL_tube 1 = .ok (.iconst 0, 1) := by decide +kernel
theorem dL_tube_2 : decode cL_tube 2 = .ok (.aload_n 0, 1) := by decide +kernel
theorem dL_tube_3 : decode cL_tube 3 = .ok (.iload_n 1, 1) := by decide +kernel
theorem dL_tube_4 : decode cL_tube 4 = .ok (.iload_n 2, 1) := by decide +kernel
theorem dL_tube_5 : decode cL_tube 5 = .ok (.invokevirtual 52, 3) := by decide +kernel
theorem dL_tube_8 : decode cL_tube 8 = .ok (.i2l, 1) := by decide +kernel
theorem dL_tube_9 : decode cL_tube 9 = .ok (.lastore, 1) := by decide +kernel
theorem dL_tube_10 : decode cL_tube 10 = .ok (.goto 15, 3) := by decide +kernel
theorem dL_tube_13 : decode cL_tube 13 = .ok (.astore 4, 2) := by decide +kernel
theorem dL_tube_15 : decode cL_tube 15 = .ok (.iconst 1, 1) := by decide +kernel
theorem dL_tube_16 : decode cL_tube 16 = .ok (.ireturn, 1) := by decide +kernel
theorem dL_tube_17 : decode cL_tube 17 = .ok (.astore 4, 2) := by decide +kernel
theorem dL_tube_19 : decode cL_tube 19 = .ok (.iconst 2, 1) := by decide +kernel
theorem dL_tube_20 : decode cL_tube 20 = .ok (.ireturn, 1) := by decide +kernel
theorem dL_tube_21 : decode cL_tube 21 = .ok (.astore 4, 2) := by decide +kernel
theorem dL_tube_23 : decode cL_tube 23 = .ok (.iconst 3, 1) := by decide +kernel
theorem dL_tube_24 : decode cL_tube 24 = .ok (.ireturn, 1) := by decide +kernel
theorem dL_tube_25 : decode cL_tube 25 = .ok (.iconst 0, 1) := by decide +kernel
theorem dL_tube_26 : decode cL_tube 26 = .ok (.ireturn, 1) := by decide +kernel
theorem dL_pipe_0 : decode cL_pipe 0 = .ok (.aload_n 3, 1) := by decide +kernel
theorem dL_pipe_1 : decode cL_pipe 1 = .ok (.iconst 0, 1) := by decide +kernel
theorem dL_pipe_2 : decode cL_pipe 2 = .ok (.aload_n 0, 1) := by decide +kernel
theorem dL_pipe_3 : decode cL_pipe 3 = .ok (.iload_n 1, 1) := by decide +kernel
theorem dL_pipe_4 : decode cL_pipe 4 = .ok (.iload_n 2, 1) := by decide +kernel
theorem dL_pipe_5 : decode cL_pipe 5 = .ok (.invokevirtual 55, 3) := by decide +kernel
theorem dL_pipe_8 : decode cL_pipe 8 = .ok (.i2l, 1) := by decide +kernel
theorem dL_pipe_9 : decode cL_pipe 9 = .ok (.lastore, 1) := by decide +kernel
theorem dL_pipe_10 : decode cL_pipe 10 = .ok (.goto 11, 3) := by decide +kernel
theorem dL_pipe_13 : decode cL_pipe 13 = .ok (.astore 4, 2) := by decide +kernel
theorem dL_pipe_15 : decode cL_pipe 15 = .ok (.iconst 1, 1) := by decide +kernel
theorem dL_pipe_16 : decode cL_pipe 16 = .ok (.ireturn, 1) := by decide +kernel
theorem dL_pipe_17 : decode cL_pipe 17 = .ok (.astore 4, 2) := by decide +kernel
theorem dL_pipe_19 : decode cL_pipe 19 = .ok (.iconst 2, 1) := by decide +kernel
theorem dL_pipe_20 : decode cL_pipe 20 = .ok (.ireturn, 1) := by decide +kernel
theorem dL_pipe_21 : decode cL_pipe 21 = .ok (.iconst 0, 1) := by decide +kernel
theorem dL_pipe_22 : decode cL_pipe 22 = .ok (.ireturn, 1) := by decide +kernel
theorem dL_fence_0 : decode cL_fence 0 = .ok (.aload_n 3, 1) := by decide +kernel
theorem dL_fence_1 : decode cL_fence 1 = .ok (.iconst 0, 1) := by decide +kernel
theorem dL_fence_2 : decode cL_fence 2 = .ok (.aload_n 0, 1) := by decide +kernel
theorem dL_fence_3 : decode cL_fence 3 = .ok (.iload_n 1, 1) := by decide +kernel
theorem dL_fence_4 : decode cL_fence 4 = .ok (.iload_n 2, 1) := by decide +kernel
theorem dL_fence_5 : decode cL_fence 5 = .ok (.invokevirtual 58, 3) := by decide +kernel
theorem dL_fence_8 : decode cL_fence 8 = .ok (.i2l, 1) := by decide +kernel
theorem dL_fence_9 : decode cL_fence 9 = .ok (.lastore, 1) := by decide +kernel
theorem dL_fence_10 : decode cL_fence 10 = .ok (.goto 11, 3) := by decide +kernel
theorem dL_fence_13 : decode cL_fence 13 = .ok (.astore 4, 2) := by decide +kernel
theorem dL_fence_15 : decode cL_fence 15 = .ok (.iconst 1, 1) := by decide +kernel
theorem dL_fence_16 : decode cL_fence 16 = .ok (.ireturn, 1) := by decide +kernel
theorem dL_fence_17 : decode cL_fence 17 = .ok (.astore 4, 2) := by decide +kernel
theorem dL_fence_19 : decode cL_fence 19 = .ok (.iconst 2, 1) := by decide +kernel
theorem dL_fence_20 : decode cL_fence 20 = .ok (.ireturn, 1) := by decide +kernel
theorem dL_fence_21 : decode cL_fence 21 = .ok (.iconst 0, 1) := by decide +kernel
theorem dL_fence_22 : decode cL_fence 22 = .ok (.ireturn, 1) := by decide +kernel
theorem dL_shovel_0 : decode cL_shovel 0 = .ok (.aload_n 2, 1) := by decide +kernel
theorem dL_shovel_1 : decode cL_shovel 1 = .ok (.iconst 0, 1) := by decide +kernel
theorem dL_shovel_2 : decode cL_shovel 2 = .ok (.aload_n 0, 1) := by decide +kernel
theorem dL_shovel_3 : decode cL_shovel 3 = .ok (.iload_n 1, 1) := by decide +kernel
theorem dL_shovel_4 : decode cL_shovel 4 = .ok (.invokevirtual 61, 3) := by decide +kernel
theorem dL_shovel_7 : decode cL_shovel 7 = .ok (.i2l, 1) := by decide +kernel
theorem dL_shovel_8 : decode cL_shovel 8 = .ok (.lastore, 1) := by decide +kernel
theorem dL_shovel_9 : decode cL_shovel 9 = .ok (.goto 6, 3) := by decide +kernel
theorem dL_shovel_12 : decode cL_shovel 12 = .ok (.astore_n 3, 1) := by decide +kernel
theorem dL_shovel_13 : decode cL_shovel 13 = .ok (.iconst 1, 1) := by decide +kernel
theorem dL_shovel_14 : decode cL_shovel 14 = .ok (.ireturn, 1) := by decide +kernel
theorem dL_shovel_15 : decode cL_shovel 15 = .ok (.iconst 0, 1) := by decide +kernel
theorem dL_shovel_16 : decode cL_shovel 16 = .ok (.ireturn, 1) := by decide +kernel
theorem dL_days_0 : decode cL_days 0 = .ok (.aload 4, 2) := by decide +kernel
theorem dL_days_2 : decode cL_days 2 = .ok (.iconst 0, 1) := by decide +kernel
theorem dL_days_3 : decode cL_days 3 = .ok (.aload_n 0, 1) := by decide +kernel
theorem dL_days_4 : decode cL_days 4 = .ok (.iload_n 1, 1) := by decide +kernel
theorem dL_days_5 : decode cL_days 5 = .ok (.iload_n 2, 1) := by decide +kernel
theorem dL_days_6 : decode cL_days 6 = .ok (.iload_n 3, 1) := by decide +kernel
theorem dL_days_7 : decode cL_days 7 = .ok (.invokevirtual 64, 3) := by decide +kernel
theorem dL_days_10 : decode cL_days 10 = .ok (.i2l, 1) := by decide +kernel
theorem dL_days_11 : decode cL_days 11 = .ok (.lastore, 1) := by decide +kernel
theorem dL_days_12 : decode cL_days 12 = .ok (.goto 11, 3) := by decide +kernel
theorem dL_days_15 : decode cL_days 15 = .ok (.astore 5, 2) := by decide +kernel
theorem dL_days_17 : decode cL_days 17 = .ok (.iconst 1, 1) := by decide +kernel
theorem dL_days_18 : decode cL_days 18 = .ok (.ireturn, 1) := by decide +kernel
theorem dL_days_19 : decode cL_days 19 = .ok (.astore 5, 2) := by decide +kernel
theorem dL_days_21 : decode cL_days 21 = .ok (.iconst 2, 1) := by decide +kernel
theorem dL_days_22 : decode cL_days 22 = .ok (.ireturn, 1) := by decide +kernel
theorem dL_days_23 : decode cL_days 23 = .ok (.iconst 0, 1) := by decide +kernel
theorem dL_days_24 : decode cL_days 24 = .ok (.ireturn, 1) := by decide +kernel
theorem dL_set_0 : decode cL_set 0 = .ok (.aload_n 3, 1) := by decide +kernel
theorem dL_set_1 : decode cL_set 1 = .ok (.iconst 0, 1) := by decide +kernel
theorem dL_set_2 : decode cL_set 2 = .ok (.aload_n 0, 1) := by decide +kernel
theorem dL_set_3 : decode cL_set 3 = .ok (.iload_n 1, 1) := by decide +kernel
theorem dL_set_4 : decode cL_set 4 = .ok (.iload_n 2, 1) := by decide +kernel
theorem dL_set_5 : decode cL_set 5 = .ok (.invokevirtual 67, 3) := by decide +kernel
theorem dL_set_8 : decode cL_set 8 = .ok (.i2l, 1) := by decide +kernel
theorem dL_set_9 : decode cL_set 9 = .ok (.lastore, 1) := by decide +kernel
theorem dL_set_10 : decode cL_set 10 = .ok (.goto 7, 3) := by decide +kernel
theorem dL_set_13 : decode cL_set 13 = .ok (.astore 4, 2) := by decide +kernel
theorem dL_set_15 : decode cL_set 15 = .ok (.iconst 1, 1) := by decide +kernel
theorem dL_set_16 : decode cL_set 16 = .ok (.ireturn, 1) := by decide +kernel
theorem dL_set_17 : decode cL_set 17 = .ok (.iconst 0, 1) := by decide +kernel
theorem dL_set_18 : decode cL_set 18 = .ok (.ireturn, 1) := by decide +kernel
theorem dL_undo_0 : decode cL_undo 0 = .ok (.aload_n 1, 1) := by decide +kernel
theorem dL_undo_1 : decode cL_undo 1 = .ok (.iconst 0, 1) := by decide +kernel
theorem dL_undo_2 : decode cL_undo 2 = .ok (.aload_n 0, 1) := by decide +kernel
theorem dL_undo_3 : decode cL_undo 3 = .ok (.invokevirtual 70, 3) := by decide +kernel
theorem dL_undo_6 : decode cL_undo 6 = .ok (.i2l, 1) := by decide +kernel
theorem dL_undo_7 : decode cL_undo 7 = .ok (.lastore, 1) := by decide +kernel
theorem dL_undo_8 : decode cL_undo 8 = .ok (.goto 6, 3) := by decide +kernel
theorem dL_undo_11 : decode cL_undo 11 = .ok (.astore_n 2, 1) := by decide +kernel
theorem dL_undo_12 : decode cL_undo 12 = .ok (.iconst 1, 1) := by decide +kernel
theorem dL_undo_13 : decode cL_undo 13 = .ok (.ireturn, 1) := by decide +kernel
theorem dL_undo_14 : decode cL_undo 14 = .ok (.iconst 0, 1) := by decide +kernel
theorem dL_undo_15 : decode cL_undo 15 = .ok (.ireturn, 1) := by decide +kernel
theorem dL_goneIn_0 : decode cL_goneIn 0 = .ok (.aload_n 3, 1) := by decide +kernel
theorem dL_goneIn_1 : decode cL_goneIn 1 = .ok (.iconst 0, 1) := by decide +kernel
theorem dL_goneIn_2 : decode cL_goneIn 2 = .ok (.aload_n 0, 1) := by decide +kernel
theorem dL_goneIn_3 : decode cL_goneIn 3 = .ok (.iload_n 1, 1) := by decide +kernel
theorem dL_goneIn_4 : decode cL_goneIn 4 = .ok (.iload_n 2, 1) := by decide +kernel
theorem dL_goneIn_5 : decode cL_goneIn 5 = .ok (.invokevirtual 73, 3) := by decide +kernel
theorem dL_goneIn_8 : decode cL_goneIn 8 = .ok (.i2l, 1) := by decide +kernel
theorem dL_goneIn_9 : decode cL_goneIn 9 = .ok (.lastore, 1) := by decide +kernel
theorem dL_goneIn_10 : decode cL_goneIn 10 = .ok (.goto 11, 3) := by decide +kernel
theorem dL_goneIn_13 : decode cL_goneIn 13 = .ok (.astore 4, 2) := by decide +kernel
theorem dL_goneIn_15 : decode cL_goneIn 15 = .ok (.iconst 1, 1) := by decide +kernel
theorem dL_goneIn_16 : decode cL_goneIn 16 = .ok (.ireturn, 1) := by decide +kernel
theorem dL_goneIn_17 : decode cL_goneIn 17 = .ok (.astore 4, 2) := by decide +kernel
theorem dL_goneIn_19 : decode cL_goneIn 19 = .ok (.iconst 2, 1) := by decide +kernel
theorem dL_goneIn_20 : decode cL_goneIn 20 = .ok (.ireturn, 1) := by decide +kernel
theorem dL_goneIn_21 : decode cL_goneIn 21 = .ok (.iconst 0, 1) := by decide +kernel
theorem dL_goneIn_22 : decode cL_goneIn 22 = .ok (.ireturn, 1) := by decide +kernel
theorem dL_reachedIn_0 : decode cL_reachedIn 0 = .ok (.aload 4, 2) := by decide +kernel
theorem dL_reachedIn_2 : decode cL_reachedIn 2 = .ok (.iconst 0, 1) := by decide +kernel
theorem dL_reachedIn_3 : decode cL_reachedIn 3 = .ok (.aload_n 0, 1) := by decide +kernel
theorem dL_reachedIn_4 : decode cL_reachedIn 4 = .ok (.iload_n 1, 1) := by decide +kernel
theorem dL_reachedIn_5 : decode cL_reachedIn 5 = .ok (.iload_n 2, 1) := by decide +kernel
theorem dL_reachedIn_6 : decode cL_reachedIn 6 = .ok (.iload_n 3, 1) := by decide +kernel
theorem dL_reachedIn_7 : decode cL_reachedIn 7 = .ok (.invokevirtual 76, 3) := by decide +kernel
theorem dL_reachedIn_10 : decode cL_reachedIn 10 = .ok (.i2l, 1) := by decide +kernel
theorem dL_reachedIn_11 : decode cL_reachedIn 11 = .ok (.lastore, 1) := by decide +kernel
theorem dL_reachedIn_12 : decode cL_reachedIn 12 = .ok (.goto 11, 3) := by decide +kernel
theorem dL_reachedIn_15 : decode cL_reachedIn 15 = .ok (.astore 5, 2) := by decide +kernel
theorem dL_reachedIn_17 : decode cL_reachedIn 17 = .ok (.iconst 1, 1) := by decide +kernel
theorem dL_reachedIn_18 : decode cL_reachedIn 18 = .ok (.ireturn, 1) := by decide +kernel
theorem dL_reachedIn_19 : decode cL_reachedIn 19 = .ok (.astore 5, 2) := by decide +kernel
theorem dL_reachedIn_21 : decode cL_reachedIn 21 = .ok (.iconst 2, 1) := by decide +kernel
theorem dL_reachedIn_22 : decode cL_reachedIn 22 = .ok (.ireturn, 1) := by decide +kernel
theorem dL_reachedIn_23 : decode cL_reachedIn 23 = .ok (.iconst 0, 1) := by decide +kernel
theorem dL_reachedIn_24 : decode cL_reachedIn 24 = .ok (.ireturn, 1) := by decide +kernel
theorem dL_bestFence_0 : decode cL_bestFence 0 = .ok (.aload 5, 2) := by decide +kernel
theorem dL_bestFence_2 : decode cL_bestFence 2 = .ok (.iconst 0, 1) := by decide +kernel
theorem dL_bestFence_3 : decode cL_bestFence 3 = .ok (.aload_n 0, 1) := by decide +kernel
theorem dL_bestFence_4 : decode cL_bestFence 4 = .ok (.iload_n 1, 1) := by decide +kernel
theorem dL_bestFence_5 : decode cL_bestFence 5 = .ok (.iload_n 2, 1) := by decide +kernel
theorem dL_bestFence_6 : decode cL_bestFence 6 = .ok (.iload_n 3, 1) := by decide +kernel
theorem dL_bestFence_7 : decode cL_bestFence 7 = .ok (.iload 4, 2) := by decide +kernel
theorem dL_bestFence_9 : decode cL_bestFence 9 = .ok (.invokevirtual 79, 3) := by decide +kernel
theorem dL_bestFence_12 : decode cL_bestFence 12 = .ok (.i2l, 1) := by decide +kernel
theorem dL_bestFence_13 : decode cL_bestFence 13 = .ok (.lastore, 1) := by decide +kernel
theorem dL_bestFence_14 : decode cL_bestFence 14 = .ok (.goto 11, 3) := by decide +kernel
theorem dL_bestFence_17 : decode cL_bestFence 17 = .ok (.astore 6, 2) := by decide +kernel
theorem dL_bestFence_19 : decode cL_bestFence 19 = .ok (.iconst 1, 1) := by decide +kernel
theorem dL_bestFence_20 : decode cL_bestFence 20 = .ok (.ireturn, 1) := by decide +kernel
theorem dL_bestFence_21 : decode cL_bestFence 21 = .ok (.astore 6, 2) := by decide +kernel
theorem dL_bestFence_23 : decode cL_bestFence 23 = .ok (.iconst 2, 1) := by decide +kernel
theorem dL_bestFence_24 : decode cL_bestFence 24 = .ok (.ireturn, 1) := by decide +kernel
theorem dL_bestFence_25 : decode cL_bestFence 25 = .ok (.iconst 0, 1) := by decide +kernel
theorem dL_bestFence_26 : decode cL_bestFence 26 = .ok (.ireturn, 1) := by decide +kernel
theorem dL_heaveIn_0 : decode cL_heaveIn 0 = .ok (.aload 4, 2) := by decide +kernel
theorem dL_heaveIn_2 : decode cL_heaveIn 2 = .ok (.iconst 0, 1) := by decide +kernel
theorem dL_heaveIn_3 : decode cL_heaveIn 3 = .ok (.aload_n 0, 1) := by decide +kernel
theorem dL_heaveIn_4 : decode cL_heaveIn 4 = .ok (.iload_n 1, 1) := by decide +kernel
theorem dL_heaveIn_5 : decode cL_heaveIn 5 = .ok (.iload_n 2, 1) := by decide +kernel
theorem dL_heaveIn_6 : decode cL_heaveIn 6 = .ok (.iload_n 3, 1) := by decide +kernel
theorem dL_heaveIn_7 : decode cL_heaveIn 7 = .ok (.invokevirtual 83, 3) := by decide +kernel
theorem dL_heaveIn_10 : decode cL_heaveIn 10 = .ok (.i2l, 1) := by decide +kernel
theorem dL_heaveIn_11 : decode cL_heaveIn 11 = .ok (.lastore, 1) := by decide +kernel
theorem dL_heaveIn_12 : decode cL_heaveIn 12 = .ok (.goto 11, 3) := by decide +kernel
theorem dL_heaveIn_15 : decode cL_heaveIn 15 = .ok (.astore 5, 2) := by decide +kernel
theorem dL_heaveIn_17 : decode cL_heaveIn 17 = .ok (.iconst 1, 1) := by decide +kernel
theorem dL_heaveIn_18 : decode cL_heaveIn 18 = .ok (.ireturn, 1) := by decide +kernel
theorem dL_heaveIn_19 : decode cL_heaveIn 19 = .ok (.astore 5, 2) := by decide +kernel
theorem dL_heaveIn_21 : decode cL_heaveIn 21 = .ok (.iconst 2, 1) := by decide +kernel
theorem dL_heaveIn_22 : decode cL_heaveIn 22 = .ok (.ireturn, 1) := by decide +kernel
theorem dL_heaveIn_23 : decode cL_heaveIn 23 = .ok (.iconst 0, 1) := by decide +kernel
theorem dL_heaveIn_24 : decode cL_heaveIn 24 = .ok (.ireturn, 1) := by decide +kernel
theorem dL_runScript_0 : decode cL_runScript 0 = .ok (.aload 4, 2) := by decide +kernel
theorem dL_runScript_2 : decode cL_runScript 2 = .ok (.iconst 0, 1) := by decide +kernel
theorem dL_runScript_3 : decode cL_runScript 3 = .ok (.aload_n 0, 1) := by decide +kernel
theorem dL_runScript_4 : decode cL_runScript 4 = .ok (.iload_n 1, 1) := by decide +kernel
theorem dL_runScript_5 : decode cL_runScript 5 = .ok (.lload_n 2, 1) := by decide +kernel
theorem dL_runScript_6 : decode cL_runScript 6 = .ok (.invokevirtual 86, 3) := by decide +kernel
theorem dL_runScript_9 : decode cL_runScript 9 = .ok (.i2l, 1) := by decide +kernel
theorem dL_runScript_10 : decode cL_runScript 10 = .ok (.lastore, 1) := by decide +kernel
theorem dL_runScript_11 : decode cL_runScript 11 = .ok (.goto 7, 3) := by decide +kernel
theorem dL_runScript_14 : decode cL_runScript 14 = .ok (.astore 5, 2) := by decide +kernel
theorem dL_runScript_16 : decode cL_runScript 16 = .ok (.iconst 1, 1) := by decide +kernel
theorem dL_runScript_17 : decode cL_runScript 17 = .ok (.ireturn, 1) := by decide +kernel
theorem dL_runScript_18 : decode cL_runScript 18 = .ok (.iconst 0, 1) := by decide +kernel
theorem dL_runScript_19 : decode cL_runScript 19 = .ok (.ireturn, 1) := by decide +kernel
theorem dL_simulate_0 : decode cL_simulate 0 = .ok (.aload 4, 2) := by decide +kernel
theorem dL_simulate_2 : decode cL_simulate 2 = .ok (.iconst 0, 1) := by decide +kernel
theorem dL_simulate_3 : decode cL_simulate 3 = .ok (.aload_n 0, 1) := by decide +kernel
theorem dL_simulate_4 : decode cL_simulate 4 = .ok (.lload_n 1, 1) := by decide +kernel
theorem dL_simulate_5 : decode cL_simulate 5 = .ok (.iload_n 3, 1) := by decide +kernel
theorem dL_simulate_6 : decode cL_simulate 6 = .ok (.invokevirtual 90, 3) := by decide +kernel
theorem dL_simulate_9 : decode cL_simulate 9 = .ok (.i2l, 1) := by decide +kernel
theorem dL_simulate_10 : decode cL_simulate 10 = .ok (.lastore, 1) := by decide +kernel
theorem dL_simulate_11 : decode cL_simulate 11 = .ok (.goto 7, 3) := by decide +kernel
theorem dL_simulate_14 : decode cL_simulate 14 = .ok (.astore 5, 2) := by decide +kernel
theorem dL_simulate_16 : decode cL_simulate 16 = .ok (.iconst 1, 1) := by decide +kernel
theorem dL_simulate_17 : decode cL_simulate 17 = .ok (.ireturn, 1) := by decide +kernel
theorem dL_simulate_18 : decode cL_simulate 18 = .ok (.iconst 0, 1) := by decide +kernel
theorem dL_simulate_19 : decode cL_simulate 19 = .ok (.ireturn, 1) := by decide +kernel
theorem dL_save_0 : decode cL_save 0 = .ok (.aload_n 2, 1) := by decide +kernel
theorem dL_save_1 : decode cL_save 1 = .ok (.iconst 0, 1) := by decide +kernel
theorem dL_save_2 : decode cL_save 2 = .ok (.aload_n 0, 1) := by decide +kernel
theorem dL_save_3 : decode cL_save 3 = .ok (.iload_n 1, 1) := by decide +kernel
theorem dL_save_4 : decode cL_save 4 = .ok (.invokevirtual 94, 3) := by decide +kernel
theorem dL_save_7 : decode cL_save 7 = .ok (.i2l, 1) := by decide +kernel
theorem dL_save_8 : decode cL_save 8 = .ok (.lastore, 1) := by decide +kernel
theorem dL_save_9 : decode cL_save 9 = .ok (.goto 6, 3) := by decide +kernel
theorem dL_save_12 : decode cL_save 12 = .ok (.astore_n 3, 1) := by decide +kernel
theorem dL_save_13 : decode cL_save 13 = .ok (.iconst 1, 1) := by decide +kernel
theorem dL_save_14 : decode cL_save 14 = .ok (.ireturn, 1) := by decide +kernel
theorem dL_save_15 : decode cL_save 15 = .ok (.iconst 0, 1) := by decide +kernel
theorem dL_save_16 : decode cL_save 16 = .ok (.ireturn, 1) := by decide +kernel
theorem dL_restore_0 : decode cL_restore 0 = .ok (.aload_n 2, 1) := by decide +kernel
theorem dL_restore_1 : decode cL_restore 1 = .ok (.iconst 0, 1) := by decide +kernel
theorem dL_restore_2 : decode cL_restore 2 = .ok (.aload_n 0, 1) := by decide +kernel
theorem dL_restore_3 : decode cL_restore 3 = .ok (.iload_n 1, 1) := by decide +kernel
theorem dL_restore_4 : decode cL_restore 4 = .ok (.invokevirtual 97, 3) := by decide +kernel
theorem dL_restore_7 : decode cL_restore 7 = .ok (.i2l, 1) := by decide +kernel
theorem dL_restore_8 : decode cL_restore 8 = .ok (.lastore, 1) := by decide +kernel
theorem dL_restore_9 : decode cL_restore 9 = .ok (.goto 9, 3) := by decide +kernel
theorem dL_restore_12 : decode cL_restore 12 = .ok (.astore_n 3, 1) := by decide +kernel
theorem dL_restore_13 : decode cL_restore 13 = .ok (.iconst 1, 1) := by decide +kernel
theorem dL_restore_14 : decode cL_restore 14 = .ok (.ireturn, 1) := by decide +kernel
theorem dL_restore_15 : decode cL_restore 15 = .ok (.astore_n 3, 1) := by decide +kernel
theorem dL_restore_16 : decode cL_restore 16 = .ok (.iconst 2, 1) := by decide +kernel
theorem dL_restore_17 : decode cL_restore 17 = .ok (.ireturn, 1) := by decide +kernel
theorem dL_restore_18 : decode cL_restore 18 = .ok (.iconst 0, 1) := by decide +kernel
theorem dL_restore_19 : decode cL_restore 19 = .ok (.ireturn, 1) := by decide +kernel
theorem dL_law_0 : decode cL_law 0 = .ok (.new 8, 3) := by decide +kernel
