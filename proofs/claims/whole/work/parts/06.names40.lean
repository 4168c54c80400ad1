theorem dX5_runScript_74 : decode cX5_runScript 74 = .ok (.invokestatic 266, 3) := by decide +kernel
theorem dX5_runScript_77 : decode cX5_runScript 77 = .ok (.ldiv, 1) := by decide +kernel
theorem dX5_runScript_78 : decode cX5_runScript 78 = .ok (.ldc2_w 270, 3) := by decide +kernel
theorem dX5_runScript_81 : decode cX5_runScript 81 = .ok (.lrem, 1) := by decide +kernel
theorem dX5_runScript_82 : decode cX5_runScript 82 = .ok (.l2i, 1) := by decide +kernel
theorem dX5_runScript_83 : decode cX5_runScript 83 = .ok (.invokevirtual 272, 3) := by decide +kernel
theorem dX5_runScript_86 : decode cX5_runScript 86 = .ok (.ifCond .ne 6, 3) := by decide +kernel
theorem dX5_runScript_89 : decode cX5_runScript 89 = .ok (.iload 4, 2) := by decide +kernel
theorem dX5_runScript_91 : decode cX5_runScript 91 = .ok (.ireturn, 1) := by decide +kernel
theorem dX5_runScript_92 : decode cX5_runScript 92 = .ok (.iinc 4 1, 3) := by decide +kernel
theorem dX5_runScript_95 : decode cX5_runScript 95 = .ok (.goto (-38), 3) := by decide +kernel
theorem dX5_runScript_98 : decode cX5_runScript 98 = .ok (.iconst (-1), 1) := by decide +kernel
theorem dX5_runScript_99 : decode cX5_runScript 99 = .ok (.ireturn, 1) := by decide +kernel
set_option maxRecDepth 20000 in
theorem ggX5_runTube_X5_isSite : GoodIn wsX5_runTube wsX5_isSite := goodIn_r _ [5, 6, 7, 4, 8] (by decide +kernel) (by decide +kernel)
set_option maxRecDepth 20000 in
theorem gX5_runTube_X5_isSite : GoodIn wsX5_runTube (va_wsS RX5 166 yX5_isSite wsX5_isSite) := goodIn_app (goodIn_of _ (by decide +kernel)) ggX5_runTube_X5_isSite
set_option maxRecDepth 20000 in
theorem ggX5_runTube_X5_addTube : GoodIn wsX5_runTube wsX5_addTube := goodIn_r _ [11] (by decide +kernel) (by decide +kernel)
set_option maxRecDepth 20000 in
theorem gX5_runTube_X5_addTube : GoodIn wsX5_runTube (va_wsS RX5 169 yX5_addTube wsX5_addTube) := goodIn_app (goodIn_of _ (by decide +kernel)) ggX5_runTube_X5_addTube
theorem dX5_runTube_0 : decode cX5_runTube 0 = .ok (.aload_n 0, 1) := by decide +kernel
theorem dX5_runTube_1 : decode cX5_runTube 1 = .ok (.getfield 13, 3) := by decide +kernel
theorem dX5_runTube_4 : decode cX5_runTube 4 = .ok (.iload_n 1, 1) := by decide +kernel
theorem dX5_runTube_5 : decode cX5_runTube 5 = .ok (.invokestatic 166, 3) := by decide +kernel
theorem dX5_runTube_8 : decode cX5_runTube 8 = .ok (.ifCond .eq 32, 3) := by decide +kernel
theorem dX5_runTube_11 : decode cX5_runTube 11 = .ok (.aload_n 0, 1) := by decide +kernel
theorem dX5_runTube_12 : decode cX5_runTube 12 = .ok (.getfield 13, 3) := by decide +kernel
theorem dX5_runTube_15 : decode cX5_runTube 15 = .ok (.sipush 197, 3) := by decide +kernel
theorem dX5_runTube_18 : decode cX5_runTube 18 = .ok (.iaload, 1) := by decide +kernel
theorem dX5_runTube_19 : decode cX5_runTube 19 = .ok (.bipush 8, 2) := by decide +kernel
theorem dX5_runTube_21 : decode cX5_runTube 21 = .ok (.if_icmp .ge 19, 3) := by decide +kernel
theorem dX5_runTube_24 : decode cX5_runTube 24 = .ok (.aload_n 0, 1) := by decide +kernel
theorem dX5_runTube_25 : decode cX5_runTube 25 = .ok (.getfield 13, 3) := by decide +kernel
theorem dX5_runTube_28 : decode cX5_runTube 28 = .ok (.iload_n 1, 1) := by decide +kernel
theorem dX5_runTube_29 : decode cX5_runTube 29 = .ok (.iload_n 2, 1) := by decide +kernel
theorem dX5_runTube_30 : decode cX5_runTube 30 = .ok (.invokestatic 169, 3) := by decide +kernel
theorem dX5_runTube_33 : decode cX5_runTube 33 = .ok (.ifCond .lt 7, 3) := by decide +kernel
theorem dX5_runTube_36 : decode cX5_runTube 36 = .ok (.iconst 1, 1) := by decide +kernel
theorem dX5_runTube_37 : decode cX5_runTube 37 = .ok (.goto 4, 3) := by decide +kernel
theorem dX5_runTube_40 : decode cX5_runTube 40 = .ok (.iconst 0, 1) := by decide +kernel
theorem dX5_runTube_41 : decode cX5_runTube 41 = .ok (.ireturn, 1) := by decide +kernel
set_option maxRecDepth 20000 in
theorem ggX5_runPipe_X5_isSite : GoodIn wsX5_runPipe wsX5_isSite := goodIn_r _ [5, 6, 7, 4, 8] (by decide +kernel) (by decide +kernel)
set_option maxRecDepth 20000 in
theorem gX5_runPipe_X5_isSite : GoodIn wsX5_runPipe (va_wsS RX5 166 yX5_isSite wsX5_isSite) := goodIn_app (goodIn_of _ (by decide +kernel)) ggX5_runPipe_X5_isSite
set_option maxRecDepth 20000 in
theorem ggX5_runPipe_X5_canLay : GoodIn wsX5_runPipe wsX5_canLay := goodIn_r _ [11, 12, 13, 4, 14, 15, 16, 17] (by decide +kernel) (by decide +kernel)
set_option maxRecDepth 20000 in
theorem gX5_runPipe_X5_canLay : GoodIn wsX5_runPipe (va_wsS RX5 172 yX5_canLay wsX5_canLay) := goodIn_app (goodIn_of _ (by decide +kernel)) ggX5_runPipe_X5_canLay
set_option maxRecDepth 20000 in
theorem ggX5_runPipe_X5_addPipe : GoodIn wsX5_runPipe wsX5_addPipe := goodIn_r _ [20] (by decide +kernel) (by decide +kernel)
set_option maxRecDepth 20000 in
theorem gX5_runPipe_X5_addPipe : GoodIn wsX5_runPipe (va_wsS RX5 175 yX5_addPipe wsX5_addPipe) := goodIn_app (goodIn_of _ (by decide +kernel)) ggX5_runPipe_X5_addPipe
theorem dX5_runPipe_0 : decode cX5_runPipe 0 = .ok (.aload_n 0, 1) := by decide +kernel
theorem dX5_runPipe_1 : decode cX5_runPipe 1 = .ok (.getfield 13, 3) := by decide +kernel
theorem dX5_runPipe_4 : decode cX5_runPipe 4 = .ok (.iload_n 1, 1) := by decide +kernel
theorem dX5_runPipe_5 : decode cX5_runPipe 5 = .ok (.invokestatic 166, 3) := by decide +kernel
theorem dX5_runPipe_8 : decode cX5_runPipe 8 = .ok (.ifCond .eq 31, 3) := by decide +kernel
theorem dX5_runPipe_11 : decode cX5_runPipe 11 = .ok (.aload_n 0, 1) := by decide +kernel
theorem dX5_runPipe_12 : decode cX5_runPipe 12 = .ok (.getfield 13, 3) := by decide +kernel
theorem dX5_runPipe_15 : decode cX5_runPipe 15 = .ok (.iload_n 1, 1) := by decide +kernel
theorem dX5_runPipe_16 : decode cX5_runPipe 16 = .ok (.iload_n 2, 1) := by decide +kernel
theorem dX5_runPipe_17 : decode cX5_runPipe 17 = .ok (.invokestatic 172, 3) := by decide +kernel
theorem dX5_runPipe_20 : decode cX5_runPipe 20 = .ok (.ifCond .eq 19, 3) := by decide +kernel
theorem dX5_runPipe_23 : decode cX5_runPipe 23 = .ok (.aload_n 0, 1) := by decide +kernel
theorem dX5_runPipe_24 : decode cX5_runPipe 24 = .ok (.getfield 13, 3) := by decide +kernel
theorem dX5_runPipe_27 : decode cX5_runPipe 27 = .ok (.iload_n 1, 1) := by decide +kernel
theorem dX5_runPipe_28 : decode cX5_runPipe 28 = .ok (.iload_n 2, 1) := by decide +kernel
theorem dX5_runPipe_29 : decode cX5_runPipe 29 = .ok (.invokestatic 175, 3) := by decide +kernel
theorem dX5_runPipe_32 : decode cX5_runPipe 32 = .ok (.ifCond .lt 7, 3) := by decide +kernel
theorem dX5_runPipe_35 : decode cX5_runPipe 35 = .ok (.iconst 1, 1) := by decide +kernel
theorem dX5_runPipe_36 : decode cX5_runPipe 36 = .ok (.goto 4, 3) := by decide +kernel
theorem dX5_runPipe_39 : decode cX5_runPipe 39 = .ok (.iconst 0, 1) := by decide +kernel
theorem dX5_runPipe_40 : decode cX5_runPipe 40 = .ok (.ireturn, 1) := by decide +kernel
set_option maxRecDepth 20000 in
theorem ggX5_stir_X5_addSite : GoodIn wsX5_stir wsX5_addSite := goodIn_r _ [5] (by decide +kernel) (by decide +kernel)
set_option maxRecDepth 20000 in
theorem gX5_stir_X5_addSite : GoodIn wsX5_stir (va_wsS RX5 182 yX5_addSite wsX5_addSite) := goodIn_app (goodIn_of _ (by decide +kernel)) ggX5_stir_X5_addSite
set_option maxRecDepth 20000 in
theorem ggX5_stir_X5_runTube : GoodIn wsX5_stir wsX5_runTube := goodIn_r _ [9, 1, 10, 11, 4, 12, 13, 14, 15, 16, 17, 18, 108, 109, 110, 111, 112, 113, 114, 115, 116, 117, 118, 119, 120] (by decide +kernel) (by decide +kernel)
set_option maxRecDepth 20000 in
theorem gX5_stir_X5_runTube : GoodIn wsX5_stir (wsV RX5 275 RX5 yX5_runTube wsX5_runTube) := goodIn_app (goodIn_of _ (by decide +kernel)) ggX5_stir_X5_runTube
set_option maxRecDepth 20000 in
theorem ggX5_stir_X5_runPipe : GoodIn wsX5_stir wsX5_runPipe := goodIn_r _ [22, 1, 10, 11, 4, 12, 13, 14, 15, 23, 24, 25, 26, 27, 28, 29, 30, 31, 32, 33, 34, 108, 109, 110, 111, 112, 113, 114, 115, 116, 117, 118, 119, 120] (by decide +kernel) (by decide +kernel)
set_option maxRecDepth 20000 in
theorem gX5_stir_X5_runPipe : GoodIn wsX5_stir (wsV RX5 278 RX5 yX5_runPipe wsX5_runPipe) := goodIn_app (goodIn_of _ (by decide +kernel)) ggX5_stir_X5_runPipe
set_option maxRecDepth 20000 in
theorem ggX5_stir_X5_runFence : GoodIn wsX5_stir wsX5_runFence := goodIn_r _ [38, 1, 39, 10, 11, 4, 12, 13, 14, 15, 40, 41, 42, 108, 109, 110, 111, 112, 113, 114, 115, 116, 117, 118, 119, 120] (by decide +kernel) (by decide +kernel)
set_option maxRecDepth 20000 in
theorem gX5_stir_X5_runFence : GoodIn wsX5_stir (wsV RX5 257 RX5 yX5_runFence wsX5_runFence) := goodIn_app (goodIn_of _ (by decide +kernel)) ggX5_stir_X5_runFence
set_option maxRecDepth 20000 in
theorem ggX5_stir_X5_runShovel : GoodIn wsX5_stir wsX5_runShovel := goodIn_r _ [46, 1, 10, 11, 4, 12, 13, 14, 15, 40, 41, 42, 108, 109, 110, 111, 112, 113, 114, 115, 116, 117, 118, 119, 120] (by decide +kernel) (by decide +kernel)
set_option maxRecDepth 20000 in
theorem gX5_stir_X5_runShovel : GoodIn wsX5_stir (wsV RX5 260 RX5 yX5_runShovel wsX5_runShovel) := goodIn_app (goodIn_of _ (by decide +kernel)) ggX5_stir_X5_runShovel
set_option maxRecDepth 20000 in
theorem ggX5_stir_X5_runSet : GoodIn wsX5_stir wsX5_runSet := goodIn_r _ [50, 1, 51, 52, 4, 53, 54, 55, 56, 13, 14, 15, 40, 41, 42, 108, 109, 110, 111, 112, 113, 114, 115, 116, 117, 118, 119, 120] (by decide +kernel) (by decide +kernel)
set_option maxRecDepth 20000 in
theorem gX5_stir_X5_runSet : GoodIn wsX5_stir (wsV RX5 263 RX5 yX5_runSet wsX5_runSet) := goodIn_app (goodIn_of _ (by decide +kernel)) ggX5_stir_X5_runSet
set_option maxRecDepth 20000 in
theorem ggX5_stir_X5_beginWinter : GoodIn wsX5_stir wsX5_beginWinter := goodIn_r _ [59, 40, 41, 4, 42] (by decide +kernel) (by decide +kernel)
set_option maxRecDepth 20000 in
theorem gX5_stir_X5_beginWinter : GoodIn wsX5_stir (va_wsS RX5 191 yX5_beginWinter wsX5_beginWinter) := goodIn_app (goodIn_of _ (by decide +kernel)) ggX5_stir_X5_beginWinter
set_option maxRecDepth 20000 in
theorem ggX5_stir_X5_runDays : GoodIn wsX5_stir wsX5_runDays := goodIn_r _ [63, 1, 64, 65, 4, 66, 54, 67, 68, 69, 70, 71, 13, 14, 15, 72, 73, 74, 75, 76, 77, 78, 79, 80, 81, 82, 83, 84, 85, 86, 87, 88, 89, 90, 91, 92, 26, 27, 28, 29, 30, 31, 93, 94, 95, 96, 97, 98, 99, 100, 101, 102, 103, 104, 105, 106, 107, 108, 109, 110, 111, 112, 113, 114, 115, 116, 117, 118, 119, 120] (by decide +kernel) (by decide +kernel)
set_option maxRecDepth 20000 in
theorem gX5_stir_X5_runDays : GoodIn wsX5_stir (wsV RX5 254 RX5 yX5_runDays wsX5_runDays) := goodIn_app (goodIn_of _ (by decide +kernel)) ggX5_stir_X5_runDays
theorem dX5_stir_0 : decode cX5_stir 0 = .ok (.iload_n 1, 1) := by decide +kernel
theorem dX5_stir_1 : decode cX5_stir 1 = .ok (.bipush 16, 2) := by decide +kernel
theorem dX5_stir_3 : decode cX5_stir 3 = .ok (.idiv, 1) := by decide +kernel
theorem dX5_stir_4 : decode cX5_stir 4 = .ok (.istore_n 2, 1) := by decide +kernel
theorem dX5_stir_5 : decode cX5_stir 5 = .ok (.iload_n 1, 1) := by decide +kernel
theorem dX5_stir_6 : decode cX5_stir 6 = .ok (.bipush 16, 2) := by decide +kernel
theorem dX5_stir_8 : decode cX5_stir 8 = .ok (.irem, 1) := by decide +kernel
theorem dX5_stir_9 : decode cX5_stir 9 = .ok (.tableswitch 223 0 11 #[63, 94, 113, 130, 147, 158, 175, 194, 194, 194, 194, 194], 63) := by decide +kernel
theorem dX5_stir_72 : decode cX5_stir 72 = .ok (.aload_n 0, 1) := by decide +kernel
theorem dX5_stir_73 : decode cX5_stir 73 = .ok (.getfield 13, 3) := by decide +kernel
theorem dX5_stir_76 : decode cX5_stir 76 = .ok (.sipush 196, 3) := by decide +kernel
theorem dX5_stir_79 : decode cX5_stir 79 = .ok (.iaload, 1) := by decide +kernel
theorem dX5_stir_80 : decode cX5_stir 80 = .ok (.iconst 4, 1) := by decide +kernel
theorem dX5_stir_81 : decode cX5_stir 81 = .ok (.if_icmp .ge 17, 3) := by decide +kernel
theorem dX5_stir_84 : decode cX5_stir 84 = .ok (.aload_n 0, 1) := by decide +kernel
theorem dX5_stir_85 : decode cX5_stir 85 = .ok (.getfield 13, 3) := by decide +kernel
theorem dX5_stir_88 : decode cX5_stir 88 = .ok (.invokestatic 182, 3) := by decide +kernel
theorem dX5_stir_91 : decode cX5_stir 91 = .ok (.ifCond .lt 7, 3) := by decide +kernel
theorem dX5_stir_94 : decode cX5_stir 94 = .ok (.iconst 1, 1) := by decide +kernel
theorem dX5_stir_95 : decode cX5_stir 95 = .ok (.goto 4, 3) := by decide +kernel
theorem dX5_stir_98 : decode cX5_stir 98 = .ok (.iconst 0, 1) := by decide +kernel
theorem dX5_stir_99 : decode cX5_stir 99 = .ok (.istore_n 3, 1) := by decide +kernel
theorem dX5_stir_100 : decode cX5_stir 100 = .ok (.goto 150, 3) := by decide +kernel
theorem dX5_stir_103 : decode cX5_stir 103 = .ok (.aload_n 0, 1) := by decide +kernel
theorem dX5_stir_104 : decode cX5_stir 104 = .ok (.iload_n 2, 1) := by decide +kernel
theorem dX5_stir_105 : decode cX5_stir 105 = .ok (.iconst 4, 1) := by decide +kernel
theorem dX5_stir_106 : decode cX5_stir 106 = .ok (.irem, 1) := by decide +kernel
theorem dX5_stir_107 : decode cX5_stir 107 = .ok (.iconst 1, 1) := by decide +kernel
theorem dX5_stir_108 : decode cX5_stir 108 = .ok (.iload_n 2, 1) := by decide +kernel
theorem dX5_stir_109 : decode cX5_stir 109 = .ok (.iconst 4, 1) := by decide +kernel
theorem dX5_stir_110 : decode cX5_stir 110 = .ok (.idiv, 1) := by decide +kernel
theorem dX5_stir_111 : decode cX5_stir 111 = .ok (.bipush 30, 2) := by decide +kernel
theorem dX5_stir_113 : decode cX5_stir 113 = .ok (.irem, 1) := by decide +kernel
theorem dX5_stir_114 : decode cX5_stir 114 = .ok (.iadd, 1) := by decide +kernel
theorem dX5_stir_115 : decode cX5_stir 115 = .ok (.invokevirtual 275, 3) := by decide +kernel
theorem dX5_stir_118 : decode cX5_stir 118 = .ok (.istore_n 3, 1) := by decide +kernel
theorem dX5_stir_119 : decode cX5_stir 119 = .ok (.goto 131, 3) := by decide +kernel
theorem dX5_stir_122 : decode cX5_stir 122 = .ok (.aload_n 0, 1) := by decide +kernel
theorem dX5_stir_123 : decode cX5_stir 123 = .ok (.iload_n 2, 1) := by decide +kernel
theorem dX5_stir_124 : decode cX5_stir 124 = .ok (.iconst 4, 1) := by decide +kernel
theorem dX5_stir_125 : decode cX5_stir 125 = .ok (.irem, 1) := by decide +kernel
theorem dX5_stir_126 : decode cX5_stir 126 = .ok (.iload_n 2, 1) := by decide +kernel
theorem dX5_stir_127 : decode cX5_stir 127 = .ok (.iconst 4, 1) := by decide +kernel
theorem dX5_stir_128 : decode cX5_stir 128 = .ok (.idiv, 1) := by decide +kernel
theorem dX5_stir_129 : decode cX5_stir 129 = .ok (.bipush 30, 2) := by decide +kernel
theorem dX5_stir_131 : decode cX5_stir 131 = .ok (.irem, 1) := by decide +kernel
theorem dX5_stir_132 : decode cX5_stir 132 = .ok (.invokevirtual 278, 3) := by decide +kernel
theorem dX5_stir_135 : decode cX5_stir 135 = .ok (.istore_n 3, 1) := by decide +kernel
theorem dX5_stir_136 : decode cX5_stir 136 = .ok (.goto 114, 3) := by decide +kernel
theorem dX5_stir_139 : decode cX5_stir 139 = .ok (.aload_n 0, 1) := by decide +kernel
theorem dX5_stir_140 : decode cX5_stir 140 = .ok (.iload_n 2, 1) := by decide +kernel
theorem dX5_stir_141 : decode cX5_stir 141 = .ok (.iconst 4, 1) := by decide +kernel
theorem dX5_stir_142 : decode cX5_stir 142 = .ok (.irem, 1) := by decide +kernel
theorem dX5_stir_143 : decode cX5_stir 143 = .ok (.iload_n 2, 1) := by decide +kernel
theorem dX5_stir_144 : decode cX5_stir 144 = .ok (.iconst 4, 1) := by decide +kernel
theorem dX5_stir_145 : decode cX5_stir 145 = .ok (.idiv, 1) := by decide +kernel
theorem dX5_stir_146 : decode cX5_stir 146 = .ok (.bipush 21, 2) := by decide +kernel
theorem dX5_stir_148 : decode cX5_stir 148 = .ok (.irem, 1) := by decide +kernel
theorem dX5_stir_149 : decode cX5_stir 149 = .ok (.invokevirtual 257, 3) := by decide +kernel
theorem dX5_stir_152 : decode cX5_stir 152 = .ok (.istore_n 3, 1) := by decide +kernel
theorem dX5_stir_153 : decode cX5_stir 153 = .ok (.goto 97, 3) := by decide +kernel
theorem dX5_stir_156 : decode cX5_stir 156 = .ok (.aload_n 0, 1) := by decide +kernel
theorem dX5_stir_157 : decode cX5_stir 157 = .ok (.iload_n 2, 1) := by decide +kernel
theorem dX5_stir_158 : decode cX5_stir 158 = .ok (.iconst 4, 1) := by decide +kernel
theorem dX5_stir_159 : decode cX5_stir 159 = .ok (.irem, 1) := by decide +kernel
theorem dX5_stir_160 : decode cX5_stir 160 = .ok (.invokevirtual 260, 3) := by decide +kernel
theorem dX5_stir_163 : decode cX5_stir 163 = .ok (.istore_n 3, 1) := by decide +kernel
theorem dX5_stir_164 : decode cX5_stir 164 = .ok (.goto 86, 3) := by decide +kernel
theorem dX5_stir_167 : decode cX5_stir 167 = .ok (.aload_n 0, 1) := by decide +kernel
theorem dX5_stir_168 : decode cX5_stir 168 = .ok (.iload_n 2, 1) := by decide +kernel
theorem dX5_stir_169 : decode cX5_stir 169 = .ok (.iconst 3, 1) := by decide +kernel
theorem dX5_stir_170 : decode cX5_stir 170 = .ok (.irem, 1) := by decide +kernel
theorem dX5_stir_171 : decode cX5_stir 171 = .ok (.iload_n 2, 1) := by decide +kernel
theorem dX5_stir_172 : decode cX5_stir 172 = .ok (.iconst 4, 1) := by decide +kernel
theorem dX5_stir_173 : decode cX5_stir 173 = .ok (.idiv, 1) := by decide +kernel
theorem dX5_stir_174 : decode cX5_stir 174 = .ok (.bipush 31, 2) := by decide +kernel
theorem dX5_stir_176 : decode cX5_stir 176 = .ok (.irem, 1) := by decide +kernel
theorem dX5_stir_177 : decode cX5_stir 177 = .ok (.invokevirtual 263, 3) := by decide +kernel
theorem dX5_stir_180 : decode cX5_stir 180 = .ok (.istore_n 3, 1) := by decide +kernel
theorem dX5_stir_181 : decode cX5_stir 181 = .ok (.goto 69, 3) := by decide +kernel
theorem dX5_stir_184 : decode cX5_stir 184 = .ok (.aload_n 0, 1) := by decide +kernel
theorem dX5_stir_185 : decode cX5_stir 185 = .ok (.getfield 13, 3) := by decide +kernel
theorem dX5_stir_188 : decode cX5_stir 188 = .ok (.invokestatic 191, 3) := by decide +kernel
theorem dX5_stir_191 : decode cX5_stir 191 = .ok (.ifCond .lt 7, 3) := by decide +kernel
theorem dX5_stir_194 : decode cX5_stir 194 = .ok (.iconst 1, 1) := by decide +kernel
theorem dX5_stir_195 : decode cX5_stir 195 = .ok (.goto 4, 3) := by decide +kernel
theorem dX5_stir_198 : decode cX5_stir 198 = .ok (.iconst 0, 1) := by decide +kernel
theorem dX5_stir_199 : decode cX5_stir 199 = .ok (.istore_n 3, 1) := by decide +kernel
theorem dX5_stir_200 : decode cX5_stir 200 = .ok (.goto 50, 3) := by decide +kernel
theorem dX5_stir_203 : decode cX5_stir 203 = .ok (.aload_n 0, 1) := by decide +kernel
theorem dX5_stir_204 : decode cX5_stir 204 = .ok (.iload_n 2, 1) := by decide +kernel
theorem dX5_stir_205 : decode cX5_stir 205 = .ok (.bipush 31, 2) := by decide +kernel
theorem dX5_stir_207 : decode cX5_stir 207 = .ok (.irem, 1) := by decide +kernel
theorem dX5_stir_208 : decode cX5_stir 208 = .ok (.ineg, 1) := by decide +kernel
theorem dX5_stir_209 : decode cX5_stir 209 = .ok (.iload_n 2, 1) := by decide +kernel
theorem dX5_stir_210 : decode cX5_stir 210 = .ok (.bipush 32, 2) := by decide +kernel
theorem dX5_stir_212 : decode cX5_stir 212 = .ok (.idiv, 1) := by decide +kernel
theorem dX5_stir_213 : decode cX5_stir 213 = .ok (.iconst 4, 1) := by decide +kernel
theorem dX5_stir_214 : decode cX5_stir 214 = .ok (.irem, 1) := by decide +kernel
theorem dX5_stir_215 : decode cX5_stir 215 = .ok (.iconst 1, 1) := by decide +kernel
theorem dX5_stir_216 : decode cX5_stir 216 = .ok (.iload_n 2, 1) := by decide +kernel
theorem dX5_stir_217 : decode cX5_stir 217 = .ok (.sipush 128, 3) := by decide +kernel
theorem dX5_stir_220 : decode cX5_stir 220 = .ok (.idiv, 1) := by decide +kernel
theorem dX5_stir_221 : decode cX5_stir 221 = .ok (.bipush 6, 2) := by decide +kernel
theorem dX5_stir_223 : decode cX5_stir 223 = .ok (.irem, 1) := by decide +kernel
theorem dX5_stir_224 : decode cX5_stir 224 = .ok (.iadd, 1) := by decide +kernel
theorem dX5_stir_225 : decode cX5_stir 225 = .ok (.invokevirtual 254, 3) := by decide +kernel
theorem dX5_stir_228 : decode cX5_stir 228 = .ok (.istore_n 3, 1) := by decide +kernel
theorem dX5_stir_229 : decode cX5_stir 229 = .ok (.goto 21, 3) := by decide +kernel
theorem dX5_stir_232 : decode cX5_stir 232 = .ok (.aload_n 0, 1) := by decide +kernel
theorem dX5_stir_233 : decode cX5_stir 233 = .ok (.iload_n 2, 1) := by decide +kernel
theorem dX5_stir_234 : decode cX5_stir 234 = .ok (.bipush 16, 2) := by decide +kernel
theorem dX5_stir_236 : decode cX5_stir 236 = .ok (.irem, 1) := by decide +kernel
theorem dX5_stir_237 : decode cX5_stir 237 = .ok (.iconst 0, 1) := by decide +kernel
theorem dX5_stir_238 : decode cX5_stir 238 = .ok (.iconst 1, 1) := by decide +kernel
theorem dX5_stir_239 : decode cX5_stir 239 = .ok (.iload_n 2, 1) := by decide +kernel
theorem dX5_stir_240 : decode cX5_stir 240 = .ok (.bipush 16, 2) := by decide +kernel
theorem dX5_stir_242 : decode cX5_stir 242 = .ok (.idiv, 1) := by decide +kernel
theorem dX5_stir_243 : decode cX5_stir 243 = .ok (.iconst 4, 1) := by decide +kernel
theorem dX5_stir_244 : decode cX5_stir 244 = .ok (.irem, 1) := by decide +kernel
theorem dX5_stir_245 : decode cX5_stir 245 = .ok (.iadd, 1) := by decide +kernel
theorem dX5_stir_246 : decode cX5_stir 246 = .ok (.invokevirtual 254, 3) := by decide +kernel
theorem dX5_stir_249 : decode cX5_stir 249 = .ok (.istore_n 3, 1) := by decide +kernel
theorem dX5_stir_250 : decode cX5_stir 250 = .ok (.return_, 1) := by decide +kernel
set_option maxRecDepth 20000 in
theorem ggX5_simulate_X5_in : GoodIn wsX5_simulate wsX5_in := goodIn_r _ [9] (by decide +kernel) (by decide +kernel)
set_option maxRecDepth 20000 in
theorem gX5_simulate_X5_in : GoodIn wsX5_simulate (va_wsS RX5 42 yX5_in wsX5_in) := goodIn_app (goodIn_of _ (by decide +kernel)) ggX5_simulate_X5_in
set_option maxRecDepth 20000 in
theorem ggX5_simulate_X5_refused : GoodIn wsX5_simulate wsX5_refused := goodIn_r _ [13, 14, 132, 133, 134, 135, 136, 137, 138, 139, 140, 141, 142, 143, 144] (by decide +kernel) (by decide +kernel)
set_option maxRecDepth 20000 in
theorem gX5_simulate_X5_refused : GoodIn wsX5_simulate (wsV RX5 127 RX5 yX5_refused wsX5_refused) := goodIn_app (goodIn_of _ (by decide +kernel)) ggX5_simulate_X5_refused
set_option maxRecDepth 20000 in
theorem ggX5_simulate_X5_copy : GoodIn wsX5_simulate wsX5_copy := goodIn_r _ [17] (by decide +kernel) (by decide +kernel)
set_option maxRecDepth 20000 in
theorem gX5_simulate_X5_copy : GoodIn wsX5_simulate (va_wsS RX5 204 yX5_copy wsX5_copy) := goodIn_app (goodIn_of _ (by decide +kernel)) ggX5_simulate_X5_copy
set_option maxRecDepth 20000 in
theorem ggX5_simulate_X5_stir : GoodIn wsX5_simulate wsX5_stir := goodIn_r _ [21, 3, 22, 23, 8, 24, 25, 26, 27, 28, 29, 30, 31, 6, 7, 9, 32, 33, 34, 35, 36, 37, 38, 39, 40, 41, 42, 43, 44, 45, 46, 47, 48, 49, 50, 51, 52, 53, 54, 55, 56, 57, 58, 59, 60, 61, 62, 63, 64, 65, 66, 67, 68, 69, 70, 71, 72, 73, 74, 75, 76, 77, 78, 79, 80, 81, 82, 1, 83, 84, 85, 86, 87, 88, 89, 90, 91, 92, 93, 94, 95, 96, 97, 98, 99, 100, 101, 102, 103, 104, 105, 106, 107, 108, 109, 110, 111, 112, 113, 114, 115, 116, 117, 118, 119, 120, 121, 122, 132, 133, 134, 135, 136, 137, 138, 139, 140, 141, 142, 143, 144] (by decide +kernel) (by decide +kernel)
set_option maxRecDepth 20000 in
theorem gX5_simulate_X5_stir : GoodIn wsX5_simulate (wsV RX5 285 RX5 yX5_stir wsX5_stir) := goodIn_app (goodIn_of _ (by decide +kernel)) ggX5_simulate_X5_stir
set_option maxRecDepth 20000 in
theorem ggX5_simulate_X5_allLayers : GoodIn wsX5_simulate wsX5_allLayers := goodIn_r _ [125, 126, 127, 8, 128, 129, 130, 131, 42, 43, 44, 45, 46, 47] (by decide +kernel) (by decide +kernel)
set_option maxRecDepth 20000 in
theorem gX5_simulate_X5_allLayers : GoodIn wsX5_simulate (va_wsS RX5 210 yX5_allLayers wsX5_allLayers) := goodIn_app (goodIn_of _ (by decide +kernel)) ggX5_simulate_X5_allLayers
set_option maxRecDepth 20000 in
theorem ggX5_simulate_X5_allCells : GoodIn wsX5_simulate wsX5_allCells := goodIn_r _ [119, 120, 121, 8, 122, 42, 43, 44, 45, 46, 47] (by decide +kernel) (by decide +kernel)
set_option maxRecDepth 20000 in
theorem gX5_simulate_X5_allCells : GoodIn wsX5_simulate (va_wsS RX5 95 yX5_allCells wsX5_allCells) := goodIn_app (goodIn_of _ (by decide +kernel)) ggX5_simulate_X5_allCells
theorem dX5_simulate_0 : decode cX5_simulate 0 = .ok (.aload_n 0, 1) := by decide +kernel
theorem dX5_simulate_1 : decode cX5_simulate 1 = .ok (.iload_n 3, 1) := by decide +kernel
theorem dX5_simulate_2 : decode cX5_simulate 2 = .ok (.i2l, 1) := by decide +kernel
theorem dX5_simulate_3 : decode cX5_simulate 3 = .ok (.lconst 1, 1) := by decide +kernel
theorem dX5_simulate_4 : decode cX5_simulate 4 = .ok (.ldc2_w 103, 3) := by decide +kernel
theorem dX5_simulate_7 : decode cX5_simulate 7 = .ok (.invokestatic 42, 3) := by decide +kernel
theorem dX5_simulate_10 : decode cX5_simulate 10 = .ok (.ifCond .eq 7, 3) := by decide +kernel
theorem dX5_simulate_13 : decode cX5_simulate 13 = .ok (.iconst 0, 1) := by decide +kernel
theorem dX5_simulate_14 : decode cX5_simulate 14 = .ok (.goto 4, 3) := by decide +kernel
theorem dX5_simulate_17 : decode cX5_simulate 17 = .ok (.iconst 1, 1) := by decide +kernel
theorem dX5_simulate_18 : decode cX5_simulate 18 = .ok (.invokevirtual 127, 3) := by decide +kernel
theorem dX5_simulate_21 : decode cX5_simulate 21 = .ok (.ifCond .eq 5, 3) := by decide +kernel
theorem dX5_simulate_24 : decode cX5_simulate 24 = .ok (.iconst 0, 1) := by decide +kernel
theorem dX5_simulate_25 : decode cX5_simulate 25 = .ok (.ireturn, 1) := by decide +kernel
theorem dX5_simulate_26 : decode cX5_simulate 26 = .ok (.aload_n 0, 1) := by decide +kernel
theorem dX5_simulate_27 : decode cX5_simulate 27 = .ok (.getfield 7, 3) := by decide +kernel
theorem dX5_simulate_30 : decode cX5_simulate 30 = .ok (.aload_n 0, 1) := by decide +kernel
theorem dX5_simulate_31 : decode cX5_simulate 31 = .ok (.getfield 13, 3) := by decide +kernel
theorem dX5_simulate_34 : decode cX5_simulate 34 = .ok (.invokestatic 204, 3) := by decide +kernel
theorem dX5_simulate_37 : decode cX5_simulate 37 = .ok (.lload_n 1, 1) := by decide +kernel
theorem dX5_simulate_38 : decode cX5_simulate 38 = .ok (.lstore 4, 2) := by decide +kernel
theorem dX5_simulate_40 : decode cX5_simulate 40 = .ok (.iconst 0, 1) := by decide +kernel
theorem dX5_simulate_41 : decode cX5_simulate 41 = .ok (.istore 6, 2) := by decide +kernel
theorem dX5_simulate_43 : decode cX5_simulate 43 = .ok (.iload 6, 2) := by decide +kernel
theorem dX5_simulate_45 : decode cX5_simulate 45 = .ok (.iload_n 3, 1) := by decide +kernel
theorem dX5_simulate_46 : decode cX5_simulate 46 = .ok (.if_icmp .ge 31, 3) := by decide +kernel
theorem dX5_simulate_49 : decode cX5_simulate 49 = .ok (.lload 4, 2) := by decide +kernel
theorem dX5_simulate_51 : decode cX5_simulate 51 = .ok (.ldc2_w 281, 3) := by decide +kernel
theorem dX5_simulate_54 : decode cX5_simulate 54 = .ok (.lmul, 1) := by decide +kernel
theorem dX5_simulate_55 : decode cX5_simulate 55 = .ok (.ldc2_w 283, 3) := by decide +kernel
theorem dX5_simulate_58 : decode cX5_simulate 58 = .ok (.ladd, 1) := by decide +kernel
theorem dX5_simulate_59 : decode cX5_simulate 59 = .ok (.lstore 4, 2) := by decide +kernel
theorem dX5_simulate_61 : decode cX5_simulate 61 = .ok (.aload_n 0, 1) := by decide +kernel
theorem dX5_simulate_62 : decode cX5_simulate 62 = .ok (.lload 4, 2) := by decide +kernel
theorem dX5_simulate_64 : decode cX5_simulate 64 = .ok (.bipush 33, 2) := by decide +kernel
theorem dX5_simulate_66 : decode cX5_simulate 66 = .ok (.lushr, 1) := by decide +kernel
theorem dX5_simulate_67 : decode cX5_simulate 67 = .ok (.l2i, 1) := by decide +kernel
theorem dX5_simulate_68 : decode cX5_simulate 68 = .ok (.invokevirtual 285, 3) := by decide +kernel
theorem dX5_simulate_71 : decode cX5_simulate 71 = .ok (.iinc 6 1, 3) := by decide +kernel
theorem dX5_simulate_74 : decode cX5_simulate 74 = .ok (.goto (-31), 3) := by decide +kernel
theorem dX5_simulate_77 : decode cX5_simulate 77 = .ok (.sipush 10000, 3) := by decide +kernel
theorem dX5_simulate_80 : decode cX5_simulate 80 = .ok (.aload_n 0, 1) := by decide +kernel
theorem dX5_simulate_81 : decode cX5_simulate 81 = .ok (.getfield 13, 3) := by decide +kernel
theorem dX5_simulate_84 : decode cX5_simulate 84 = .ok (.invokestatic 210, 3) := by decide +kernel
theorem dX5_simulate_87 : decode cX5_simulate 87 = .ok (.imul, 1) := by decide +kernel
theorem dX5_simulate_88 : decode cX5_simulate 88 = .ok (.bipush 10, 2) := by decide +kernel
theorem dX5_simulate_90 : decode cX5_simulate 90 = .ok (.aload_n 0, 1) := by decide +kernel
theorem dX5_simulate_91 : decode cX5_simulate 91 = .ok (.getfield 13, 3) := by decide +kernel
theorem dX5_simulate_94 : decode cX5_simulate 94 = .ok (.invokestatic 95, 3) := by decide +kernel
theorem dX5_simulate_97 : decode cX5_simulate 97 = .ok (.imul, 1) := by decide +kernel
theorem dX5_simulate_98 : decode cX5_simulate 98 = .ok (.iadd, 1) := by decide +kernel
theorem dX5_simulate_99 : decode cX5_simulate 99 = .ok (.aload_n 0, 1) := by decide +kernel
theorem dX5_simulate_100 : decode cX5_simulate 100 = .ok (.getfield 13, 3) := by decide +kernel
theorem dX5_simulate_103 : decode cX5_simulate 103 = .ok (.sipush 196, 3) := by decide +kernel
theorem dX5_simulate_106 : decode cX5_simulate 106 = .ok (.iaload, 1) := by decide +kernel
theorem dX5_simulate_107 : decode cX5_simulate 107 = .ok (.iadd, 1) := by decide +kernel
theorem dX5_simulate_108 : decode cX5_simulate 108 = .ok (.ireturn, 1) := by decide +kernel
set_option maxRecDepth 20000 in
theorem ggX5_save_X5_in : GoodIn wsX5_save wsX5_in := goodIn_r _ [7] (by decide +kernel) (by decide +kernel)
set_option maxRecDepth 20000 in
theorem gX5_save_X5_in : GoodIn wsX5_save (va_wsS RX5 42 yX5_in wsX5_in) := goodIn_app (goodIn_of _ (by decide +kernel)) ggX5_save_X5_in
set_option maxRecDepth 20000 in
theorem ggX5_save_X5_refused : GoodIn wsX5_save wsX5_refused := goodIn_r _ [11, 12, 13, 14, 15, 16, 17, 18, 19, 20, 21, 22, 23, 24, 25] (by decide +kernel) (by decide +kernel)
set_option maxRecDepth 20000 in
theorem gX5_save_X5_refused : GoodIn wsX5_save (wsV RX5 127 RX5 yX5_refused wsX5_refused) := goodIn_app (goodIn_of _ (by decide +kernel)) ggX5_save_X5_refused
theorem dX5_save_0 : decode cX5_save 0 = .ok (.aload_n 0, 1) := by decide +kernel
theorem dX5_save_1 : decode cX5_save 1 = .ok (.iload_n 1, 1) := by decide +kernel
theorem dX5_save_2 : decode cX5_save 2 = .ok (.i2l, 1) := by decide +kernel
theorem dX5_save_3 : decode cX5_save 3 = .ok (.lconst 0, 1) := by decide +kernel
theorem dX5_save_4 : decode cX5_save 4 = .ok (.lconst 1, 1) := by decide +kernel
theorem dX5_save_5 : decode cX5_save 5 = .ok (.invokestatic 42, 3) := by decide +kernel
theorem dX5_save_8 : decode cX5_save 8 = .ok (.ifCond .eq 7, 3) := by decide +kernel
theorem dX5_save_11 : decode cX5_save 11 = .ok (.iconst 0, 1) := by decide +kernel
theorem dX5_save_12 : decode cX5_save 12 = .ok (.goto 4, 3) := by decide +kernel
theorem dX5_save_15 : decode cX5_save 15 = .ok (.iconst 1, 1) := by decide +kernel
theorem dX5_save_16 : decode cX5_save 16 = .ok (.invokevirtual 127, 3) := by decide +kernel
theorem dX5_save_19 : decode cX5_save 19 = .ok (.ifCond .eq 5, 3) := by decide +kernel
theorem dX5_save_22 : decode cX5_save 22 = .ok (.iconst 0, 1) := by decide +kernel
theorem dX5_save_23 : decode cX5_save 23 = .ok (.ireturn, 1) := by decide +kernel
theorem dX5_save_24 : decode cX5_save 24 = .ok (.iconst 0, 1) := by decide +kernel
theorem dX5_save_25 : decode cX5_save 25 = .ok (.istore_n 2, 1) := by decide +kernel
theorem dX5_save_26 : decode cX5_save 26 = .ok (.iload_n 2, 1) := by decide +kernel
theorem dX5_save_27 : decode cX5_save 27 = .ok (.sipush 205, 3) := by decide +kernel
theorem dX5_save_30 : decode cX5_save 30 = .ok (.if_icmp .ge 27, 3) := by decide +kernel
theorem dX5_save_33 : decode cX5_save 33 = .ok (.aload_n 0, 1) := by decide +kernel
theorem dX5_save_34 : decode cX5_save 34 = .ok (.getfield 22, 3) := by decide +kernel
theorem dX5_save_37 : decode cX5_save 37 = .ok (.sipush 205, 3) := by decide +kernel
theorem dX5_save_40 : decode cX5_save 40 = .ok (.iload_n 1, 1) := by decide +kernel
theorem dX5_save_41 : decode cX5_save 41 = .ok (.imul, 1) := by decide +kernel
theorem dX5_save_42 : decode cX5_save 42 = .ok (.iload_n 2, 1) := by decide +kernel
theorem dX5_save_43 : decode cX5_save 43 = .ok (.iadd, 1) := by decide +kernel
theorem dX5_save_44 : decode cX5_save 44 = .ok (.aload_n 0, 1) := by decide +kernel
theorem dX5_save_45 : decode cX5_save 45 = .ok (.getfield 7, 3) := by decide +kernel
theorem dX5_save_48 : decode cX5_save 48 = .ok (.iload_n 2, 1) := by decide +kernel
theorem dX5_save_49 : decode cX5_save 49 = .ok (.iaload, 1) := by decide +kernel
theorem dX5_save_50 : decode cX5_save 50 = .ok (.iastore, 1) := by decide +kernel
theorem dX5_save_51 : decode cX5_save 51 = .ok (.iinc 2 1, 3) := by decide +kernel
theorem dX5_save_54 : decode cX5_save 54 = .ok (.goto (-28), 3) := by decide +kernel
theorem dX5_save_57 : decode cX5_save 57 = .ok (.aload_n 0, 1) := by decide +kernel
theorem dX5_save_58 : decode cX5_save 58 = .ok (.getfield 25, 3) := by decide +kernel
theorem dX5_save_61 : decode cX5_save 61 = .ok (.iload_n 1, 1) := by decide +kernel
theorem dX5_save_62 : decode cX5_save 62 = .ok (.iconst 1, 1) := by decide +kernel
theorem dX5_save_63 : decode cX5_save 63 = .ok (.bastore, 1) := by decide +kernel
theorem dX5_save_64 : decode cX5_save 64 = .ok (.aload_n 0, 1) := by decide +kernel
theorem dX5_save_65 : decode cX5_save 65 = .ok (.getfield 7, 3) := by decide +kernel
theorem dX5_save_68 : decode cX5_save 68 = .ok (.sipush 199, 3) := by decide +kernel
theorem dX5_save_71 : decode cX5_save 71 = .ok (.iaload, 1) := by decide +kernel
theorem dX5_save_72 : decode cX5_save 72 = .ok (.ireturn, 1) := by decide +kernel
set_option maxRecDepth 20000 in
theorem ggX5_restore_X5_in : GoodIn wsX5_restore wsX5_in := goodIn_r _ [8] (by decide +kernel) (by decide +kernel)
set_option maxRecDepth 20000 in
theorem gX5_restore_X5_in : GoodIn wsX5_restore (va_wsS RX5 42 yX5_in wsX5_in) := goodIn_app (goodIn_of _ (by decide +kernel)) ggX5_restore_X5_in
set_option maxRecDepth 20000 in
theorem ggX5_restore_X5_refused : GoodIn wsX5_restore wsX5_refused := goodIn_r _ [12, 13, 14, 15, 16, 17, 18, 19, 20, 21, 22, 23, 24, 25, 26] (by decide +kernel) (by decide +kernel)
set_option maxRecDepth 20000 in
theorem gX5_restore_X5_refused : GoodIn wsX5_restore (wsV RX5 127 RX5 yX5_refused wsX5_refused) := goodIn_app (goodIn_of _ (by decide +kernel)) ggX5_restore_X5_refused
theorem dX5_restore_0 : decode cX5_restore 0 = .ok (.aload_n 0, 1) := by decide +kernel
theorem dX5_restore_1 : decode cX5_restore 1 = .ok (.iload_n 1, 1) := by decide +kernel
theorem dX5_restore_2 : decode cX5_restore 2 = .ok (.i2l, 1) := by decide +kernel
theorem dX5_restore_3 : decode cX5_restore 3 = .ok (.lconst 0, 1) := by decide +kernel
theorem dX5_restore_4 : decode cX5_restore 4 = .ok (.lconst 1, 1) := by decide +kernel
theorem dX5_restore_5 : decode cX5_restore 5 = .ok (.invokestatic 42, 3) := by decide +kernel
theorem dX5_restore_8 : decode cX5_restore 8 = .ok (.ifCond .ne 7, 3) := by decide +kernel
theorem dX5_restore_11 : decode cX5_restore 11 = .ok (.iconst 1, 1) := by decide +kernel
theorem dX5_restore_12 : decode cX5_restore 12 = .ok (.goto 17, 3) := by decide +kernel
theorem dX5_restore_15 : decode cX5_restore 15 = .ok (.aload_n 0, 1) := by decide +kernel
theorem dX5_restore_16 : decode cX5_restore 16 = .ok (.getfield 25, 3) := by decide +kernel
theorem dX5_restore_19 : decode cX5_restore 19 = .ok (.iload_n 1, 1) := by decide +kernel
theorem dX5_restore_20 : decode cX5_restore 20 = .ok (.baload, 1) := by decide +kernel
theorem dX5_restore_21 : decode cX5_restore 21 = .ok (.ifCond .ne 7, 3) := by decide +kernel
theorem dX5_restore_24 : decode cX5_restore 24 = .ok (.iconst 2, 1) := by decide +kernel
theorem dX5_restore_25 : decode cX5_restore 25 = .ok (.goto 4, 3) := by decide +kernel
theorem dX5_restore_28 : decode cX5_restore 28 = .ok (.iconst 0, 1) := by decide +kernel
theorem dX5_restore_29 : decode cX5_restore 29 = .ok (.invokevirtual 127, 3) := by decide +kernel
theorem dX5_restore_32 : decode cX5_restore 32 = .ok (.ifCond .eq 5, 3) := by decide +kernel
theorem dX5_restore_35 : decode cX5_restore 35 = .ok (.iconst 0, 1) := by decide +kernel
theorem dX5_restore_36 : decode cX5_restore 36 = .ok (.ireturn, 1) := by decide +kernel
theorem dX5_restore_37 : decode cX5_restore 37 = .ok (.iconst 0, 1) := by decide +kernel
theorem dX5_restore_38 : decode cX5_restore 38 = .ok (.istore_n 2, 1) := by decide +kernel
theorem dX5_restore_39 : decode cX5_restore 39 = .ok (.iload_n 2, 1) := by decide +kernel
theorem dX5_restore_40 : decode cX5_restore 40 = .ok (.sipush 205, 3) := by decide +kernel
theorem dX5_restore_43 : decode cX5_restore 43 = .ok (.if_icmp .ge 27, 3) := by decide +kernel
theorem dX5_restore_46 : decode cX5_restore 46 = .ok (.aload_n 0, 1) := by decide +kernel
theorem dX5_restore_47 : decode cX5_restore 47 = .ok (.getfield 7, 3) := by decide +kernel
theorem dX5_restore_50 : decode cX5_restore 50 = .ok (.iload_n 2, 1) := by decide +kernel
theorem dX5_restore_51 : decode cX5_restore 51 = .ok (.aload_n 0, 1) := by decide +kernel
theorem dX5_restore_52 : decode cX5_restore 52 = .ok (.getfield 22, 3) := by decide +kernel
theorem dX5_restore_55 : decode cX5_restore 55 = .ok (.sipush 205, 3) := by decide +kernel
theorem dX5_restore_58 : decode cX5_restore 58 = .ok (.iload_n 1, 1) := by decide +kernel
theorem dX5_restore_59 : decode cX5_restore 59 = .ok (.imul, 1) := by decide +kernel
theorem dX5_restore_60 : decode cX5_restore 60 = .ok (.iload_n 2, 1) := by decide +kernel
theorem dX5_restore_61 : decode cX5_restore 61 = .ok (.iadd, 1) := by decide +kernel
theorem dX5_restore_62 : decode cX5_restore 62 = .ok (.iaload, 1) := by decide +kernel
theorem dX5_restore_63 : decode cX5_restore 63 = .ok (.iastore, 1) := by decide +kernel
theorem dX5_restore_64 : decode cX5_restore 64 = .ok (.iinc 2 1, 3) := by decide +kernel
theorem dX5_restore_67 : decode cX5_restore 67 = .ok (.goto (-28), 3) := by decide +kernel
theorem dX5_restore_70 : decode cX5_restore 70 = .ok (.aload_n 0, 1) := by decide +kernel
theorem dX5_restore_71 : decode cX5_restore 71 = .ok (.iconst 0, 1) := by decide +kernel
theorem dX5_restore_72 : decode cX5_restore 72 = .ok (.putfield 119, 3) := by decide +kernel
theorem dX5_restore_75 : decode cX5_restore 75 = .ok (.aload_n 0, 1) := by decide +kernel
theorem dX5_restore_76 : decode cX5_restore 76 = .ok (.getfield 7, 3) := by decide +kernel
theorem dX5_restore_79 : decode cX5_restore 79 = .ok (.sipush 199, 3) := by decide +kernel
theorem dX5_restore_82 : decode cX5_restore 82 = .ok (.iaload, 1) := by decide +kernel
theorem dX5_restore_83 : decode cX5_restore 83 = .ok (.ireturn, 1) := by decide +kernel
theorem dJ9_max_7cf53_0 : decode cJ9_max_7cf53 0 = .ok (.iload_n 0, 1) := by decide +kernel
theorem dJ9_max_7cf53_1 : decode cJ9_max_7cf53 1 = .ok (.iload_n 1, 1) := by decide +kernel
theorem dJ9_max_7cf53_2 : decode cJ9_max_7cf53 2 = .ok (.if_icmp .lt 7, 3) := by decide +kernel
theorem dJ9_max_7cf53_5 : decode cJ9_max_7cf53 5 = .ok (.iload_n 0, 1) := by decide +kernel
theorem dJ9_max_7cf53_6 : decode cJ9_max_7cf53 6 = .ok (.goto 4, 3) := by decide +kernel
theorem dJ9_max_7cf53_9 : decode cJ9_max_7cf53 9 = .ok (.iload_n 1, 1) := by decide +kernel
theorem dJ9_max_7cf53_10 : decode cJ9_max_7cf53 10 = .ok (.ireturn, 1) := by decide +kernel
theorem dJ9_min_7cf53_0 : decode cJ9_min_7cf53 0 = .ok (.iload_n 0, 1) := by decide +kernel
theorem dJ9_min_7cf53_1 : decode cJ9_min_7cf53 1 = .ok (.iload_n 1, 1) := by decide +kernel
theorem dJ9_min_7cf53_2 : decode cJ9_min_7cf53 2 = .ok (.if_icmp .gt 7, 3) := by decide +kernel
theorem dJ9_min_7cf53_5 : decode cJ9_min_7cf53 5 = .ok (.iload_n 0, 1) := by decide +kernel
theorem dJ9_min_7cf53_6 : decode cJ9_min_7cf53 6 = .ok (.goto 4, 3) := by decide +kernel
theorem dJ9_min_7cf53_9 : decode cJ9_min_7cf53 9 = .ok (.iload_n 1, 1) := by decide +kernel
theorem dJ9_min_7cf53_10 : decode cJ9_min_7cf53 10 = .ok (.ireturn, 1) := by decide +kernel
theorem dJ7_fill_53178_0 : decode cJ7_fill_53178 0 = .ok (.iconst 0, 1) := by decide +kernel
theorem dJ7_fill_53178_1 : decode cJ7_fill_53178 1 = .ok (.istore_n 2, 1) := by decide +kernel
theorem dJ7_fill_53178_2 : decode cJ7_fill_53178 2 = .ok (.aload_n 0, 1) := by decide +kernel
theorem dJ7_fill_53178_3 : decode cJ7_fill_53178 3 = .ok (.arraylength, 1) := by decide +kernel
theorem dJ7_fill_53178_4 : decode cJ7_fill_53178 4 = .ok (.istore_n 3, 1) := by decide +kernel
theorem dJ7_fill_53178_5 : decode cJ7_fill_53178 5 = .ok (.iload_n 2, 1) := by decide +kernel
theorem dJ7_fill_53178_6 : decode cJ7_fill_53178 6 = .ok (.iload_n 3, 1) := by decide +kernel
theorem dJ7_fill_53178_7 : decode cJ7_fill_53178 7 = .ok (.if_icmp .ge 13, 3) := by decide +kernel
theorem dJ7_fill_53178_10 : decode cJ7_fill_53178 10 = .ok (.aload_n 0, 1) := by decide +kernel
theorem dJ7_fill_53178_11 : decode cJ7_fill_53178 11 = .ok (.iload_n 2, 1) := by decide +kernel
theorem dJ7_fill_53178_12 : decode cJ7_fill_53178 12 = .ok (.iload_n 1, 1) := by decide +kernel
theorem dJ7_fill_53178_13 : decode cJ7_fill_53178 13 = .ok (.iastore, 1) := by decide +kernel
theorem dJ7_fill_53178_14 : decode cJ7_fill_53178 14 = .ok (.iinc 2 1, 3) := by decide +kernel
theorem dJ7_fill_53178_17 : decode cJ7_fill_53178 17 = .ok (.goto (-12), 3) := by decide +kernel
theorem dJ7_fill_53178_20 : decode cJ7_fill_53178 20 = .ok (.return_, 1) := by decide +kernel
set_option maxRecDepth 20000 in
theorem ggL_append_X4_append : GoodIn wsL_append wsX4_append := goodIn_ca (goodIn_ca (goodIn_r _ [7, 8, 9, 10, 11, 12, 13, 6, 14, 15, 16, 17, 18, 19, 20, 21, 22, 23, 24, 25, 26, 27, 28, 29, 30, 31, 32, 33, 34, 35, 36, 37, 38] (by decide +kernel) (by decide +kernel)) (goodIn_sub (fun _ h => List.mem_cons_of_mem _ (List.mem_append_left _ (List.mem_append_right _ h))) (by decide +kernel))) (goodIn_sub (fun _ h => List.mem_cons_of_mem _ (List.mem_append_right _ h)) (by decide +kernel))
set_option maxRecDepth 20000 in
theorem gL_append_X4_append : GoodIn wsL_append (wsV RL 7 RX4 yX4_append wsX4_append) := goodIn_app (goodIn_of _ (by decide +kernel)) ggL_append_X4_append
theorem dL_append_0 : decode cL_append 0 = .ok (.aload_n 2, 1) := by decide +kernel
theorem dL_append_1 : decode cL_append 1 = .ok (.iconst 0, 1) := by decide +kernel
theorem dL_append_2 : decode cL_append 2 = .ok (.aload_n 0, 1) := by decide +kernel
theorem dL_append_3 : decode cL_append 3 = .ok (.iload_n 1, 1) := by decide +kernel
theorem dL_append_4 : decode cL_append 4 = .ok (.invokevirtual 7, 3) := by decide +kernel
theorem dL_append_7 : decode cL_append 7 = .ok (.i2l, 1) := by decide +kernel
theorem dL_append_8 : decode cL_append 8 = .ok (.lastore, 1) := by decide +kernel
theorem dL_append_9 : decode cL_append 9 = .ok (.goto 9, 3) := by decide +kernel
theorem dL_append_12 : decode cL_append 12 = .ok (.astore_n 3, 1) := by decide +kernel
theorem dL_append_13 : decode cL_append 13 = .ok (.iconst 1, 1) := by decide +kernel
theorem dL_append_14 : decode cL_append 14 = .ok (.ireturn, 1) := by decide +kernel
theorem dL_append_15 : decode cL_append 15 = .ok (.astore_n 3, 1) := by decide +kernel
theorem dL_append_16 : decode cL_append 16 = .ok (.iconst 2, 1) := by decide +kernel
theorem dL_append_17 : decode cL_append 17 = .ok (.ireturn, 1) := by decide +kernel
theorem dL_append_18 : decode cL_append 18 = .ok (.iconst 0, 1) := by decide +kernel
theorem dL_append_19 : decode cL_append 19 = .ok (.ireturn, 1) := by decide +kernel
set_option maxRecDepth 20000 in
theorem ggL_load_X4_load : GoodIn wsL_load wsX4_load := goodIn_ca (goodIn_r _ [6, 7, 8, 9, 10, 11, 12, 13, 14, 15, 16, 17, 18, 19, 20, 21, 22, 23, 24, 25, 26, 27, 28, 29, 30, 31, 32, 33, 34, 35, 36, 37, 38, 39, 40, 41, 42, 43, 44, 45, 46, 47, 48, 49, 50, 51, 52, 53, 54, 55, 56, 57, 58, 59, 60, 61, 62, 63, 64, 65, 66, 67, 68, 69, 70, 71, 72, 73, 74, 75, 76, 77, 78, 79, 80, 81, 82, 83, 84, 85, 86, 87, 88, 89, 90, 91, 92, 93, 94, 95, 96, 97, 98, 99, 100, 101, 102, 103, 104, 105, 106, 107, 108, 109, 110, 111, 112, 113, 114, 115, 116, 117, 118, 119, 120, 121, 122, 123, 124, 125, 126, 127, 128, 129, 130, 131, 132, 133, 134, 135, 136, 137, 138, 139, 140, 141, 142, 143, 144, 145, 146, 147, 148, 149, 150, 151, 152, 153, 154, 155, 156, 157, 158, 159, 160, 161, 162, 163, 164, 165, 166, 167, 168, 169, 170, 171, 172, 173, 174, 175, 176, 177, 178, 179, 180, 181, 182, 183, 184, 185, 186, 187, 188, 189, 190, 191, 192, 193, 194, 195, 196, 197, 198, 199, 200, 201, 202, 203, 204, 205, 206, 207, 208, 209, 210, 211, 212, 213, 214, 215, 216, 217, 218, 219, 220, 221, 222, 223, 224, 225, 226, 227, 228, 229, 230, 231, 232, 233, 234, 235, 236, 237, 238, 239, 240, 241, 242, 243, 244, 245, 246, 247, 248, 249, 250, 251, 252, 253, 254, 255, 256, 257, 258, 259] (by decide +kernel) (by decide +kernel)) (goodIn_sub (fun _ h => List.mem_cons_of_mem _ (List.mem_append_right _ h)) (by decide +kernel))
set_option maxRecDepth 20000 in
theorem gL_load_X4_load : GoodIn wsL_load (wsV RL 17 RX4 yX4_load wsX4_load) := goodIn_app (goodIn_of _ (by decide +kernel)) ggL_load_X4_load
theorem dL_load_0 : decode cL_load 0 = .ok (.aload_n 1, 1) := by decide +kernel
theorem dL_load_1 : decode cL_load 1 = .ok (.iconst 0, 1) := by decide +kernel
theorem dL_load_2 : decode cL_load 2 = .ok (.aload_n 0, 1) := by decide +kernel
theorem dL_load_3 : decode cL_load 3 = .ok (.invokevirtual 17, 3) := by decide +kernel
theorem dL_load_6 : decode cL_load 6 = .ok (.i2l, 1) := by decide +kernel
theorem dL_load_7 : decode cL_load 7 = .ok (.lastore, 1) := by decide +kernel
theorem dL_load_8 : decode cL_load 8 = .ok (.goto 6, 3) := by decide +kernel
theorem dL_load_11 : decode cL_load 11 = .ok (.astore_n 2, 1) := by decide +kernel
theorem dL_load_12 : decode cL_load 12 = .ok (.iconst 1, 1) := by decide +kernel
theorem dL_load_13 : decode cL_load 13 = .ok (.ireturn, 1) := by decide +kernel
theorem dL_load_14 : decode cL_load 14 = .ok (.iconst 0, 1) := by decide +kernel
theorem dL_load_15 : decode cL_load 15 = .ok (.ireturn, 1) := by decide +kernel
set_option maxRecDepth 20000 in
theorem ggL_about_X4_about : GoodIn wsL_about wsX4_about := goodIn_ca (goodIn_r _ [6, 7, 8, 9, 5, 10, 11, 12, 13, 14, 15, 16, 17, 18, 19, 20, 21, 22, 23, 24, 25, 26, 27, 28, 29, 30, 31, 32, 33, 34, 35, 36, 37, 38, 39, 40, 41, 42, 43, 44, 45, 46, 47, 48, 49, 50, 51, 52, 53, 54, 55, 56, 57, 58, 59, 60, 61, 62, 63, 64, 65, 66, 67, 68, 69, 70, 71, 72, 73, 74, 75, 76, 77, 78, 79, 80, 81, 82, 83, 84] (by decide +kernel) (by decide +kernel)) (goodIn_sub (fun _ h => List.mem_cons_of_mem _ (List.mem_append_right _ h)) (by decide +kernel))
set_option maxRecDepth 20000 in
theorem gL_about_X4_about : GoodIn wsL_about (wsV RL 21 RX4 yX4_about wsX4_about) := goodIn_app (goodIn_of _ (by decide +kernel)) ggL_about_X4_about
theorem dL_about_0 : decode cL_about 0 = .ok (.aload_n 2, 1) := by decide +kernel
theorem dL_about_1 : decode cL_about 1 = .ok (.iconst 0, 1) := by decide +kernel
theorem dL_about_2 : decode cL_about 2 = .ok (.aload_n 0, 1) := by decide +kernel
theorem dL_about_3 : decode cL_about 3 = .ok (.iload_n 1, 1) := by decide +kernel
theorem dL_about_4 : decode cL_about 4 = .ok (.invokevirtual 21, 3) := by decide +kernel
theorem dL_about_7 : decode cL_about 7 = .ok (.i2l, 1) := by decide +kernel
theorem dL_about_8 : decode cL_about 8 = .ok (.lastore, 1) := by decide +kernel
theorem dL_about_9 : decode cL_about 9 = .ok (.goto 6, 3) := by decide +kernel
theorem dL_about_12 : decode cL_about 12 = .ok (.astore_n 3, 1) := by decide +kernel
theorem dL_about_13 : decode cL_about 13 = .ok (.iconst 1, 1) := by decide +kernel
theorem dL_about_14 : decode cL_about 14 = .ok (.ireturn, 1) := by decide +kernel
theorem dL_about_15 : decode cL_about 15 = .ok (.iconst 0, 1) := by decide +kernel
