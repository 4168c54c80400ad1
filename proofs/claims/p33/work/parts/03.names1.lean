theorem dX2_takeTemperature_64 : decode cX2_takeTemperature 64 = .ok (.aload_n 0, 1) := by decide +kernel
theorem dX2_takeTemperature_65 : decode cX2_takeTemperature 65 = .ok (.getfield 21, 3) := by decide +kernel
theorem dX2_takeTemperature_68 : decode cX2_takeTemperature 68 = .ok (.iadd, 1) := by decide +kernel
theorem dX2_takeTemperature_69 : decode cX2_takeTemperature 69 = .ok (.istore_n 3, 1) := by decide +kernel
theorem dX2_takeTemperature_70 : decode cX2_takeTemperature 70 = .ok (.iload_n 3, 1) := by decide +kernel
theorem dX2_takeTemperature_71 : decode cX2_takeTemperature 71 = .ok (.ifCond .le 13, 3) := by decide +kernel
theorem dX2_takeTemperature_74 : decode cX2_takeTemperature 74 = .ok (.bipush 10, 2) := by decide +kernel
theorem dX2_takeTemperature_76 : decode cX2_takeTemperature 76 = .ok (.iload_n 1, 1) := by decide +kernel
theorem dX2_takeTemperature_77 : decode cX2_takeTemperature 77 = .ok (.ineg, 1) := by decide +kernel
theorem dX2_takeTemperature_78 : decode cX2_takeTemperature 78 = .ok (.imul, 1) := by decide +kernel
theorem dX2_takeTemperature_79 : decode cX2_takeTemperature 79 = .ok (.iload_n 3, 1) := by decide +kernel
theorem dX2_takeTemperature_80 : decode cX2_takeTemperature 80 = .ok (.idiv, 1) := by decide +kernel
theorem dX2_takeTemperature_81 : decode cX2_takeTemperature 81 = .ok (.goto 4, 3) := by decide +kernel
theorem dX2_takeTemperature_84 : decode cX2_takeTemperature 84 = .ok (.iconst 0, 1) := by decide +kernel
theorem dX2_takeTemperature_85 : decode cX2_takeTemperature 85 = .ok (.istore 4, 2) := by decide +kernel
theorem dX2_takeTemperature_87 : decode cX2_takeTemperature 87 = .ok (.aload_n 0, 1) := by decide +kernel
theorem dX2_takeTemperature_88 : decode cX2_takeTemperature 88 = .ok (.dup, 1) := by decide +kernel
theorem dX2_takeTemperature_89 : decode cX2_takeTemperature 89 = .ok (.getfield 28, 3) := by decide +kernel
theorem dX2_takeTemperature_92 : decode cX2_takeTemperature 92 = .ok (.iload 4, 2) := by decide +kernel
theorem dX2_takeTemperature_94 : decode cX2_takeTemperature 94 = .ok (.iadd, 1) := by decide +kernel
theorem dX2_takeTemperature_95 : decode cX2_takeTemperature 95 = .ok (.putfield 28, 3) := by decide +kernel
theorem dX2_takeTemperature_98 : decode cX2_takeTemperature 98 = .ok (.aload_n 0, 1) := by decide +kernel
theorem dX2_takeTemperature_99 : decode cX2_takeTemperature 99 = .ok (.dup, 1) := by decide +kernel
theorem dX2_takeTemperature_100 : decode cX2_takeTemperature 100 = .ok (.getfield 34, 3) := by decide +kernel
theorem dX2_takeTemperature_103 : decode cX2_takeTemperature 103 = .ok (.iload 4, 2) := by decide +kernel
theorem dX2_takeTemperature_105 : decode cX2_takeTemperature 105 = .ok (.iadd, 1) := by decide +kernel
theorem dX2_takeTemperature_106 : decode cX2_takeTemperature 106 = .ok (.putfield 34, 3) := by decide +kernel
theorem dX2_takeTemperature_109 : decode cX2_takeTemperature 109 = .ok (.aload_n 0, 1) := by decide +kernel
theorem dX2_takeTemperature_110 : decode cX2_takeTemperature 110 = .ok (.iconst 0, 1) := by decide +kernel
theorem dX2_takeTemperature_111 : decode cX2_takeTemperature 111 = .ok (.putfield 31, 3) := by decide +kernel
theorem dX2_takeTemperature_114 : decode cX2_takeTemperature 114 = .ok (.return_, 1) := by decide +kernel
theorem dX3_init_0 : decode cX3_init 0 = .ok (.aload_n 0, 1) := by decide +kernel
theorem dX3_init_1 : decode cX3_init 1 = .ok (.invokespecial 3, 3) := by decide +kernel
theorem dX3_init_4 : decode cX3_init 4 = .ok (.aload_n 0, 1) := by decide +kernel
theorem dX3_init_5 : decode cX3_init 5 = .ok (.bipush 120, 2) := by decide +kernel
theorem dX3_init_7 : decode cX3_init 7 = .ok (.newarray .int, 2) := by decide +kernel
theorem dX3_init_9 : decode cX3_init 9 = .ok (.putfield 9, 3) := by decide +kernel
theorem dX3_init_12 : decode cX3_init 12 = .ok (.return_, 1) := by decide +kernel
theorem dX3_put_0 : decode cX3_put 0 = .ok (.aload_n 0, 1) := by decide +kernel
theorem dX3_put_1 : decode cX3_put 1 = .ok (.getfield 15, 3) := by decide +kernel
theorem dX3_put_4 : decode cX3_put 4 = .ok (.bipush 120, 2) := by decide +kernel
theorem dX3_put_6 : decode cX3_put 6 = .ok (.if_icmp .ge 23, 3) := by decide +kernel
theorem dX3_put_9 : decode cX3_put 9 = .ok (.aload_n 0, 1) := by decide +kernel
theorem dX3_put_10 : decode cX3_put 10 = .ok (.getfield 9, 3) := by decide +kernel
theorem dX3_put_13 : decode cX3_put 13 = .ok (.aload_n 0, 1) := by decide +kernel
theorem dX3_put_14 : decode cX3_put 14 = .ok (.getfield 15, 3) := by decide +kernel
theorem dX3_put_17 : decode cX3_put 17 = .ok (.iload_n 1, 1) := by decide +kernel
theorem dX3_put_18 : decode cX3_put 18 = .ok (.iastore, 1) := by decide +kernel
theorem dX3_put_19 : decode cX3_put 19 = .ok (.aload_n 0, 1) := by decide +kernel
theorem dX3_put_20 : decode cX3_put 20 = .ok (.dup, 1) := by decide +kernel
theorem dX3_put_21 : decode cX3_put 21 = .ok (.getfield 15, 3) := by decide +kernel
theorem dX3_put_24 : decode cX3_put 24 = .ok (.iconst 1, 1) := by decide +kernel
theorem dX3_put_25 : decode cX3_put 25 = .ok (.iadd, 1) := by decide +kernel
theorem dX3_put_26 : decode cX3_put 26 = .ok (.putfield 15, 3) := by decide +kernel
theorem dX3_put_29 : decode cX3_put 29 = .ok (.return_, 1) := by decide +kernel
set_option maxRecDepth 20000 in
theorem ggX3_findError_X3_startReading : GoodIn wsX3_findError wsX3_startReading := goodIn_r _ [6, 7, 1, 8, 9, 10, 5, 11, 12, 13, 45, 46, 47, 48, 49, 50, 51, 52] (by decide +kernel) (by decide +kernel)
set_option maxRecDepth 20000 in
theorem gX3_findError_X3_startReading : GoodIn wsX3_findError (wsV RX3 19 RX3 yX3_startReading wsX3_startReading) := goodIn_app (goodIn_of _ (by decide +kernel)) ggX3_findError_X3_startReading
set_option maxRecDepth 20000 in
theorem ggX3_findError_X3_hasCommand : GoodIn wsX3_findError wsX3_hasCommand := goodIn_r _ [17, 1, 7, 12, 45, 46, 47, 48, 49, 50, 51, 52] (by decide +kernel) (by decide +kernel)
set_option maxRecDepth 20000 in
theorem gX3_findError_X3_hasCommand : GoodIn wsX3_findError (wsV RX3 22 RX3 yX3_hasCommand wsX3_hasCommand) := goodIn_app (goodIn_of _ (by decide +kernel)) ggX3_findError_X3_hasCommand
set_option maxRecDepth 20000 in
theorem ggX3_findError_X3_readCommand : GoodIn wsX3_findError wsX3_readCommand := goodIn_r _ [21, 22, 23, 24, 25, 7, 1, 8, 9, 10, 5, 11, 12, 13, 26, 27, 28, 29, 30, 31, 32, 33, 34, 35, 36, 37, 38, 39, 40, 41, 42, 43, 44, 45, 46, 47, 48, 49, 50, 51, 52] (by decide +kernel) (by decide +kernel)
set_option maxRecDepth 20000 in
theorem gX3_findError_X3_readCommand : GoodIn wsX3_findError (wsV RX3 26 RX3 yX3_readCommand wsX3_readCommand) := goodIn_app (goodIn_of _ (by decide +kernel)) ggX3_findError_X3_readCommand
theorem dX3_findError_0 : decode cX3_findError 0 = .ok (.aload_n 0, 1) := by decide +kernel
theorem dX3_findError_1 : decode cX3_findError 1 = .ok (.invokevirtual 19, 3) := by decide +kernel
theorem dX3_findError_4 : decode cX3_findError 4 = .ok (.iconst 0, 1) := by decide +kernel
theorem dX3_findError_5 : decode cX3_findError 5 = .ok (.istore_n 1, 1) := by decide +kernel
theorem dX3_findError_6 : decode cX3_findError 6 = .ok (.iload_n 1, 1) := by decide +kernel
theorem dX3_findError_7 : decode cX3_findError 7 = .ok (.bipush 120, 2) := by decide +kernel
theorem dX3_findError_9 : decode cX3_findError 9 = .ok (.if_icmp .ge 20, 3) := by decide +kernel
theorem dX3_findError_12 : decode cX3_findError 12 = .ok (.aload_n 0, 1) := by decide +kernel
theorem dX3_findError_13 : decode cX3_findError 13 = .ok (.invokevirtual 22, 3) := by decide +kernel
theorem dX3_findError_16 : decode cX3_findError 16 = .ok (.ifCond .eq 13, 3) := by decide +kernel
theorem dX3_findError_19 : decode cX3_findError 19 = .ok (.aload_n 0, 1) := by decide +kernel
theorem dX3_findError_20 : decode cX3_findError 20 = .ok (.invokevirtual 26, 3) := by decide +kernel
theorem dX3_findError_23 : decode cX3_findError 23 = .ok (.iinc 1 1, 3) := by decide +kernel
theorem dX3_findError_26 : decode cX3_findError 26 = .ok (.goto (-20), 3) := by decide +kernel
theorem dX3_findError_29 : decode cX3_findError 29 = .ok (.aload_n 0, 1) := by decide +kernel
theorem dX3_findError_30 : decode cX3_findError 30 = .ok (.getfield 29, 3) := by decide +kernel
theorem dX3_findError_33 : decode cX3_findError 33 = .ok (.ireturn, 1) := by decide +kernel
set_option maxRecDepth 20000 in
theorem ggX3_startReading_X3_nextSign : GoodIn wsX3_startReading wsX3_nextSign := goodIn_r _ [7, 1, 8, 9, 10, 11, 12, 13, 14, 15, 16, 17] (by decide +kernel) (by decide +kernel)
set_option maxRecDepth 20000 in
theorem gX3_startReading_X3_nextSign : GoodIn wsX3_startReading (wsV RX3 35 RX3 yX3_nextSign wsX3_nextSign) := goodIn_app (goodIn_of _ (by decide +kernel)) ggX3_startReading_X3_nextSign
theorem dX3_startReading_0 : decode cX3_startReading 0 = .ok (.aload_n 0, 1) := by decide +kernel
theorem dX3_startReading_1 : decode cX3_startReading 1 = .ok (.iconst 0, 1) := by decide +kernel
theorem dX3_startReading_2 : decode cX3_startReading 2 = .ok (.putfield 32, 3) := by decide +kernel
theorem dX3_startReading_5 : decode cX3_startReading 5 = .ok (.aload_n 0, 1) := by decide +kernel
theorem dX3_startReading_6 : decode cX3_startReading 6 = .ok (.iconst (-1), 1) := by decide +kernel
theorem dX3_startReading_7 : decode cX3_startReading 7 = .ok (.putfield 29, 3) := by decide +kernel
theorem dX3_startReading_10 : decode cX3_startReading 10 = .ok (.aload_n 0, 1) := by decide +kernel
theorem dX3_startReading_11 : decode cX3_startReading 11 = .ok (.invokevirtual 35, 3) := by decide +kernel
theorem dX3_startReading_14 : decode cX3_startReading 14 = .ok (.bipush 68, 2) := by decide +kernel
theorem dX3_startReading_16 : decode cX3_startReading 16 = .ok (.if_icmp .ne 11, 3) := by decide +kernel
theorem dX3_startReading_19 : decode cX3_startReading 19 = .ok (.aload_n 0, 1) := by decide +kernel
theorem dX3_startReading_20 : decode cX3_startReading 20 = .ok (.iconst 1, 1) := by decide +kernel
theorem dX3_startReading_21 : decode cX3_startReading 21 = .ok (.putfield 32, 3) := by decide +kernel
theorem dX3_startReading_24 : decode cX3_startReading 24 = .ok (.goto 8, 3) := by decide +kernel
theorem dX3_startReading_27 : decode cX3_startReading 27 = .ok (.aload_n 0, 1) := by decide +kernel
theorem dX3_startReading_28 : decode cX3_startReading 28 = .ok (.iconst 0, 1) := by decide +kernel
theorem dX3_startReading_29 : decode cX3_startReading 29 = .ok (.putfield 29, 3) := by decide +kernel
theorem dX3_startReading_32 : decode cX3_startReading 32 = .ok (.return_, 1) := by decide +kernel
theorem dX3_hasCommand_0 : decode cX3_hasCommand 0 = .ok (.aload_n 0, 1) := by decide +kernel
theorem dX3_hasCommand_1 : decode cX3_hasCommand 1 = .ok (.getfield 29, 3) := by decide +kernel
theorem dX3_hasCommand_4 : decode cX3_hasCommand 4 = .ok (.iconst (-1), 1) := by decide +kernel
theorem dX3_hasCommand_5 : decode cX3_hasCommand 5 = .ok (.if_icmp .ne 18, 3) := by decide +kernel
theorem dX3_hasCommand_8 : decode cX3_hasCommand 8 = .ok (.aload_n 0, 1) := by decide +kernel
theorem dX3_hasCommand_9 : decode cX3_hasCommand 9 = .ok (.getfield 32, 3) := by decide +kernel
theorem dX3_hasCommand_12 : decode cX3_hasCommand 12 = .ok (.aload_n 0, 1) := by decide +kernel
theorem dX3_hasCommand_13 : decode cX3_hasCommand 13 = .ok (.getfield 15, 3) := by decide +kernel
theorem dX3_hasCommand_16 : decode cX3_hasCommand 16 = .ok (.if_icmp .ge 7, 3) := by decide +kernel
theorem dX3_hasCommand_19 : decode cX3_hasCommand 19 = .ok (.iconst 1, 1) := by decide +kernel
theorem dX3_hasCommand_20 : decode cX3_hasCommand 20 = .ok (.goto 4, 3) := by decide +kernel
theorem dX3_hasCommand_23 : decode cX3_hasCommand 23 = .ok (.iconst 0, 1) := by decide +kernel
theorem dX3_hasCommand_24 : decode cX3_hasCommand 24 = .ok (.ireturn, 1) := by decide +kernel
set_option maxRecDepth 20000 in
theorem ggX3_readCommand_X3_nextSign : GoodIn wsX3_readCommand wsX3_nextSign := goodIn_r _ [11, 5, 12, 13, 33, 34, 35, 36, 37, 38, 39, 40] (by decide +kernel) (by decide +kernel)
set_option maxRecDepth 20000 in
theorem gX3_readCommand_X3_nextSign : GoodIn wsX3_readCommand (wsV RX3 35 RX3 yX3_nextSign wsX3_nextSign) := goodIn_app (goodIn_of _ (by decide +kernel)) ggX3_readCommand_X3_nextSign
set_option maxRecDepth 20000 in
theorem ggX3_readCommand_X3_readDigit : GoodIn wsX3_readCommand wsX3_readDigit := goodIn_r _ [17, 6, 5, 7, 8, 9, 10, 11, 12, 13, 33, 34, 35, 36, 37, 38, 39, 40] (by decide +kernel) (by decide +kernel)
set_option maxRecDepth 20000 in
theorem gX3_readCommand_X3_readDigit : GoodIn wsX3_readCommand (wsV RX3 51 RX3 yX3_readDigit wsX3_readDigit) := goodIn_app (goodIn_of _ (by decide +kernel)) ggX3_readCommand_X3_readDigit
set_option maxRecDepth 20000 in
theorem ggX3_readCommand_X3_readNumber : GoodIn wsX3_readCommand wsX3_readNumber := goodIn_r _ [21, 22, 23, 24, 25, 26, 27, 28, 14, 15, 16, 10, 17, 6, 5, 7, 8, 9, 11, 12, 13, 33, 34, 35, 36, 37, 38, 39, 40] (by decide +kernel) (by decide +kernel)
set_option maxRecDepth 20000 in
theorem gX3_readCommand_X3_readNumber : GoodIn wsX3_readCommand (wsV RX3 55 RX3 yX3_readNumber wsX3_readNumber) := goodIn_app (goodIn_of _ (by decide +kernel)) ggX3_readCommand_X3_readNumber
set_option maxRecDepth 20000 in
theorem ggX3_readCommand_X3_readTemperature : GoodIn wsX3_readCommand wsX3_readTemperature := goodIn_r _ [32, 5, 6, 7, 8, 9, 10, 11, 12, 13, 18, 19, 20, 21, 22, 23, 24, 25, 26, 27, 28, 14, 15, 16, 17, 33, 34, 35, 36, 37, 38, 39, 40] (by decide +kernel) (by decide +kernel)
set_option maxRecDepth 20000 in
theorem gX3_readCommand_X3_readTemperature : GoodIn wsX3_readCommand (wsV RX3 58 RX3 yX3_readTemperature wsX3_readTemperature) := goodIn_app (goodIn_of _ (by decide +kernel)) ggX3_readCommand_X3_readTemperature
theorem dX3_readCommand_0 : decode cX3_readCommand 0 = .ok (.aload_n 0, 1) := by decide +kernel
theorem dX3_readCommand_1 : decode cX3_readCommand 1 = .ok (.aload_n 0, 1) := by decide +kernel
theorem dX3_readCommand_2 : decode cX3_readCommand 2 = .ok (.invokevirtual 35, 3) := by decide +kernel
theorem dX3_readCommand_5 : decode cX3_readCommand 5 = .ok (.putfield 39, 3) := by decide +kernel
theorem dX3_readCommand_8 : decode cX3_readCommand 8 = .ok (.aload_n 0, 1) := by decide +kernel
theorem dX3_readCommand_9 : decode cX3_readCommand 9 = .ok (.iconst 0, 1) := by decide +kernel
theorem dX3_readCommand_10 : decode cX3_readCommand 10 = .ok (.putfield 42, 3) := by decide +kernel
theorem dX3_readCommand_13 : decode cX3_readCommand 13 = .ok (.aload_n 0, 1) := by decide +kernel
theorem dX3_readCommand_14 : decode cX3_readCommand 14 = .ok (.iconst 0, 1) := by decide +kernel
theorem dX3_readCommand_15 : decode cX3_readCommand 15 = .ok (.putfield 45, 3) := by decide +kernel
theorem dX3_readCommand_18 : decode cX3_readCommand 18 = .ok (.aload_n 0, 1) := by decide +kernel
theorem dX3_readCommand_19 : decode cX3_readCommand 19 = .ok (.iconst 0, 1) := by decide +kernel
theorem dX3_readCommand_20 : decode cX3_readCommand 20 = .ok (.putfield 48, 3) := by decide +kernel
theorem dX3_readCommand_23 : decode cX3_readCommand 23 = .ok (.aload_n 0, 1) := by decide +kernel
theorem dX3_readCommand_24 : decode cX3_readCommand 24 = .ok (.dup, 1) := by decide +kernel
theorem dX3_readCommand_25 : decode cX3_readCommand 25 = .ok (.getfield 32, 3) := by decide +kernel
theorem dX3_readCommand_28 : decode cX3_readCommand 28 = .ok (.iconst 1, 1) := by decide +kernel
theorem dX3_readCommand_29 : decode cX3_readCommand 29 = .ok (.iadd, 1) := by decide +kernel
theorem dX3_readCommand_30 : decode cX3_readCommand 30 = .ok (.putfield 32, 3) := by decide +kernel
theorem dX3_readCommand_33 : decode cX3_readCommand 33 = .ok (.aload_n 0, 1) := by decide +kernel
theorem dX3_readCommand_34 : decode cX3_readCommand 34 = .ok (.getfield 39, 3) := by decide +kernel
theorem dX3_readCommand_37 : decode cX3_readCommand 37 = .ok (.tableswitch 244 100 120 #[187, 220, 150, 244, 244, 244, 244, 244, 244, 244, 244, 244, 126, 244, 244, 99, 102, 244, 244, 99, 174], 99) := by decide +kernel
theorem dX3_readCommand_136 : decode cX3_readCommand 136 = .ok (.goto 155, 3) := by decide +kernel
theorem dX3_readCommand_139 : decode cX3_readCommand 139 = .ok (.aload_n 0, 1) := by decide +kernel
theorem dX3_readCommand_140 : decode cX3_readCommand 140 = .ok (.aload_n 0, 1) := by decide +kernel
theorem dX3_readCommand_141 : decode cX3_readCommand 141 = .ok (.iconst 0, 1) := by decide +kernel
theorem dX3_readCommand_142 : decode cX3_readCommand 142 = .ok (.iconst 3, 1) := by decide +kernel
theorem dX3_readCommand_143 : decode cX3_readCommand 143 = .ok (.invokevirtual 51, 3) := by decide +kernel
theorem dX3_readCommand_146 : decode cX3_readCommand 146 = .ok (.putfield 42, 3) := by decide +kernel
theorem dX3_readCommand_149 : decode cX3_readCommand 149 = .ok (.aload_n 0, 1) := by decide +kernel
theorem dX3_readCommand_150 : decode cX3_readCommand 150 = .ok (.aload_n 0, 1) := by decide +kernel
theorem dX3_readCommand_151 : decode cX3_readCommand 151 = .ok (.iconst 1, 1) := by decide +kernel
theorem dX3_readCommand_152 : decode cX3_readCommand 152 = .ok (.bipush 30, 2) := by decide +kernel
theorem dX3_readCommand_154 : decode cX3_readCommand 154 = .ok (.invokevirtual 55, 3) := by decide +kernel
theorem dX3_readCommand_157 : decode cX3_readCommand 157 = .ok (.putfield 45, 3) := by decide +kernel
theorem dX3_readCommand_160 : decode cX3_readCommand 160 = .ok (.goto 131, 3) := by decide +kernel
theorem dX3_readCommand_163 : decode cX3_readCommand 163 = .ok (.aload_n 0, 1) := by decide +kernel
theorem dX3_readCommand_164 : decode cX3_readCommand 164 = .ok (.aload_n 0, 1) := by decide +kernel
theorem dX3_readCommand_165 : decode cX3_readCommand 165 = .ok (.iconst 0, 1) := by decide +kernel
theorem dX3_readCommand_166 : decode cX3_readCommand 166 = .ok (.iconst 3, 1) := by decide +kernel
theorem dX3_readCommand_167 : decode cX3_readCommand 167 = .ok (.invokevirtual 51, 3) := by decide +kernel
theorem dX3_readCommand_170 : decode cX3_readCommand 170 = .ok (.putfield 42, 3) := by decide +kernel
theorem dX3_readCommand_173 : decode cX3_readCommand 173 = .ok (.aload_n 0, 1) := by decide +kernel
theorem dX3_readCommand_174 : decode cX3_readCommand 174 = .ok (.aload_n 0, 1) := by decide +kernel
theorem dX3_readCommand_175 : decode cX3_readCommand 175 = .ok (.iconst 0, 1) := by decide +kernel
theorem dX3_readCommand_176 : decode cX3_readCommand 176 = .ok (.bipush 29, 2) := by decide +kernel
theorem dX3_readCommand_178 : decode cX3_readCommand 178 = .ok (.invokevirtual 55, 3) := by decide +kernel
theorem dX3_readCommand_181 : decode cX3_readCommand 181 = .ok (.putfield 45, 3) := by decide +kernel
theorem dX3_readCommand_184 : decode cX3_readCommand 184 = .ok (.goto 107, 3) := by decide +kernel
theorem dX3_readCommand_187 : decode cX3_readCommand 187 = .ok (.aload_n 0, 1) := by decide +kernel
theorem dX3_readCommand_188 : decode cX3_readCommand 188 = .ok (.aload_n 0, 1) := by decide +kernel
theorem dX3_readCommand_189 : decode cX3_readCommand 189 = .ok (.iconst 0, 1) := by decide +kernel
theorem dX3_readCommand_190 : decode cX3_readCommand 190 = .ok (.iconst 3, 1) := by decide +kernel
theorem dX3_readCommand_191 : decode cX3_readCommand 191 = .ok (.invokevirtual 51, 3) := by decide +kernel
theorem dX3_readCommand_194 : decode cX3_readCommand 194 = .ok (.putfield 42, 3) := by decide +kernel
theorem dX3_readCommand_197 : decode cX3_readCommand 197 = .ok (.aload_n 0, 1) := by decide +kernel
theorem dX3_readCommand_198 : decode cX3_readCommand 198 = .ok (.aload_n 0, 1) := by decide +kernel
theorem dX3_readCommand_199 : decode cX3_readCommand 199 = .ok (.iconst 0, 1) := by decide +kernel
theorem dX3_readCommand_200 : decode cX3_readCommand 200 = .ok (.bipush 20, 2) := by decide +kernel
theorem dX3_readCommand_202 : decode cX3_readCommand 202 = .ok (.invokevirtual 55, 3) := by decide +kernel
theorem dX3_readCommand_205 : decode cX3_readCommand 205 = .ok (.putfield 45, 3) := by decide +kernel
theorem dX3_readCommand_208 : decode cX3_readCommand 208 = .ok (.goto 83, 3) := by decide +kernel
theorem dX3_readCommand_211 : decode cX3_readCommand 211 = .ok (.aload_n 0, 1) := by decide +kernel
theorem dX3_readCommand_212 : decode cX3_readCommand 212 = .ok (.aload_n 0, 1) := by decide +kernel
theorem dX3_readCommand_213 : decode cX3_readCommand 213 = .ok (.iconst 0, 1) := by decide +kernel
theorem dX3_readCommand_214 : decode cX3_readCommand 214 = .ok (.iconst 3, 1) := by decide +kernel
theorem dX3_readCommand_215 : decode cX3_readCommand 215 = .ok (.invokevirtual 51, 3) := by decide +kernel
theorem dX3_readCommand_218 : decode cX3_readCommand 218 = .ok (.putfield 42, 3) := by decide +kernel
theorem dX3_readCommand_221 : decode cX3_readCommand 221 = .ok (.goto 70, 3) := by decide +kernel
theorem dX3_readCommand_224 : decode cX3_readCommand 224 = .ok (.aload_n 0, 1) := by decide +kernel
theorem dX3_readCommand_225 : decode cX3_readCommand 225 = .ok (.aload_n 0, 1) := by decide +kernel
theorem dX3_readCommand_226 : decode cX3_readCommand 226 = .ok (.invokevirtual 58, 3) := by decide +kernel
theorem dX3_readCommand_229 : decode cX3_readCommand 229 = .ok (.putfield 42, 3) := by decide +kernel
theorem dX3_readCommand_232 : decode cX3_readCommand 232 = .ok (.aload_n 0, 1) := by decide +kernel
theorem dX3_readCommand_233 : decode cX3_readCommand 233 = .ok (.aload_n 0, 1) := by decide +kernel
theorem dX3_readCommand_234 : decode cX3_readCommand 234 = .ok (.iconst 0, 1) := by decide +kernel
theorem dX3_readCommand_235 : decode cX3_readCommand 235 = .ok (.bipush 30, 2) := by decide +kernel
theorem dX3_readCommand_237 : decode cX3_readCommand 237 = .ok (.invokevirtual 55, 3) := by decide +kernel
theorem dX3_readCommand_240 : decode cX3_readCommand 240 = .ok (.putfield 45, 3) := by decide +kernel
theorem dX3_readCommand_243 : decode cX3_readCommand 243 = .ok (.aload_n 0, 1) := by decide +kernel
theorem dX3_readCommand_244 : decode cX3_readCommand 244 = .ok (.aload_n 0, 1) := by decide +kernel
theorem dX3_readCommand_245 : decode cX3_readCommand 245 = .ok (.iconst 1, 1) := by decide +kernel
theorem dX3_readCommand_246 : decode cX3_readCommand 246 = .ok (.bipush 60, 2) := by decide +kernel
theorem dX3_readCommand_248 : decode cX3_readCommand 248 = .ok (.invokevirtual 55, 3) := by decide +kernel
theorem dX3_readCommand_251 : decode cX3_readCommand 251 = .ok (.putfield 48, 3) := by decide +kernel
theorem dX3_readCommand_254 : decode cX3_readCommand 254 = .ok (.goto 37, 3) := by decide +kernel
theorem dX3_readCommand_257 : decode cX3_readCommand 257 = .ok (.aload_n 0, 1) := by decide +kernel
theorem dX3_readCommand_258 : decode cX3_readCommand 258 = .ok (.aload_n 0, 1) := by decide +kernel
theorem dX3_readCommand_259 : decode cX3_readCommand 259 = .ok (.iconst 0, 1) := by decide +kernel
theorem dX3_readCommand_260 : decode cX3_readCommand 260 = .ok (.iconst 2, 1) := by decide +kernel
theorem dX3_readCommand_261 : decode cX3_readCommand 261 = .ok (.invokevirtual 51, 3) := by decide +kernel
theorem dX3_readCommand_264 : decode cX3_readCommand 264 = .ok (.putfield 42, 3) := by decide +kernel
theorem dX3_readCommand_267 : decode cX3_readCommand 267 = .ok (.aload_n 0, 1) := by decide +kernel
theorem dX3_readCommand_268 : decode cX3_readCommand 268 = .ok (.aload_n 0, 1) := by decide +kernel
theorem dX3_readCommand_269 : decode cX3_readCommand 269 = .ok (.iconst 0, 1) := by decide +kernel
theorem dX3_readCommand_270 : decode cX3_readCommand 270 = .ok (.bipush 50, 2) := by decide +kernel
theorem dX3_readCommand_272 : decode cX3_readCommand 272 = .ok (.invokevirtual 55, 3) := by decide +kernel
theorem dX3_readCommand_275 : decode cX3_readCommand 275 = .ok (.putfield 45, 3) := by decide +kernel
theorem dX3_readCommand_278 : decode cX3_readCommand 278 = .ok (.goto 13, 3) := by decide +kernel
theorem dX3_readCommand_281 : decode cX3_readCommand 281 = .ok (.aload_n 0, 1) := by decide +kernel
theorem dX3_readCommand_282 : decode cX3_readCommand 282 = .ok (.aload_n 0, 1) := by decide +kernel
theorem dX3_readCommand_283 : decode cX3_readCommand 283 = .ok (.getfield 32, 3) := by decide +kernel
theorem dX3_readCommand_286 : decode cX3_readCommand 286 = .ok (.iconst 1, 1) := by decide +kernel
theorem dX3_readCommand_287 : decode cX3_readCommand 287 = .ok (.isub, 1) := by decide +kernel
theorem dX3_readCommand_288 : decode cX3_readCommand 288 = .ok (.putfield 29, 3) := by decide +kernel
theorem dX3_readCommand_291 : decode cX3_readCommand 291 = .ok (.return_, 1) := by decide +kernel
theorem dX3_nextSign_0 : decode cX3_nextSign 0 = .ok (.aload_n 0, 1) := by decide +kernel
theorem dX3_nextSign_1 : decode cX3_nextSign 1 = .ok (.getfield 32, 3) := by decide +kernel
theorem dX3_nextSign_4 : decode cX3_nextSign 4 = .ok (.ifCond .lt 35, 3) := by decide +kernel
theorem dX3_nextSign_7 : decode cX3_nextSign 7 = .ok (.aload_n 0, 1) := by decide +kernel
theorem dX3_nextSign_8 : decode cX3_nextSign 8 = .ok (.getfield 32, 3) := by decide +kernel
theorem dX3_nextSign_11 : decode cX3_nextSign 11 = .ok (.aload_n 0, 1) := by decide +kernel
theorem dX3_nextSign_12 : decode cX3_nextSign 12 = .ok (.getfield 15, 3) := by decide +kernel
theorem dX3_nextSign_15 : decode cX3_nextSign 15 = .ok (.if_icmp .ge 24, 3) := by decide +kernel
theorem dX3_nextSign_18 : decode cX3_nextSign 18 = .ok (.aload_n 0, 1) := by decide +kernel
theorem dX3_nextSign_19 : decode cX3_nextSign 19 = .ok (.getfield 32, 3) := by decide +kernel
theorem dX3_nextSign_22 : decode cX3_nextSign 22 = .ok (.bipush 120, 2) := by decide +kernel
theorem dX3_nextSign_24 : decode cX3_nextSign 24 = .ok (.if_icmp .ge 15, 3) := by decide +kernel
theorem dX3_nextSign_27 : decode cX3_nextSign 27 = .ok (.aload_n 0, 1) := by decide +kernel
theorem dX3_nextSign_28 : decode cX3_nextSign 28 = .ok (.getfield 9, 3) := by decide +kernel
theorem dX3_nextSign_31 : decode cX3_nextSign 31 = .ok (.aload_n 0, 1) := by decide +kernel
theorem dX3_nextSign_32 : decode cX3_nextSign 32 = .ok (.getfield 32, 3) := by decide +kernel
theorem dX3_nextSign_35 : decode cX3_nextSign 35 = .ok (.iaload, 1) := by decide +kernel
theorem dX3_nextSign_36 : decode cX3_nextSign 36 = .ok (.goto 4, 3) := by decide +kernel
theorem dX3_nextSign_39 : decode cX3_nextSign 39 = .ok (.iconst (-1), 1) := by decide +kernel
theorem dX3_nextSign_40 : decode cX3_nextSign 40 = .ok (.ireturn, 1) := by decide +kernel
set_option maxRecDepth 20000 in
theorem ggX3_readTemperature_X3_nextSign : GoodIn wsX3_readTemperature wsX3_nextSign := goodIn_r _ [7, 1, 8, 9, 25, 26, 27, 28, 29, 30, 31, 32] (by decide +kernel) (by decide +kernel)
set_option maxRecDepth 20000 in
theorem gX3_readTemperature_X3_nextSign : GoodIn wsX3_readTemperature (wsV RX3 35 RX3 yX3_nextSign wsX3_nextSign) := goodIn_app (goodIn_of _ (by decide +kernel)) ggX3_readTemperature_X3_nextSign
set_option maxRecDepth 20000 in
theorem ggX3_readTemperature_X3_readNumber : GoodIn wsX3_readTemperature wsX3_readNumber := goodIn_r _ [13, 14, 15, 16, 17, 18, 19, 20, 21, 22, 23, 6, 24, 2, 1, 3, 4, 5, 7, 8, 9, 25, 26, 27, 28, 29, 30, 31, 32] (by decide +kernel) (by decide +kernel)
set_option maxRecDepth 20000 in
theorem gX3_readTemperature_X3_readNumber : GoodIn wsX3_readTemperature (wsV RX3 55 RX3 yX3_readNumber wsX3_readNumber) := goodIn_app (goodIn_of _ (by decide +kernel)) ggX3_readTemperature_X3_readNumber
theorem dX3_readTemperature_0 : decode cX3_readTemperature 0 = .ok (.aload_n 0, 1) := by decide +kernel
theorem dX3_readTemperature_1 : decode cX3_readTemperature 1 = .ok (.invokevirtual 35, 3) := by decide +kernel
theorem dX3_readTemperature_4 : decode cX3_readTemperature 4 = .ok (.istore_n 1, 1) := by decide +kernel
theorem dX3_readTemperature_5 : decode cX3_readTemperature 5 = .ok (.iload_n 1, 1) := by decide +kernel
theorem dX3_readTemperature_6 : decode cX3_readTemperature 6 = .ok (.bipush 43, 2) := by decide +kernel
theorem dX3_readTemperature_8 : decode cX3_readTemperature 8 = .ok (.if_icmp .eq 19, 3) := by decide +kernel
theorem dX3_readTemperature_11 : decode cX3_readTemperature 11 = .ok (.iload_n 1, 1) := by decide +kernel
theorem dX3_readTemperature_12 : decode cX3_readTemperature 12 = .ok (.bipush 45, 2) := by decide +kernel
theorem dX3_readTemperature_14 : decode cX3_readTemperature 14 = .ok (.if_icmp .eq 13, 3) := by decide +kernel
theorem dX3_readTemperature_17 : decode cX3_readTemperature 17 = .ok (.aload_n 0, 1) := by decide +kernel
theorem dX3_readTemperature_18 : decode cX3_readTemperature 18 = .ok (.aload_n 0, 1) := by decide +kernel
theorem dX3_readTemperature_19 : decode cX3_readTemperature 19 = .ok (.getfield 32, 3) := by decide +kernel
theorem dX3_readTemperature_22 : decode cX3_readTemperature 22 = .ok (.putfield 29, 3) := by decide +kernel
theorem dX3_readTemperature_25 : decode cX3_readTemperature 25 = .ok (.iconst 0, 1) := by decide +kernel
theorem dX3_readTemperature_26 : decode cX3_readTemperature 26 = .ok (.ireturn, 1) := by decide +kernel
theorem dX3_readTemperature_27 : decode cX3_readTemperature 27 = .ok (.aload_n 0, 1) := by decide +kernel
theorem dX3_readTemperature_28 : decode cX3_readTemperature 28 = .ok (.dup, 1) := by decide +kernel
theorem dX3_readTemperature_29 : decode cX3_readTemperature 29 = .ok (.getfield 32, 3) := by decide +kernel
theorem dX3_readTemperature_32 : decode cX3_readTemperature 32 = .ok (.iconst 1, 1) := by decide +kernel
theorem dX3_readTemperature_33 : decode cX3_readTemperature 33 = .ok (.iadd, 1) := by decide +kernel
theorem dX3_readTemperature_34 : decode cX3_readTemperature 34 = .ok (.putfield 32, 3) := by decide +kernel
theorem dX3_readTemperature_37 : decode cX3_readTemperature 37 = .ok (.aload_n 0, 1) := by decide +kernel
theorem dX3_readTemperature_38 : decode cX3_readTemperature 38 = .ok (.iconst 0, 1) := by decide +kernel
theorem dX3_readTemperature_39 : decode cX3_readTemperature 39 = .ok (.bipush 30, 2) := by decide +kernel
theorem dX3_readTemperature_41 : decode cX3_readTemperature 41 = .ok (.invokevirtual 55, 3) := by decide +kernel
theorem dX3_readTemperature_44 : decode cX3_readTemperature 44 = .ok (.istore_n 2, 1) := by decide +kernel
theorem dX3_readTemperature_45 : decode cX3_readTemperature 45 = .ok (.iload_n 1, 1) := by decide +kernel
theorem dX3_readTemperature_46 : decode cX3_readTemperature 46 = .ok (.bipush 45, 2) := by decide +kernel
theorem dX3_readTemperature_48 : decode cX3_readTemperature 48 = .ok (.if_icmp .ne 8, 3) := by decide +kernel
theorem dX3_readTemperature_51 : decode cX3_readTemperature 51 = .ok (.iload_n 2, 1) := by decide +kernel
theorem dX3_readTemperature_52 : decode cX3_readTemperature 52 = .ok (.ineg, 1) := by decide +kernel
theorem dX3_readTemperature_53 : decode cX3_readTemperature 53 = .ok (.goto 4, 3) := by decide +kernel
theorem dX3_readTemperature_56 : decode cX3_readTemperature 56 = .ok (.iload_n 2, 1) := by decide +kernel
theorem dX3_readTemperature_57 : decode cX3_readTemperature 57 = .ok (.ireturn, 1) := by decide +kernel
set_option maxRecDepth 20000 in
theorem ggX3_readNumber_X3_readDigit : GoodIn wsX3_readNumber wsX3_readDigit := goodIn_r _ [12, 13, 14, 15, 16, 17, 11, 18, 19, 20, 21, 22, 23, 24, 25, 26, 27, 28] (by decide +kernel) (by decide +kernel)
set_option maxRecDepth 20000 in
theorem gX3_readNumber_X3_readDigit : GoodIn wsX3_readNumber (wsV RX3 51 RX3 yX3_readDigit wsX3_readDigit) := goodIn_app (goodIn_of _ (by decide +kernel)) ggX3_readNumber_X3_readDigit
theorem dX3_readNumber_0 : decode cX3_readNumber 0 = .ok (.aload_n 0, 1) := by decide +kernel
theorem dX3_readNumber_1 : decode cX3_readNumber 1 = .ok (.iload_n 1, 1) := by decide +kernel
theorem dX3_readNumber_2 : decode cX3_readNumber 2 = .ok (.bipush 10, 2) := by decide +kernel
theorem dX3_readNumber_4 : decode cX3_readNumber 4 = .ok (.idiv, 1) := by decide +kernel
theorem dX3_readNumber_5 : decode cX3_readNumber 5 = .ok (.iload_n 2, 1) := by decide +kernel
theorem dX3_readNumber_6 : decode cX3_readNumber 6 = .ok (.bipush 10, 2) := by decide +kernel
theorem dX3_readNumber_8 : decode cX3_readNumber 8 = .ok (.idiv, 1) := by decide +kernel
theorem dX3_readNumber_9 : decode cX3_readNumber 9 = .ok (.invokevirtual 51, 3) := by decide +kernel
theorem dX3_readNumber_12 : decode cX3_readNumber 12 = .ok (.istore_n 3, 1) := by decide +kernel
theorem dX3_readNumber_13 : decode cX3_readNumber 13 = .ok (.aload_n 0, 1) := by decide +kernel
theorem dX3_readNumber_14 : decode cX3_readNumber 14 = .ok (.iconst 0, 1) := by decide +kernel
theorem dX3_readNumber_15 : decode cX3_readNumber 15 = .ok (.iload_n 1, 1) := by decide +kernel
theorem dX3_readNumber_16 : decode cX3_readNumber 16 = .ok (.bipush 10, 2) := by decide +kernel
theorem dX3_readNumber_18 : decode cX3_readNumber 18 = .ok (.iload_n 3, 1) := by decide +kernel
theorem dX3_readNumber_19 : decode cX3_readNumber 19 = .ok (.imul, 1) := by decide +kernel
theorem dX3_readNumber_20 : decode cX3_readNumber 20 = .ok (.isub, 1) := by decide +kernel
theorem dX3_readNumber_21 : decode cX3_readNumber 21 = .ok (.invokestatic 61, 3) := by decide +kernel
theorem dX3_readNumber_24 : decode cX3_readNumber 24 = .ok (.bipush 9, 2) := by decide +kernel
theorem dX3_readNumber_26 : decode cX3_readNumber 26 = .ok (.iload_n 2, 1) := by decide +kernel
theorem dX3_readNumber_27 : decode cX3_readNumber 27 = .ok (.bipush 10, 2) := by decide +kernel
theorem dX3_readNumber_29 : decode cX3_readNumber 29 = .ok (.iload_n 3, 1) := by decide +kernel
theorem dX3_readNumber_30 : decode cX3_readNumber 30 = .ok (.imul, 1) := by decide +kernel
theorem dX3_readNumber_31 : decode cX3_readNumber 31 = .ok (.isub, 1) := by decide +kernel
theorem dX3_readNumber_32 : decode cX3_readNumber 32 = .ok (.invokestatic 66, 3) := by decide +kernel
theorem dX3_readNumber_35 : decode cX3_readNumber 35 = .ok (.invokevirtual 51, 3) := by decide +kernel
theorem dX3_readNumber_38 : decode cX3_readNumber 38 = .ok (.istore 4, 2) := by decide +kernel
theorem dX3_readNumber_40 : decode cX3_readNumber 40 = .ok (.bipush 10, 2) := by decide +kernel
theorem dX3_readNumber_42 : decode cX3_readNumber 42 = .ok (.iload_n 3, 1) := by decide +kernel
theorem dX3_readNumber_43 : decode cX3_readNumber 43 = .ok (.imul, 1) := by decide +kernel
theorem dX3_readNumber_44 : decode cX3_readNumber 44 = .ok (.iload 4, 2) := by decide +kernel
theorem dX3_readNumber_46 : decode cX3_readNumber 46 = .ok (.iadd, 1) := by decide +kernel
theorem dX3_readNumber_47 : decode cX3_readNumber 47 = .ok (.ireturn, 1) := by decide +kernel
set_option maxRecDepth 20000 in
theorem ggX3_readDigit_X3_nextSign : GoodIn wsX3_readDigit wsX3_nextSign := goodIn_r _ [7, 2, 8, 9, 10, 11, 12, 13, 14, 15, 16, 17] (by decide +kernel) (by decide +kernel)
set_option maxRecDepth 20000 in
theorem gX3_readDigit_X3_nextSign : GoodIn wsX3_readDigit (wsV RX3 35 RX3 yX3_nextSign wsX3_nextSign) := goodIn_app (goodIn_of _ (by decide +kernel)) ggX3_readDigit_X3_nextSign
theorem dX3_readDigit_0 : decode cX3_readDigit 0 = .ok (.aload_n 0, 1) := by decide +kernel
theorem dX3_readDigit_1 : decode cX3_readDigit 1 = .ok (.getfield 29, 3) := by decide +kernel
theorem dX3_readDigit_4 : decode cX3_readDigit 4 = .ok (.iconst (-1), 1) := by decide +kernel
theorem dX3_readDigit_5 : decode cX3_readDigit 5 = .ok (.if_icmp .eq 5, 3) := by decide +kernel
theorem dX3_readDigit_8 : decode cX3_readDigit 8 = .ok (.iconst 0, 1) := by decide +kernel
theorem dX3_readDigit_9 : decode cX3_readDigit 9 = .ok (.ireturn, 1) := by decide +kernel
theorem dX3_readDigit_10 : decode cX3_readDigit 10 = .ok (.aload_n 0, 1) := by decide +kernel
theorem dX3_readDigit_11 : decode cX3_readDigit 11 = .ok (.invokevirtual 35, 3) := by decide +kernel
theorem dX3_readDigit_14 : decode cX3_readDigit 14 = .ok (.istore_n 3, 1) := by decide +kernel
theorem dX3_readDigit_15 : decode cX3_readDigit 15 = .ok (.iload_n 3, 1) := by decide +kernel
theorem dX3_readDigit_16 : decode cX3_readDigit 16 = .ok (.bipush 48, 2) := by decide +kernel
theorem dX3_readDigit_18 : decode cX3_readDigit 18 = .ok (.iload_n 1, 1) := by decide +kernel
theorem dX3_readDigit_19 : decode cX3_readDigit 19 = .ok (.iadd, 1) := by decide +kernel
theorem dX3_readDigit_20 : decode cX3_readDigit 20 = .ok (.if_icmp .lt 11, 3) := by decide +kernel
theorem dX3_readDigit_23 : decode cX3_readDigit 23 = .ok (.iload_n 3, 1) := by decide +kernel
theorem dX3_readDigit_24 : decode cX3_readDigit 24 = .ok (.bipush 48, 2) := by decide +kernel
theorem dX3_readDigit_26 : decode cX3_readDigit 26 = .ok (.iload_n 2, 1) := by decide +kernel
theorem dX3_readDigit_27 : decode cX3_readDigit 27 = .ok (.iadd, 1) := by decide +kernel
theorem dX3_readDigit_28 : decode cX3_readDigit 28 = .ok (.if_icmp .le 13, 3) := by decide +kernel
theorem dX3_readDigit_31 : decode cX3_readDigit 31 = .ok (.aload_n 0, 1) := by decide +kernel
theorem dX3_readDigit_32 : decode cX3_readDigit 32 = .ok (.aload_n 0, 1) := by decide +kernel
theorem dX3_readDigit_33 : decode cX3_readDigit 33 = .ok (.getfield 32, 3) := by decide +kernel
theorem dX3_readDigit_36 : decode cX3_readDigit 36 = .ok (.putfield 29, 3) := by decide +kernel
theorem dX3_readDigit_39 : decode cX3_readDigit 39 = .ok (.iconst 0, 1) := by decide +kernel
theorem dX3_readDigit_40 : decode cX3_readDigit 40 = .ok (.ireturn, 1) := by decide +kernel
theorem dX3_readDigit_41 : decode cX3_readDigit 41 = .ok (.aload_n 0, 1) := by decide +kernel
theorem dX3_readDigit_42 : decode cX3_readDigit 42 = .ok (.dup, 1) := by decide +kernel
theorem dX3_readDigit_43 : decode cX3_readDigit 43 = .ok (.getfield 32, 3) := by decide +kernel
theorem dX3_readDigit_46 : decode cX3_readDigit 46 = .ok (.iconst 1, 1) := by decide +kernel
theorem dX3_readDigit_47 : decode cX3_readDigit 47 = .ok (.iadd, 1) := by decide +kernel
theorem dX3_readDigit_48 : decode cX3_readDigit 48 = .ok (.putfield 32, 3) := by decide +kernel
theorem dX3_readDigit_51 : decode cX3_readDigit 51 = .ok (.iload_n 3, 1) := by decide +kernel
theorem dX3_readDigit_52 : decode cX3_readDigit 52 = .ok (.bipush 48, 2) := by decide +kernel
theorem dX3_readDigit_54 : decode cX3_readDigit 54 = .ok (.isub, 1) := by decide +kernel
theorem dX3_readDigit_55 : decode cX3_readDigit 55 = .ok (.ireturn, 1) := by decide +kernel
set_option maxRecDepth 20000 in
theorem ggX4_init_X3_init : GoodIn wsX4_init wsX3_init := goodIn_r _ [22, 23, 2, 3, 24, 25, 58, 59, 60, 61, 62, 63, 64, 65] (by decide +kernel) (by decide +kernel)
set_option maxRecDepth 20000 in
theorem gX4_init_X3_init_n9 : GoodIn wsX4_init (wsX3_init) := ggX4_init_X3_init
set_option maxRecDepth 20000 in
theorem ggX4_init_X0_init : GoodIn wsX4_init wsX0_init := goodIn_r _ [28, 29, 2, 3, 24, 30, 31, 32, 33, 34, 35, 36, 37, 38, 39, 40, 41, 42, 43, 44, 45, 46, 47, 48, 49, 50, 73, 74, 75, 76, 77, 78, 79, 80, 81, 82, 83, 84, 85, 86, 87, 91, 92, 93, 94, 95, 96] (by decide +kernel) (by decide +kernel)
set_option maxRecDepth 20000 in
theorem gX4_init_X0_init : GoodIn wsX4_init (wsX0_init) := ggX4_init_X0_init
set_option maxRecDepth 20000 in
theorem ggX4_init_X1_init : GoodIn wsX4_init wsX1_init := goodIn_r _ [53, 54, 2, 3, 55, 56, 9, 10, 57, 27, 28, 29, 24, 30, 31, 32, 33, 34, 35, 36, 37, 38, 39, 40, 41, 42, 43, 44, 45, 46, 47, 48, 49, 50, 88, 89, 90, 73, 74, 75, 76, 77, 78, 79, 80, 81, 82, 83, 84, 85, 86, 87, 91, 92, 93, 94, 95, 96] (by decide +kernel) (by decide +kernel)
set_option maxRecDepth 20000 in
theorem gX4_init_X1_init : GoodIn wsX4_init (wsX1_init) := ggX4_init_X1_init
theorem dX4_init_0 : decode cX4_init 0 = .ok (.aload_n 0, 1) := by decide +kernel
theorem dX4_init_1 : decode cX4_init 1 = .ok (.invokespecial 1, 3) := by decide +kernel
theorem dX4_init_4 : decode cX4_init 4 = .ok (.aload_n 0, 1) := by decide +kernel
theorem dX4_init_5 : decode cX4_init 5 = .ok (.new 7, 3) := by decide +kernel
theorem dX4_init_8 : decode cX4_init 8 = .ok (.dup, 1) := by decide +kernel
theorem dX4_init_9 : decode cX4_init 9 = .ok (.invokespecial 9, 3) := by decide +kernel
theorem dX4_init_12 : decode cX4_init 12 = .ok (.putfield 10, 3) := by decide +kernel
theorem dX4_init_15 : decode cX4_init 15 = .ok (.aload_n 0, 1) := by decide +kernel
theorem dX4_init_16 : decode cX4_init 16 = .ok (.new 16, 3) := by decide +kernel
theorem dX4_init_19 : decode cX4_init 19 = .ok (.dup, 1) := by decide +kernel
theorem dX4_init_20 : decode cX4_init 20 = .ok (.invokespecial 18, 3) := by decide +kernel
theorem dX4_init_23 : decode cX4_init 23 = .ok (.putfield 19, 3) := by decide +kernel
theorem dX4_init_26 : decode cX4_init 26 = .ok (.aload_n 0, 1) := by decide +kernel
theorem dX4_init_27 : decode cX4_init 27 = .ok (.new 16, 3) := by decide +kernel
theorem dX4_init_30 : decode cX4_init 30 = .ok (.dup, 1) := by decide +kernel
theorem dX4_init_31 : decode cX4_init 31 = .ok (.invokespecial 18, 3) := by decide +kernel
theorem dX4_init_34 : decode cX4_init 34 = .ok (.putfield 23, 3) := by decide +kernel
theorem dX4_init_37 : decode cX4_init 37 = .ok (.aload_n 0, 1) := by decide +kernel
theorem dX4_init_38 : decode cX4_init 38 = .ok (.new 16, 3) := by decide +kernel
theorem dX4_init_41 : decode cX4_init 41 = .ok (.dup, 1) := by decide +kernel
theorem dX4_init_42 : decode cX4_init 42 = .ok (.invokespecial 18, 3) := by decide +kernel
theorem dX4_init_45 : decode cX4_init 45 = .ok (.putfield 26, 3) := by decide +kernel
theorem dX4_init_48 : decode cX4_init 48 = .ok (.aload_n 0, 1) := by decide +kernel
theorem dX4_init_49 : decode cX4_init 49 = .ok (.new 29, 3) := by decide +kernel
theorem dX4_init_52 : decode cX4_init 52 = .ok (.dup, 1) := by decide +kernel
theorem dX4_init_53 : decode cX4_init 53 = .ok (.invokespecial 31, 3) := by decide +kernel
theorem dX4_init_56 : decode cX4_init 56 = .ok (.putfield 32, 3) := by decide +kernel
theorem dX4_init_59 : decode cX4_init 59 = .ok (.aload_n 0, 1) := by decide +kernel
theorem dX4_init_60 : decode cX4_init 60 = .ok (.iconst 2, 1) := by decide +kernel
theorem dX4_init_61 : decode cX4_init 61 = .ok (.anewarray 16, 3) := by decide +kernel
theorem dX4_init_64 : decode cX4_init 64 = .ok (.putfield 36, 3) := by decide +kernel
theorem dX4_init_67 : decode cX4_init 67 = .ok (.aload_n 0, 1) := by decide +kernel
theorem dX4_init_68 : decode cX4_init 68 = .ok (.iconst 2, 1) := by decide +kernel
theorem dX4_init_69 : decode cX4_init 69 = .ok (.newarray .boolean, 2) := by decide +kernel
theorem dX4_init_71 : decode cX4_init 71 = .ok (.putfield 40, 3) := by decide +kernel
theorem dX4_init_74 : decode cX4_init 74 = .ok (.iconst 0, 1) := by decide +kernel
theorem dX4_init_75 : decode cX4_init 75 = .ok (.istore_n 1, 1) := by decide +kernel
theorem dX4_init_76 : decode cX4_init 76 = .ok (.iload_n 1, 1) := by decide +kernel
theorem dX4_init_77 : decode cX4_init 77 = .ok (.iconst 2, 1) := by decide +kernel
theorem dX4_init_78 : decode cX4_init 78 = .ok (.if_icmp .ge 22, 3) := by decide +kernel
theorem dX4_init_81 : decode cX4_init 81 = .ok (.aload_n 0, 1) := by decide +kernel
theorem dX4_init_82 : decode cX4_init 82 = .ok (.getfield 36, 3) := by decide +kernel
theorem dX4_init_85 : decode cX4_init 85 = .ok (.iload_n 1, 1) := by decide +kernel
theorem dX4_init_86 : decode cX4_init 86 = .ok (.new 16, 3) := by decide +kernel
theorem dX4_init_89 : decode cX4_init 89 = .ok (.dup, 1) := by decide +kernel
theorem dX4_init_90 : decode cX4_init 90 = .ok (.invokespecial 18, 3) := by decide +kernel
theorem dX4_init_93 : decode cX4_init 93 = .ok (.aastore, 1) := by decide +kernel
theorem dX4_init_94 : decode cX4_init 94 = .ok (.iinc 1 1, 3) := by decide +kernel
theorem dX4_init_97 : decode cX4_init 97 = .ok (.goto (-21), 3) := by decide +kernel
theorem dX4_init_100 : decode cX4_init 100 = .ok (.return_, 1) := by decide +kernel
set_option maxRecDepth 20000 in
theorem ggX4_append_X4_needRange : GoodIn wsX4_append wsX4_needRange := goodIn_ca (goodIn_r _ [8, 9, 10] (by decide +kernel) (by decide +kernel)) (goodIn_sub (fun _ h => List.mem_cons_of_mem _ (List.mem_append_right _ h)) (by decide +kernel))
set_option maxRecDepth 20000 in
theorem gX4_append_X4_needRange : GoodIn wsX4_append (va_wsS RX4 44 yX4_needRange wsX4_needRange) := goodIn_app (goodIn_of _ (by decide +kernel)) ggX4_append_X4_needRange
set_option maxRecDepth 20000 in
theorem ggX4_append_X3_put : GoodIn wsX4_append wsX3_put := goodIn_r _ [15, 16, 17, 25, 26, 27, 28, 29, 30, 31, 32] (by decide +kernel) (by decide +kernel)
set_option maxRecDepth 20000 in
theorem gX4_append_X3_put : GoodIn wsX4_append (wsV RX4 59 RX3 yX3_put wsX3_put) := goodIn_app (goodIn_of _ (by decide +kernel)) ggX4_append_X3_put
theorem dX4_append_0 : decode cX4_append 0 = .ok (.iload_n 1, 1) := by decide +kernel
theorem dX4_append_1 : decode cX4_append 1 = .ok (.iconst 0, 1) := by decide +kernel
theorem dX4_append_2 : decode cX4_append 2 = .ok (.sipush 255, 3) := by decide +kernel
theorem dX4_append_5 : decode cX4_append 5 = .ok (.invokestatic 44, 3) := by decide +kernel
theorem dX4_append_8 : decode cX4_append 8 = .ok (.aload_n 0, 1) := by decide +kernel
theorem dX4_append_9 : decode cX4_append 9 = .ok (.getfield 10, 3) := by decide +kernel
theorem dX4_append_12 : decode cX4_append 12 = .ok (.getfield 48, 3) := by decide +kernel
theorem dX4_append_15 : decode cX4_append 15 = .ok (.bipush 120, 2) := by decide +kernel
theorem dX4_append_17 : decode cX4_append 17 = .ok (.if_icmp .lt 13, 3) := by decide +kernel
theorem dX4_append_20 : decode cX4_append 20 = .ok (.new 52, 3) := by decide +kernel
theorem dX4_append_23 : decode cX4_append 23 = .ok (.dup, 1) := by decide +kernel
theorem dX4_append_24 : decode cX4_append 24 = .ok (.ldc 54, 2) := by decide +kernel
theorem dX4_append_26 : decode cX4_append 26 = .ok (.invokespecial 56, 3) := by decide +kernel
theorem dX4_append_29 : decode cX4_append 29 = .ok (.athrow, 1) := by decide +kernel
theorem dX4_append_30 : decode cX4_append 30 = .ok (.aload_n 0, 1) := by decide +kernel
theorem dX4_append_31 : decode cX4_append 31 = .ok (.getfield 10, 3) := by decide +kernel
theorem dX4_append_34 : decode cX4_append 34 = .ok (.iload_n 1, 1) := by decide +kernel
theorem dX4_append_35 : decode cX4_append 35 = .ok (.invokevirtual 59, 3) := by decide +kernel
theorem dX4_append_38 : decode cX4_append 38 = .ok (.aload_n 0, 1) := by decide +kernel
theorem dX4_append_39 : decode cX4_append 39 = .ok (.getfield 10, 3) := by decide +kernel
theorem dX4_append_42 : decode cX4_append 42 = .ok (.getfield 48, 3) := by decide +kernel
theorem dX4_append_45 : decode cX4_append 45 = .ok (.ireturn, 1) := by decide +kernel
theorem dX4_clearText_0 : decode cX4_clearText 0 = .ok (.aload_n 0, 1) := by decide +kernel
theorem dX4_clearText_1 : decode cX4_clearText 1 = .ok (.getfield 10, 3) := by decide +kernel
theorem dX4_clearText_4 : decode cX4_clearText 4 = .ok (.getfield 48, 3) := by decide +kernel
theorem dX4_clearText_7 : decode cX4_clearText 7 = .ok (.istore_n 1, 1) := by decide +kernel
theorem dX4_clearText_8 : decode cX4_clearText 8 = .ok (.aload_n 0, 1) := by decide +kernel
theorem dX4_clearText_9 : decode cX4_clearText 9 = .ok (.getfield 10, 3) := by decide +kernel
theorem dX4_clearText_12 : decode cX4_clearText 12 = .ok (.iconst 0, 1) := by decide +kernel
theorem dX4_clearText_13 : decode cX4_clearText 13 = .ok (.putfield 48, 3) := by decide +kernel
theorem dX4_clearText_16 : decode cX4_clearText 16 = .ok (.iload_n 1, 1) := by decide +kernel
theorem dX4_clearText_17 : decode cX4_clearText 17 = .ok (.ireturn, 1) := by decide +kernel
set_option maxRecDepth 20000 in
theorem ggX4_errorPosition_X3_findError : GoodIn wsX4_errorPosition wsX3_findError := goodIn_r _ [6, 7, 8, 9, 10, 5, 11, 12, 13, 14, 15, 16, 17, 18, 19, 20, 21, 22, 23, 24, 25, 26, 27, 28, 29, 30, 31, 32, 33, 34, 35, 36, 37, 38, 39, 40, 41, 42, 43, 44, 45, 46, 47, 48, 49, 57, 58, 59, 60, 61, 62, 63, 64] (by decide +kernel) (by decide +kernel)
set_option maxRecDepth 20000 in
theorem gX4_errorPosition_X3_findError : GoodIn wsX4_errorPosition (wsV RX4 63 RX3 yX3_findError wsX3_findError) := goodIn_app (goodIn_of _ (by decide +kernel)) ggX4_errorPosition_X3_findError
theorem dX4_errorPosition_0 : decode cX4_errorPosition 0 = .ok (.aload_n 0, 1) := by decide +kernel
theorem dX4_errorPosition_1 : decode cX4_errorPosition 1 = .ok (.getfield 10, 3) := by decide +kernel
theorem dX4_errorPosition_4 : decode cX4_errorPosition 4 = .ok (.invokevirtual 63, 3) := by decide +kernel
theorem dX4_errorPosition_7 : decode cX4_errorPosition 7 = .ok (.ireturn, 1) := by decide +kernel
set_option maxRecDepth 20000 in
theorem ggX4_load_X3_findError : GoodIn wsX4_load wsX3_findError := goodIn_r _ [16, 17, 18, 19, 20, 15, 21, 22, 23, 24, 25, 26, 27, 28, 29, 30, 31, 32, 33, 34, 35, 36, 37, 38, 39, 40, 41, 42, 43, 44, 45, 46, 47, 48, 49, 50, 51, 52, 53, 54, 55, 56, 57, 58, 59, 222, 223, 224, 225, 226, 227, 228, 229] (by decide +kernel) (by decide +kernel)
set_option maxRecDepth 20000 in
theorem gX4_load_X3_findError : GoodIn wsX4_load (wsV RX4 63 RX3 yX3_findError wsX3_findError) := goodIn_app (goodIn_of _ (by decide +kernel)) ggX4_load_X3_findError
set_option maxRecDepth 20000 in
theorem ggX4_load_X0_copyFrom : GoodIn wsX4_load wsX0_copyFrom := goodIn_r _ [64, 65, 66, 67, 68, 69, 70, 71, 72, 73, 74, 75, 76, 77, 78, 79, 80, 81, 82, 83, 84, 85, 86, 87, 88, 89, 90, 91, 92, 93, 94, 95, 230, 231, 232, 233, 234, 235, 236, 237, 238, 239, 240, 241, 242, 243, 244, 245, 246, 247, 248, 249, 250] (by decide +kernel) (by decide +kernel)
set_option maxRecDepth 20000 in
theorem gX4_load_X0_copyFrom : GoodIn wsX4_load (wsV RX4 69 RX0 yX0_copyFrom wsX0_copyFrom) := goodIn_app (goodIn_of _ (by decide +kernel)) ggX4_load_X0_copyFrom
set_option maxRecDepth 20000 in
theorem ggX4_load_X1_forgetAll : GoodIn wsX4_load wsX1_forgetAll := goodIn_r _ [100, 101, 102, 251, 252, 253] (by decide +kernel) (by decide +kernel)
set_option maxRecDepth 20000 in
theorem gX4_load_X1_forgetAll : GoodIn wsX4_load (wsV RX4 73 RX1 yX1_forgetAll wsX1_forgetAll) := goodIn_app (goodIn_of _ (by decide +kernel)) ggX4_load_X1_forgetAll
set_option maxRecDepth 20000 in
theorem ggX4_load_X3_startReading : GoodIn wsX4_load wsX3_startReading := goodIn_r _ [21, 22, 17, 23, 24, 25, 15, 26, 27, 28, 222, 223, 224, 225, 226, 227, 228, 229] (by decide +kernel) (by decide +kernel)
set_option maxRecDepth 20000 in
theorem gX4_load_X3_startReading : GoodIn wsX4_load (wsV RX4 76 RX3 yX3_startReading wsX3_startReading) := goodIn_app (goodIn_of _ (by decide +kernel)) ggX4_load_X3_startReading
set_option maxRecDepth 20000 in
theorem ggX4_load_X3_hasCommand : GoodIn wsX4_load wsX3_hasCommand := goodIn_r _ [32, 17, 22, 27, 222, 223, 224, 225, 226, 227, 228, 229] (by decide +kernel) (by decide +kernel)
set_option maxRecDepth 20000 in
theorem gX4_load_X3_hasCommand : GoodIn wsX4_load (wsV RX4 79 RX3 yX3_hasCommand wsX3_hasCommand) := goodIn_app (goodIn_of _ (by decide +kernel)) ggX4_load_X3_hasCommand
set_option maxRecDepth 20000 in
theorem ggX4_load_X3_readCommand : GoodIn wsX4_load wsX3_readCommand := goodIn_r _ [36, 37, 38, 39, 40, 22, 17, 23, 24, 25, 15, 26, 27, 28, 41, 42, 43, 44, 45, 46, 47, 48, 49, 50, 51, 52, 53, 54, 55, 56, 57, 58, 59, 222, 223, 224, 225, 226, 227, 228, 229] (by decide +kernel) (by decide +kernel)
set_option maxRecDepth 20000 in
theorem gX4_load_X3_readCommand : GoodIn wsX4_load (wsV RX4 83 RX3 yX3_readCommand wsX3_readCommand) := goodIn_app (goodIn_of _ (by decide +kernel)) ggX4_load_X3_readCommand
set_option maxRecDepth 20000 in
theorem ggX4_load_X0_perform : GoodIn wsX4_load wsX0_perform := goodIn_r _ [109, 65, 110, 111, 112, 63, 113, 114, 115, 116, 117, 66, 118, 119, 120, 121, 122, 123, 124, 125, 67, 76, 126, 127, 128, 87, 129, 94, 130, 131, 132, 133, 134, 135, 136, 137, 68, 138, 139, 140, 141, 142, 143, 144, 145, 77, 78, 146, 147, 148, 149, 79, 80, 150, 151, 152, 153, 154, 155, 156, 157, 158, 159, 160, 161, 162, 163, 164, 165, 166, 167, 71, 168, 169, 170, 171, 172, 173, 89, 90, 174, 54, 51, 55, 175, 176, 177, 178, 92, 91, 93, 179, 180, 181, 182, 183, 81, 82, 184, 50, 52, 83, 185, 186, 187, 188, 189, 190, 191, 192, 193, 194, 195, 196, 197, 198, 199, 200, 201, 202, 203, 204, 205, 206, 207, 208, 209, 70, 69, 210, 211, 212, 213, 214, 230, 231, 232, 233, 234, 235, 236, 237, 238, 239, 240, 241, 242, 243, 244, 245, 246, 247, 248, 249, 250] (by decide +kernel) (by decide +kernel)
set_option maxRecDepth 20000 in
theorem gX4_load_X0_perform : GoodIn wsX4_load (wsV RX4 98 RX0 yX0_perform wsX0_perform) := goodIn_app (goodIn_of _ (by decide +kernel)) ggX4_load_X0_perform
theorem dX4_load_0 : decode cX4_load 0 = .ok (.aload_n 0, 1) := by decide +kernel
theorem dX4_load_1 : decode cX4_load 1 = .ok (.getfield 10, 3) := by decide +kernel
theorem dX4_load_4 : decode cX4_load 4 = .ok (.invokevirtual 63, 3) := by decide +kernel
theorem dX4_load_7 : decode cX4_load 7 = .ok (.iconst (-1), 1) := by decide +kernel
theorem dX4_load_8 : decode cX4_load 8 = .ok (.if_icmp .eq 13, 3) := by decide +kernel
theorem dX4_load_11 : decode cX4_load 11 = .ok (.new 52, 3) := by decide +kernel
theorem dX4_load_14 : decode cX4_load 14 = .ok (.dup, 1) := by decide +kernel
theorem dX4_load_15 : decode cX4_load 15 = .ok (.ldc 67, 2) := by decide +kernel
theorem dX4_load_17 : decode cX4_load 17 = .ok (.invokespecial 56, 3) := by decide +kernel
theorem dX4_load_20 : decode cX4_load 20 = .ok (.athrow, 1) := by decide +kernel
theorem dX4_load_21 : decode cX4_load 21 = .ok (.aload_n 0, 1) := by decide +kernel
theorem dX4_load_22 : decode cX4_load 22 = .ok (.getfield 19, 3) := by decide +kernel
theorem dX4_load_25 : decode cX4_load 25 = .ok (.aload_n 0, 1) := by decide +kernel
theorem dX4_load_26 : decode cX4_load 26 = .ok (.getfield 26, 3) := by decide +kernel
theorem dX4_load_29 : decode cX4_load 29 = .ok (.invokevirtual 69, 3) := by decide +kernel
theorem dX4_load_32 : decode cX4_load 32 = .ok (.aload_n 0, 1) := by decide +kernel
theorem dX4_load_33 : decode cX4_load 33 = .ok (.getfield 32, 3) := by decide +kernel
theorem dX4_load_36 : decode cX4_load 36 = .ok (.invokevirtual 73, 3) := by decide +kernel
theorem dX4_load_39 : decode cX4_load 39 = .ok (.iconst 0, 1) := by decide +kernel
theorem dX4_load_40 : decode cX4_load 40 = .ok (.istore_n 1, 1) := by decide +kernel
theorem dX4_load_41 : decode cX4_load 41 = .ok (.iload_n 1, 1) := by decide +kernel
theorem dX4_load_42 : decode cX4_load 42 = .ok (.iconst 2, 1) := by decide +kernel
theorem dX4_load_43 : decode cX4_load 43 = .ok (.if_icmp .ge 16, 3) := by decide +kernel
theorem dX4_load_46 : decode cX4_load 46 = .ok (.aload_n 0, 1) := by decide +kernel
theorem dX4_load_47 : decode cX4_load 47 = .ok (.getfield 40, 3) := by decide +kernel
theorem dX4_load_50 : decode cX4_load 50 = .ok (.iload_n 1, 1) := by decide +kernel
theorem dX4_load_51 : decode cX4_load 51 = .ok (.iconst 0, 1) := by decide +kernel
theorem dX4_load_52 : decode cX4_load 52 = .ok (.bastore, 1) := by decide +kernel
theorem dX4_load_53 : decode cX4_load 53 = .ok (.iinc 1 1, 3) := by decide +kernel
theorem dX4_load_56 : decode cX4_load 56 = .ok (.goto (-15), 3) := by decide +kernel
theorem dX4_load_59 : decode cX4_load 59 = .ok (.iconst 0, 1) := by decide +kernel
theorem dX4_load_60 : decode cX4_load 60 = .ok (.istore_n 1, 1) := by decide +kernel
theorem dX4_load_61 : decode cX4_load 61 = .ok (.aload_n 0, 1) := by decide +kernel
theorem dX4_load_62 : decode cX4_load 62 = .ok (.getfield 10, 3) := by decide +kernel
theorem dX4_load_65 : decode cX4_load 65 = .ok (.invokevirtual 76, 3) := by decide +kernel
theorem dX4_load_68 : decode cX4_load 68 = .ok (.iconst 0, 1) := by decide +kernel
theorem dX4_load_69 : decode cX4_load 69 = .ok (.istore_n 2, 1) := by decide +kernel
theorem dX4_load_70 : decode cX4_load 70 = .ok (.iload_n 2, 1) := by decide +kernel
theorem dX4_load_71 : decode cX4_load 71 = .ok (.bipush 120, 2) := by decide +kernel
theorem dX4_load_73 : decode cX4_load 73 = .ok (.if_icmp .ge 68, 3) := by decide +kernel
theorem dX4_load_76 : decode cX4_load 76 = .ok (.aload_n 0, 1) := by decide +kernel
theorem dX4_load_77 : decode cX4_load 77 = .ok (.getfield 10, 3) := by decide +kernel
theorem dX4_load_80 : decode cX4_load 80 = .ok (.invokevirtual 79, 3) := by decide +kernel
theorem dX4_load_83 : decode cX4_load 83 = .ok (.ifCond .eq 58, 3) := by decide +kernel
theorem dX4_load_86 : decode cX4_load 86 = .ok (.aload_n 0, 1) := by decide +kernel
theorem dX4_load_87 : decode cX4_load 87 = .ok (.getfield 10, 3) := by decide +kernel
theorem dX4_load_90 : decode cX4_load 90 = .ok (.invokevirtual 83, 3) := by decide +kernel
theorem dX4_load_93 : decode cX4_load 93 = .ok (.aload_n 0, 1) := by decide +kernel
theorem dX4_load_94 : decode cX4_load 94 = .ok (.getfield 19, 3) := by decide +kernel
theorem dX4_load_97 : decode cX4_load 97 = .ok (.aload_n 0, 1) := by decide +kernel
theorem dX4_load_98 : decode cX4_load 98 = .ok (.getfield 10, 3) := by decide +kernel
theorem dX4_load_101 : decode cX4_load 101 = .ok (.getfield 86, 3) := by decide +kernel
theorem dX4_load_104 : decode cX4_load 104 = .ok (.aload_n 0, 1) := by decide +kernel
theorem dX4_load_105 : decode cX4_load 105 = .ok (.getfield 10, 3) := by decide +kernel
theorem dX4_load_108 : decode cX4_load 108 = .ok (.getfield 89, 3) := by decide +kernel
theorem dX4_load_111 : decode cX4_load 111 = .ok (.aload_n 0, 1) := by decide +kernel
theorem dX4_load_112 : decode cX4_load 112 = .ok (.getfield 10, 3) := by decide +kernel
theorem dX4_load_115 : decode cX4_load 115 = .ok (.getfield 92, 3) := by decide +kernel
theorem dX4_load_118 : decode cX4_load 118 = .ok (.aload_n 0, 1) := by decide +kernel
theorem dX4_load_119 : decode cX4_load 119 = .ok (.getfield 10, 3) := by decide +kernel
theorem dX4_load_122 : decode cX4_load 122 = .ok (.getfield 95, 3) := by decide +kernel
theorem dX4_load_125 : decode cX4_load 125 = .ok (.invokevirtual 98, 3) := by decide +kernel
theorem dX4_load_128 : decode cX4_load 128 = .ok (.iconst (-1), 1) := by decide +kernel
theorem dX4_load_129 : decode cX4_load 129 = .ok (.if_icmp .ne 6, 3) := by decide +kernel
theorem dX4_load_132 : decode cX4_load 132 = .ok (.iinc 1 1, 3) := by decide +kernel
theorem dX4_load_135 : decode cX4_load 135 = .ok (.iinc 2 1, 3) := by decide +kernel
theorem dX4_load_138 : decode cX4_load 138 = .ok (.goto (-68), 3) := by decide +kernel
theorem dX4_load_141 : decode cX4_load 141 = .ok (.iload_n 1, 1) := by decide +kernel
theorem dX4_load_142 : decode cX4_load 142 = .ok (.ireturn, 1) := by decide +kernel
set_option maxRecDepth 20000 in
theorem ggX4_about_X4_needRange : GoodIn wsX4_about wsX4_needRange := goodIn_ca (goodIn_r _ [5, 6, 7] (by decide +kernel) (by decide +kernel)) (goodIn_sub (fun _ h => List.mem_cons_of_mem _ (List.mem_append_right _ h)) (by decide +kernel))
set_option maxRecDepth 20000 in
theorem gX4_about_X4_needRange : GoodIn wsX4_about (va_wsS RX4 44 yX4_needRange wsX4_needRange) := goodIn_app (goodIn_of _ (by decide +kernel)) ggX4_about_X4_needRange
set_option maxRecDepth 20000 in
theorem ggX4_about_X0_numberOf : GoodIn wsX4_about wsX0_numberOf := goodIn_r _ [12, 13, 14, 15, 16, 17, 18, 19, 20, 21, 22, 11, 23, 24, 25, 26, 27, 28, 29, 30, 31, 32, 33, 34, 35, 36, 37, 38, 39, 40, 41, 42, 43, 44, 45, 46, 47, 48, 49, 50, 51, 59, 60, 61, 62, 63, 64, 65, 66, 67, 68, 69, 70, 71, 72, 73, 74, 75, 76, 77, 78, 79] (by decide +kernel) (by decide +kernel)
set_option maxRecDepth 20000 in
theorem gX4_about_X0_numberOf : GoodIn wsX4_about (wsV RX4 102 RX0 yX0_numberOf wsX0_numberOf) := goodIn_app (goodIn_of _ (by decide +kernel)) ggX4_about_X0_numberOf
theorem dX4_about_0 : decode cX4_about 0 = .ok (.iload_n 1, 1) := by decide +kernel
theorem dX4_about_1 : decode cX4_about 1 = .ok (.iconst 0, 1) := by decide +kernel
theorem dX4_about_2 : decode cX4_about 2 = .ok (.bipush 11, 2) := by decide +kernel
theorem dX4_about_4 : decode cX4_about 4 = .ok (.invokestatic 44, 3) := by decide +kernel
theorem dX4_about_7 : decode cX4_about 7 = .ok (.aload_n 0, 1) := by decide +kernel
theorem dX4_about_8 : decode cX4_about 8 = .ok (.getfield 19, 3) := by decide +kernel
theorem dX4_about_11 : decode cX4_about 11 = .ok (.iload_n 1, 1) := by decide +kernel
theorem dX4_about_12 : decode cX4_about 12 = .ok (.invokevirtual 102, 3) := by decide +kernel
theorem dX4_about_15 : decode cX4_about 15 = .ok (.ireturn, 1) := by decide +kernel
set_option maxRecDepth 20000 in
theorem ggX4_siteOf_X4_needSite : GoodIn wsX4_siteOf wsX4_needSite := goodIn_ca (goodIn_r _ [7, 8, 9, 1, 10, 11, 12, 13, 14, 15, 52, 53, 54, 55, 56, 57, 58, 59, 60, 61, 62, 63, 64, 65, 66, 67, 68, 69, 70, 71, 72, 73] (by decide +kernel) (by decide +kernel)) (goodIn_sub (fun _ h => List.mem_cons_of_mem _ (List.mem_append_left _ (List.mem_append_right _ h))) (by decide +kernel))
set_option maxRecDepth 20000 in
theorem gX4_siteOf_X4_needSite : GoodIn wsX4_siteOf (wsV RX4 106 RX4 yX4_needSite wsX4_needSite) := goodIn_app (goodIn_of _ (by decide +kernel)) ggX4_siteOf_X4_needSite
set_option maxRecDepth 20000 in
theorem ggX4_siteOf_X4_needRange : GoodIn wsX4_siteOf wsX4_needRange := goodIn_ca (goodIn_r _ [18, 19, 20] (by decide +kernel) (by decide +kernel)) (goodIn_sub (fun _ h => List.mem_cons_of_mem _ (List.mem_append_right _ h)) (by decide +kernel))
set_option maxRecDepth 20000 in
theorem gX4_siteOf_X4_needRange : GoodIn wsX4_siteOf (va_wsS RX4 44 yX4_needRange wsX4_needRange) := goodIn_app (goodIn_of _ (by decide +kernel)) ggX4_siteOf_X4_needRange
set_option maxRecDepth 20000 in
theorem ggX4_siteOf_X2_numberOf : GoodIn wsX4_siteOf wsX2_numberOf := goodIn_r _ [25, 26, 27, 28, 29, 30, 31, 32, 33, 24, 34, 35, 36, 37, 38, 39, 40, 41, 42, 43, 44, 45, 46, 47, 48, 49, 50, 51, 74, 75, 76, 77, 78, 79] (by decide +kernel) (by decide +kernel)
set_option maxRecDepth 20000 in
theorem gX4_siteOf_X2_numberOf : GoodIn wsX4_siteOf (wsV RX4 113 RX2 yX2_numberOf wsX2_numberOf) := goodIn_app (goodIn_of _ (by decide +kernel)) ggX4_siteOf_X2_numberOf
theorem dX4_siteOf_0 : decode cX4_siteOf 0 = .ok (.aload_n 0, 1) := by decide +kernel
theorem dX4_siteOf_1 : decode cX4_siteOf 1 = .ok (.iload_n 1, 1) := by decide +kernel
theorem dX4_siteOf_2 : decode cX4_siteOf 2 = .ok (.invokevirtual 106, 3) := by decide +kernel
theorem dX4_siteOf_5 : decode cX4_siteOf 5 = .ok (.iload_n 2, 1) := by decide +kernel
theorem dX4_siteOf_6 : decode cX4_siteOf 6 = .ok (.iconst 0, 1) := by decide +kernel
theorem dX4_siteOf_7 : decode cX4_siteOf 7 = .ok (.bipush 8, 2) := by decide +kernel
theorem dX4_siteOf_9 : decode cX4_siteOf 9 = .ok (.invokestatic 44, 3) := by decide +kernel
theorem dX4_siteOf_12 : decode cX4_siteOf 12 = .ok (.aload_n 0, 1) := by decide +kernel
theorem dX4_siteOf_13 : decode cX4_siteOf 13 = .ok (.getfield 19, 3) := by decide +kernel
theorem dX4_siteOf_16 : decode cX4_siteOf 16 = .ok (.getfield 109, 3) := by decide +kernel
theorem dX4_siteOf_19 : decode cX4_siteOf 19 = .ok (.iload_n 1, 1) := by decide +kernel
theorem dX4_siteOf_20 : decode cX4_siteOf 20 = .ok (.aaload, 1) := by decide +kernel
theorem dX4_siteOf_21 : decode cX4_siteOf 21 = .ok (.iload_n 2, 1) := by decide +kernel
theorem dX4_siteOf_22 : decode cX4_siteOf 22 = .ok (.invokevirtual 113, 3) := by decide +kernel
theorem dX4_siteOf_25 : decode cX4_siteOf 25 = .ok (.ireturn, 1) := by decide +kernel
set_option maxRecDepth 20000 in
theorem ggX4_since_X4_needSite : GoodIn wsX4_since wsX4_needSite := goodIn_ca (goodIn_r _ [8, 9, 10, 1, 11, 12, 13, 14, 15, 16, 20, 21, 22, 23, 24, 25, 26, 27, 28, 29, 30, 31, 32, 33, 34, 35, 36, 37, 38, 39, 40, 41] (by decide +kernel) (by decide +kernel)) (goodIn_sub (fun _ h => List.mem_cons_of_mem _ (List.mem_append_right _ h)) (by decide +kernel))
set_option maxRecDepth 20000 in
theorem gX4_since_X4_needSite : GoodIn wsX4_since (wsV RX4 106 RX4 yX4_needSite wsX4_needSite) := goodIn_app (goodIn_of _ (by decide +kernel)) ggX4_since_X4_needSite
set_option maxRecDepth 20000 in
theorem ggX4_since_X4_needCell : GoodIn wsX4_since wsX4_needCell := goodIn_ca (goodIn_r _ [19, 9, 10] (by decide +kernel) (by decide +kernel)) (goodIn_sub (fun _ h => List.mem_cons_of_mem _ (List.mem_append_right _ h)) (by decide +kernel))
set_option maxRecDepth 20000 in
theorem gX4_since_X4_needCell : GoodIn wsX4_since (va_wsS RX4 116 yX4_needCell wsX4_needCell) := goodIn_app (goodIn_of _ (by decide +kernel)) ggX4_since_X4_needCell
theorem dX4_since_0 : decode cX4_since 0 = .ok (.aload_n 0, 1) := by decide +kernel
theorem dX4_since_1 : decode cX4_since 1 = .ok (.iload_n 1, 1) := by decide +kernel
theorem dX4_since_2 : decode cX4_since 2 = .ok (.invokevirtual 106, 3) := by decide +kernel
theorem dX4_since_5 : decode cX4_since 5 = .ok (.iload_n 2, 1) := by decide +kernel
theorem dX4_since_6 : decode cX4_since 6 = .ok (.invokestatic 116, 3) := by decide +kernel
theorem dX4_since_9 : decode cX4_since 9 = .ok (.aload_n 0, 1) := by decide +kernel
theorem dX4_since_10 : decode cX4_since 10 = .ok (.getfield 19, 3) := by decide +kernel
theorem dX4_since_13 : decode cX4_since 13 = .ok (.getfield 109, 3) := by decide +kernel
theorem dX4_since_16 : decode cX4_since 16 = .ok (.iload_n 1, 1) := by decide +kernel
theorem dX4_since_17 : decode cX4_since 17 = .ok (.aaload, 1) := by decide +kernel
theorem dX4_since_18 : decode cX4_since 18 = .ok (.getfield 119, 3) := by decide +kernel
theorem dX4_since_21 : decode cX4_since 21 = .ok (.iload_n 2, 1) := by decide +kernel
theorem dX4_since_22 : decode cX4_since 22 = .ok (.iaload, 1) := by decide +kernel
theorem dX4_since_23 : decode cX4_since 23 = .ok (.ireturn, 1) := by decide +kernel
set_option maxRecDepth 20000 in
theorem ggX4_layerOf_X4_needSite : GoodIn wsX4_layerOf wsX4_needSite := goodIn_ca (goodIn_r _ [9, 1, 2, 3, 10, 11, 12, 13, 14, 15, 55, 56, 57, 58, 59, 60, 61, 62, 63, 64, 65, 66, 67, 68, 69, 70, 71, 72, 73, 74, 75, 76] (by decide +kernel) (by decide +kernel)) (goodIn_sub (fun _ h => List.mem_cons_of_mem _ (List.mem_append_left _ (List.mem_append_right _ h))) (by decide +kernel))
set_option maxRecDepth 20000 in
theorem gX4_layerOf_X4_needSite : GoodIn wsX4_layerOf (wsV RX4 106 RX4 yX4_needSite wsX4_needSite) := goodIn_app (goodIn_of _ (by decide +kernel)) ggX4_layerOf_X4_needSite
set_option maxRecDepth 20000 in
theorem ggX4_layerOf_X2_firstOfLayer : GoodIn wsX4_layerOf wsX2_firstOfLayer := goodIn_r _ [20, 21, 22, 23, 19, 24, 25, 26, 27, 28, 29, 77, 78, 79, 80, 81, 82] (by decide +kernel) (by decide +kernel)
set_option maxRecDepth 20000 in
theorem gX4_layerOf_X2_firstOfLayer : GoodIn wsX4_layerOf (wsV RX4 123 RX2 yX2_firstOfLayer wsX2_firstOfLayer) := goodIn_app (goodIn_of _ (by decide +kernel)) ggX4_layerOf_X2_firstOfLayer
set_option maxRecDepth 20000 in
theorem ggX4_layerOf_X4_needRange : GoodIn wsX4_layerOf wsX4_needRange := goodIn_ca (goodIn_r _ [32, 33, 34] (by decide +kernel) (by decide +kernel)) (goodIn_sub (fun _ h => List.mem_cons_of_mem _ (List.mem_append_right _ h)) (by decide +kernel))
set_option maxRecDepth 20000 in
theorem gX4_layerOf_X4_needRange : GoodIn wsX4_layerOf (va_wsS RX4 44 yX4_needRange wsX4_needRange) := goodIn_app (goodIn_of _ (by decide +kernel)) ggX4_layerOf_X4_needRange
set_option maxRecDepth 20000 in
theorem ggX4_layerOf_X2_numberOfLayer : GoodIn wsX4_layerOf wsX2_numberOfLayer := goodIn_r _ [38, 39, 40, 41, 19, 42, 25, 26, 27, 28, 29, 43, 44, 45, 46, 47, 48, 49, 50, 51, 52, 53, 54, 77, 78, 79, 80, 81, 82] (by decide +kernel) (by decide +kernel)
set_option maxRecDepth 20000 in
theorem gX4_layerOf_X2_numberOfLayer : GoodIn wsX4_layerOf (wsV RX4 131 RX2 yX2_numberOfLayer wsX2_numberOfLayer) := goodIn_app (goodIn_of _ (by decide +kernel)) ggX4_layerOf_X2_numberOfLayer
theorem dX4_layerOf_0 : decode cX4_layerOf 0 = .ok (.aload_n 0, 1) := by decide +kernel
theorem dX4_layerOf_1 : decode cX4_layerOf 1 = .ok (.iload_n 1, 1) := by decide +kernel
theorem dX4_layerOf_2 : decode cX4_layerOf 2 = .ok (.invokevirtual 106, 3) := by decide +kernel
theorem dX4_layerOf_5 : decode cX4_layerOf 5 = .ok (.aload_n 0, 1) := by decide +kernel
theorem dX4_layerOf_6 : decode cX4_layerOf 6 = .ok (.getfield 19, 3) := by decide +kernel
theorem dX4_layerOf_9 : decode cX4_layerOf 9 = .ok (.getfield 109, 3) := by decide +kernel
theorem dX4_layerOf_12 : decode cX4_layerOf 12 = .ok (.iload_n 1, 1) := by decide +kernel
theorem dX4_layerOf_13 : decode cX4_layerOf 13 = .ok (.aaload, 1) := by decide +kernel
theorem dX4_layerOf_14 : decode cX4_layerOf 14 = .ok (.iload_n 2, 1) := by decide +kernel
theorem dX4_layerOf_15 : decode cX4_layerOf 15 = .ok (.invokevirtual 123, 3) := by decide +kernel
theorem dX4_layerOf_18 : decode cX4_layerOf 18 = .ok (.istore 4, 2) := by decide +kernel
theorem dX4_layerOf_20 : decode cX4_layerOf 20 = .ok (.iload 4, 2) := by decide +kernel
theorem dX4_layerOf_22 : decode cX4_layerOf 22 = .ok (.iconst (-1), 1) := by decide +kernel
theorem dX4_layerOf_23 : decode cX4_layerOf 23 = .ok (.if_icmp .ne 13, 3) := by decide +kernel
theorem dX4_layerOf_26 : decode cX4_layerOf 26 = .ok (.new 126, 3) := by decide +kernel
theorem dX4_layerOf_29 : decode cX4_layerOf 29 = .ok (.dup, 1) := by decide +kernel
theorem dX4_layerOf_30 : decode cX4_layerOf 30 = .ok (.ldc 128, 2) := by decide +kernel
theorem dX4_layerOf_32 : decode cX4_layerOf 32 = .ok (.invokespecial 130, 3) := by decide +kernel
theorem dX4_layerOf_35 : decode cX4_layerOf 35 = .ok (.athrow, 1) := by decide +kernel
theorem dX4_layerOf_36 : decode cX4_layerOf 36 = .ok (.iload_n 3, 1) := by decide +kernel
theorem dX4_layerOf_37 : decode cX4_layerOf 37 = .ok (.iconst 0, 1) := by decide +kernel
theorem dX4_layerOf_38 : decode cX4_layerOf 38 = .ok (.iconst 3, 1) := by decide +kernel
theorem dX4_layerOf_39 : decode cX4_layerOf 39 = .ok (.invokestatic 44, 3) := by decide +kernel
theorem dX4_layerOf_42 : decode cX4_layerOf 42 = .ok (.aload_n 0, 1) := by decide +kernel
theorem dX4_layerOf_43 : decode cX4_layerOf 43 = .ok (.getfield 19, 3) := by decide +kernel
theorem dX4_layerOf_46 : decode cX4_layerOf 46 = .ok (.getfield 109, 3) := by decide +kernel
theorem dX4_layerOf_49 : decode cX4_layerOf 49 = .ok (.iload_n 1, 1) := by decide +kernel
theorem dX4_layerOf_50 : decode cX4_layerOf 50 = .ok (.aaload, 1) := by decide +kernel
theorem dX4_layerOf_51 : decode cX4_layerOf 51 = .ok (.iload 4, 2) := by decide +kernel
theorem dX4_layerOf_53 : decode cX4_layerOf 53 = .ok (.iload_n 3, 1) := by decide +kernel
theorem dX4_layerOf_54 : decode cX4_layerOf 54 = .ok (.invokevirtual 131, 3) := by decide +kernel
theorem dX4_layerOf_57 : decode cX4_layerOf 57 = .ok (.ireturn, 1) := by decide +kernel
set_option maxRecDepth 20000 in
theorem ggX4_tubeOf_X4_needRange : GoodIn wsX4_tubeOf wsX4_needRange := goodIn_ca (goodIn_r _ [8, 9, 10] (by decide +kernel) (by decide +kernel)) (goodIn_sub (fun _ h => List.mem_cons_of_mem _ (List.mem_append_right _ h)) (by decide +kernel))
set_option maxRecDepth 20000 in
theorem gX4_tubeOf_X4_needRange : GoodIn wsX4_tubeOf (va_wsS RX4 44 yX4_needRange wsX4_needRange) := goodIn_app (goodIn_of _ (by decide +kernel)) ggX4_tubeOf_X4_needRange
set_option maxRecDepth 20000 in
theorem ggX4_tubeOf_X0_numberOfTube : GoodIn wsX4_tubeOf wsX0_numberOfTube := goodIn_r _ [15, 16, 17, 18, 19, 20, 21, 22, 23, 24, 25, 26, 27, 28, 29, 30, 31, 32, 33, 34, 35, 36, 37, 38, 39, 40, 48, 49, 50, 51, 52, 53, 54, 55, 56, 57, 58, 59, 60, 61, 62, 63, 64, 65, 66, 67, 68] (by decide +kernel) (by decide +kernel)
set_option maxRecDepth 20000 in
theorem gX4_tubeOf_X0_numberOfTube : GoodIn wsX4_tubeOf (wsV RX4 140 RX0 yX0_numberOfTube wsX0_numberOfTube) := goodIn_app (goodIn_of _ (by decide +kernel)) ggX4_tubeOf_X0_numberOfTube
theorem dX4_tubeOf_0 : decode cX4_tubeOf 0 = .ok (.iload_n 1, 1) := by decide +kernel
theorem dX4_tubeOf_1 : decode cX4_tubeOf 1 = .ok (.ifCond .lt 14, 3) := by decide +kernel
theorem dX4_tubeOf_4 : decode cX4_tubeOf 4 = .ok (.iload_n 1, 1) := by decide +kernel
theorem dX4_tubeOf_5 : decode cX4_tubeOf 5 = .ok (.aload_n 0, 1) := by decide +kernel
theorem dX4_tubeOf_6 : decode cX4_tubeOf 6 = .ok (.getfield 19, 3) := by decide +kernel
theorem dX4_tubeOf_9 : decode cX4_tubeOf 9 = .ok (.getfield 135, 3) := by decide +kernel
theorem dX4_tubeOf_12 : decode cX4_tubeOf 12 = .ok (.if_icmp .lt 13, 3) := by decide +kernel
theorem dX4_tubeOf_15 : decode cX4_tubeOf 15 = .ok (.new 126, 3) := by decide +kernel
theorem dX4_tubeOf_18 : decode cX4_tubeOf 18 = .ok (.dup, 1) := by decide +kernel
theorem dX4_tubeOf_19 : decode cX4_tubeOf 19 = .ok (.ldc 138, 2) := by decide +kernel
theorem dX4_tubeOf_21 : decode cX4_tubeOf 21 = .ok (.invokespecial 130, 3) := by decide +kernel
theorem dX4_tubeOf_24 : decode cX4_tubeOf 24 = .ok (.athrow, 1) := by decide +kernel
theorem dX4_tubeOf_25 : decode cX4_tubeOf 25 = .ok (.iload_n 2, 1) := by decide +kernel
theorem dX4_tubeOf_26 : decode cX4_tubeOf 26 = .ok (.iconst 0, 1) := by decide +kernel
theorem dX4_tubeOf_27 : decode cX4_tubeOf 27 = .ok (.iconst 5, 1) := by decide +kernel
theorem dX4_tubeOf_28 : decode cX4_tubeOf 28 = .ok (.invokestatic 44, 3) := by decide +kernel
theorem dX4_tubeOf_31 : decode cX4_tubeOf 31 = .ok (.aload_n 0, 1) := by decide +kernel
theorem dX4_tubeOf_32 : decode cX4_tubeOf 32 = .ok (.getfield 19, 3) := by decide +kernel
theorem dX4_tubeOf_35 : decode cX4_tubeOf 35 = .ok (.iload_n 1, 1) := by decide +kernel
theorem dX4_tubeOf_36 : decode cX4_tubeOf 36 = .ok (.iload_n 2, 1) := by decide +kernel
theorem dX4_tubeOf_37 : decode cX4_tubeOf 37 = .ok (.invokevirtual 140, 3) := by decide +kernel
theorem dX4_tubeOf_40 : decode cX4_tubeOf 40 = .ok (.ireturn, 1) := by decide +kernel
set_option maxRecDepth 20000 in
theorem ggX4_pipeOf_X4_needPipe : GoodIn wsX4_pipeOf wsX4_needPipe := goodIn_ca (goodIn_r _ [6, 7, 8, 1, 9, 10, 11, 12, 13, 14, 29, 30, 31, 32, 33, 34, 35, 36, 37, 38, 39, 40, 41, 42, 43, 44, 45, 46, 47, 48, 49, 50] (by decide +kernel) (by decide +kernel)) (goodIn_sub (fun _ h => List.mem_cons_of_mem _ (List.mem_append_left _ (List.mem_append_right _ h))) (by decide +kernel))
set_option maxRecDepth 20000 in
theorem gX4_pipeOf_X4_needPipe : GoodIn wsX4_pipeOf (wsV RX4 143 RX4 yX4_needPipe wsX4_needPipe) := goodIn_app (goodIn_of _ (by decide +kernel)) ggX4_pipeOf_X4_needPipe
set_option maxRecDepth 20000 in
theorem ggX4_pipeOf_X4_needRange : GoodIn wsX4_pipeOf wsX4_needRange := goodIn_ca (goodIn_r _ [17, 18, 19] (by decide +kernel) (by decide +kernel)) (goodIn_sub (fun _ h => List.mem_cons_of_mem _ (List.mem_append_right _ h)) (by decide +kernel))
set_option maxRecDepth 20000 in
theorem gX4_pipeOf_X4_needRange : GoodIn wsX4_pipeOf (va_wsS RX4 44 yX4_needRange wsX4_needRange) := goodIn_app (goodIn_of _ (by decide +kernel)) ggX4_pipeOf_X4_needRange
set_option maxRecDepth 20000 in
theorem ggX4_pipeOf_X0_numberOfPipe : GoodIn wsX4_pipeOf wsX0_numberOfPipe := goodIn_r _ [23, 24, 25, 26, 27, 28, 36, 37, 38, 39, 40, 41, 42, 43, 44, 45, 46, 47, 48, 49, 50] (by decide +kernel) (by decide +kernel)
set_option maxRecDepth 20000 in
theorem gX4_pipeOf_X0_numberOfPipe : GoodIn wsX4_pipeOf (wsV RX4 146 RX0 yX0_numberOfPipe wsX0_numberOfPipe) := goodIn_app (goodIn_of _ (by decide +kernel)) ggX4_pipeOf_X0_numberOfPipe
theorem dX4_pipeOf_0 : decode cX4_pipeOf 0 = .ok (.aload_n 0, 1) := by decide +kernel
theorem dX4_pipeOf_1 : decode cX4_pipeOf 1 = .ok (.iload_n 1, 1) := by decide +kernel
theorem dX4_pipeOf_2 : decode cX4_pipeOf 2 = .ok (.invokevirtual 143, 3) := by decide +kernel
theorem dX4_pipeOf_5 : decode cX4_pipeOf 5 = .ok (.iload_n 2, 1) := by decide +kernel
theorem dX4_pipeOf_6 : decode cX4_pipeOf 6 = .ok (.iconst 0, 1) := by decide +kernel
theorem dX4_pipeOf_7 : decode cX4_pipeOf 7 = .ok (.iconst 4, 1) := by decide +kernel
theorem dX4_pipeOf_8 : decode cX4_pipeOf 8 = .ok (.invokestatic 44, 3) := by decide +kernel
theorem dX4_pipeOf_11 : decode cX4_pipeOf 11 = .ok (.aload_n 0, 1) := by decide +kernel
theorem dX4_pipeOf_12 : decode cX4_pipeOf 12 = .ok (.getfield 19, 3) := by decide +kernel
theorem dX4_pipeOf_15 : decode cX4_pipeOf 15 = .ok (.iload_n 1, 1) := by decide +kernel
theorem dX4_pipeOf_16 : decode cX4_pipeOf 16 = .ok (.iload_n 2, 1) := by decide +kernel
theorem dX4_pipeOf_17 : decode cX4_pipeOf 17 = .ok (.invokevirtual 146, 3) := by decide +kernel
theorem dX4_pipeOf_20 : decode cX4_pipeOf 20 = .ok (.ireturn, 1) := by decide +kernel
set_option maxRecDepth 20000 in
theorem ggX4_layers_X4_needSite : GoodIn wsX4_layers wsX4_needSite := goodIn_ca (goodIn_r _ [7, 8, 9, 1, 10, 11, 12, 13, 14, 15, 43, 44, 45, 46, 47, 48, 49, 50, 51, 52, 53, 54, 55, 56, 57, 58, 59, 60, 61, 62, 63, 64] (by decide +kernel) (by decide +kernel)) (goodIn_sub (fun _ h => List.mem_cons_of_mem _ (List.mem_append_left _ (List.mem_append_right _ h))) (by decide +kernel))
set_option maxRecDepth 20000 in
theorem gX4_layers_X4_needSite : GoodIn wsX4_layers (wsV RX4 106 RX4 yX4_needSite wsX4_needSite) := goodIn_app (goodIn_of _ (by decide +kernel)) ggX4_layers_X4_needSite
set_option maxRecDepth 20000 in
theorem ggX4_layers_X4_needRange : GoodIn wsX4_layers wsX4_needRange := goodIn_ca (goodIn_r _ [18, 19, 20] (by decide +kernel) (by decide +kernel)) (goodIn_sub (fun _ h => List.mem_cons_of_mem _ (List.mem_append_right _ h)) (by decide +kernel))
set_option maxRecDepth 20000 in
theorem gX4_layers_X4_needRange : GoodIn wsX4_layers (va_wsS RX4 44 yX4_needRange wsX4_needRange) := goodIn_app (goodIn_of _ (by decide +kernel)) ggX4_layers_X4_needRange
set_option maxRecDepth 20000 in
theorem ggX4_layers_X2_layersWithin : GoodIn wsX4_layers wsX2_layersWithin := goodIn_r _ [25, 26, 27, 28, 24, 29, 30, 31, 32, 33, 34, 65, 66, 67, 68, 69, 70] (by decide +kernel) (by decide +kernel)
set_option maxRecDepth 20000 in
theorem gX4_layers_X2_layersWithin : GoodIn wsX4_layers (wsV RX4 149 RX2 yX2_layersWithin wsX2_layersWithin) := goodIn_app (goodIn_of _ (by decide +kernel)) ggX4_layers_X2_layersWithin
set_option maxRecDepth 20000 in
theorem ggX4_layers_X2_layersAsTheyFroze : GoodIn wsX4_layers wsX2_layersAsTheyFroze := goodIn_r _ [38, 30, 31, 32, 24, 33, 34, 39, 40, 41, 42, 65, 66, 67, 68, 69, 70] (by decide +kernel) (by decide +kernel)
set_option maxRecDepth 20000 in
theorem gX4_layers_X2_layersAsTheyFroze : GoodIn wsX4_layers (wsV RX4 152 RX2 yX2_layersAsTheyFroze wsX2_layersAsTheyFroze) := goodIn_app (goodIn_of _ (by decide +kernel)) ggX4_layers_X2_layersAsTheyFroze
theorem dX4_layers_0 : decode cX4_layers 0 = .ok (.aload_n 0, 1) := by decide +kernel
theorem dX4_layers_1 : decode cX4_layers 1 = .ok (.iload_n 1, 1) := by decide +kernel
theorem dX4_layers_2 : decode cX4_layers 2 = .ok (.invokevirtual 106, 3) := by decide +kernel
theorem dX4_layers_5 : decode cX4_layers 5 = .ok (.iload_n 2, 1) := by decide +kernel
theorem dX4_layers_6 : decode cX4_layers 6 = .ok (.iconst 0, 1) := by decide +kernel
theorem dX4_layers_7 : decode cX4_layers 7 = .ok (.iconst 1, 1) := by decide +kernel
theorem dX4_layers_8 : decode cX4_layers 8 = .ok (.invokestatic 44, 3) := by decide +kernel
theorem dX4_layers_11 : decode cX4_layers 11 = .ok (.iload_n 2, 1) := by decide +kernel
theorem dX4_layers_12 : decode cX4_layers 12 = .ok (.ifCond .ne 20, 3) := by decide +kernel
theorem dX4_layers_15 : decode cX4_layers 15 = .ok (.aload_n 0, 1) := by decide +kernel
theorem dX4_layers_16 : decode cX4_layers 16 = .ok (.getfield 19, 3) := by decide +kernel
theorem dX4_layers_19 : decode cX4_layers 19 = .ok (.getfield 109, 3) := by decide +kernel
theorem dX4_layers_22 : decode cX4_layers 22 = .ok (.iload_n 1, 1) := by decide +kernel
theorem dX4_layers_23 : decode cX4_layers 23 = .ok (.aaload, 1) := by decide +kernel
theorem dX4_layers_24 : decode cX4_layers 24 = .ok (.bipush 30, 2) := by decide +kernel
theorem dX4_layers_26 : decode cX4_layers 26 = .ok (.invokevirtual 149, 3) := by decide +kernel
theorem dX4_layers_29 : decode cX4_layers 29 = .ok (.goto 15, 3) := by decide +kernel
theorem dX4_layers_32 : decode cX4_layers 32 = .ok (.aload_n 0, 1) := by decide +kernel
theorem dX4_layers_33 : decode cX4_layers 33 = .ok (.getfield 19, 3) := by decide +kernel
theorem dX4_layers_36 : decode cX4_layers 36 = .ok (.getfield 109, 3) := by decide +kernel
theorem dX4_layers_39 : decode cX4_layers 39 = .ok (.iload_n 1, 1) := by decide +kernel
theorem dX4_layers_40 : decode cX4_layers 40 = .ok (.aaload, 1) := by decide +kernel
theorem dX4_layers_41 : decode cX4_layers 41 = .ok (.invokevirtual 152, 3) := by decide +kernel
theorem dX4_layers_44 : decode cX4_layers 44 = .ok (.ireturn, 1) := by decide +kernel
set_option maxRecDepth 20000 in
theorem ggX4_oldest_X0_frozenCells : GoodIn wsX4_oldest wsX0_frozenCells := goodIn_r _ [8, 9, 10, 11, 12, 13, 14, 15, 16, 17, 18, 19, 20, 35, 36, 37, 38, 39, 40, 41, 42, 43, 44, 45, 46, 47, 48, 49, 50, 51, 52, 53, 54, 55] (by decide +kernel) (by decide +kernel)
set_option maxRecDepth 20000 in
theorem gX4_oldest_X0_frozenCells : GoodIn wsX4_oldest (wsV RX4 155 RX0 yX0_frozenCells wsX0_frozenCells) := goodIn_app (goodIn_of _ (by decide +kernel)) ggX4_oldest_X0_frozenCells
set_option maxRecDepth 20000 in
theorem ggX4_oldest_X0_nextAgeKey : GoodIn wsX4_oldest wsX0_nextAgeKey := goodIn_r _ [24, 25, 9, 10, 26, 27, 17, 18, 14, 19, 20, 35, 36, 37, 38, 39, 40, 41, 42, 43, 44, 45, 46, 47, 48, 49, 50, 51, 52, 53, 54, 55] (by decide +kernel) (by decide +kernel)
set_option maxRecDepth 20000 in
theorem gX4_oldest_X0_nextAgeKey : GoodIn wsX4_oldest (wsV RX4 160 RX0 yX0_nextAgeKey wsX0_nextAgeKey) := goodIn_app (goodIn_of _ (by decide +kernel)) ggX4_oldest_X0_nextAgeKey
theorem dX4_oldest_0 : decode cX4_oldest 0 = .ok (.iload_n 1, 1) := by decide +kernel
theorem dX4_oldest_1 : decode cX4_oldest 1 = .ok (.ifCond .lt 14, 3) := by decide +kernel
theorem dX4_oldest_4 : decode cX4_oldest 4 = .ok (.iload_n 1, 1) := by decide +kernel
theorem dX4_oldest_5 : decode cX4_oldest 5 = .ok (.aload_n 0, 1) := by decide +kernel
theorem dX4_oldest_6 : decode cX4_oldest 6 = .ok (.getfield 19, 3) := by decide +kernel
theorem dX4_oldest_9 : decode cX4_oldest 9 = .ok (.invokevirtual 155, 3) := by decide +kernel
theorem dX4_oldest_12 : decode cX4_oldest 12 = .ok (.if_icmp .lt 13, 3) := by decide +kernel
theorem dX4_oldest_15 : decode cX4_oldest 15 = .ok (.new 126, 3) := by decide +kernel
theorem dX4_oldest_18 : decode cX4_oldest 18 = .ok (.dup, 1) := by decide +kernel
theorem dX4_oldest_19 : decode cX4_oldest 19 = .ok (.ldc 158, 2) := by decide +kernel
theorem dX4_oldest_21 : decode cX4_oldest 21 = .ok (.invokespecial 130, 3) := by decide +kernel
theorem dX4_oldest_24 : decode cX4_oldest 24 = .ok (.athrow, 1) := by decide +kernel
theorem dX4_oldest_25 : decode cX4_oldest 25 = .ok (.iconst (-1), 1) := by decide +kernel
theorem dX4_oldest_26 : decode cX4_oldest 26 = .ok (.istore_n 2, 1) := by decide +kernel
theorem dX4_oldest_27 : decode cX4_oldest 27 = .ok (.iconst 0, 1) := by decide +kernel
theorem dX4_oldest_28 : decode cX4_oldest 28 = .ok (.istore_n 3, 1) := by decide +kernel
theorem dX4_oldest_29 : decode cX4_oldest 29 = .ok (.iload_n 3, 1) := by decide +kernel
theorem dX4_oldest_30 : decode cX4_oldest 30 = .ok (.iload_n 1, 1) := by decide +kernel
theorem dX4_oldest_31 : decode cX4_oldest 31 = .ok (.if_icmp .gt 18, 3) := by decide +kernel
theorem dX4_oldest_34 : decode cX4_oldest 34 = .ok (.aload_n 0, 1) := by decide +kernel
theorem dX4_oldest_35 : decode cX4_oldest 35 = .ok (.getfield 19, 3) := by decide +kernel
theorem dX4_oldest_38 : decode cX4_oldest 38 = .ok (.iload_n 2, 1) := by decide +kernel
theorem dX4_oldest_39 : decode cX4_oldest 39 = .ok (.invokevirtual 160, 3) := by decide +kernel
theorem dX4_oldest_42 : decode cX4_oldest 42 = .ok (.istore_n 2, 1) := by decide +kernel
theorem dX4_oldest_43 : decode cX4_oldest 43 = .ok (.iinc 3 1, 3) := by decide +kernel
theorem dX4_oldest_46 : decode cX4_oldest 46 = .ok (.goto (-17), 3) := by decide +kernel
theorem dX4_oldest_49 : decode cX4_oldest 49 = .ok (.iload_n 2, 1) := by decide +kernel
theorem dX4_oldest_50 : decode cX4_oldest 50 = .ok (.sipush 1000, 3) := by decide +kernel
theorem dX4_oldest_53 : decode cX4_oldest 53 = .ok (.irem, 1) := by decide +kernel
theorem dX4_oldest_54 : decode cX4_oldest 54 = .ok (.ireturn, 1) := by decide +kernel
set_option maxRecDepth 20000 in
theorem ggX4_site_X4_act : GoodIn wsX4_site wsX4_act := goodIn_ca (goodIn_ca (goodIn_ca (goodIn_r _ [5, 6, 7, 8, 9, 10, 11, 12, 13, 14, 15, 16, 17, 18, 19, 20, 21, 22, 23, 24, 25, 26, 27, 28, 29, 30, 31, 32, 33, 34, 35, 36, 37, 38, 39, 40, 41, 42, 43, 44, 45, 46, 47, 48, 49, 50, 51, 52, 53, 54, 55, 56, 57, 58, 59, 60, 61, 62, 63, 64, 65, 66, 67, 68, 69, 70, 71, 72, 73, 74, 75, 76, 77, 78, 79, 80, 81, 82, 83, 84, 85, 86, 87, 88, 89, 90, 91, 92, 93, 94, 95, 96, 97, 98, 99, 100, 101, 102, 103, 104, 105, 106, 107, 108, 109, 110, 111, 112, 113, 114, 115, 116, 117, 118, 119, 120, 121, 122, 123, 124, 125, 126, 127, 128, 129, 130, 131, 132, 133, 134, 135, 136, 137, 138, 139, 140, 141, 142, 143, 144, 145, 146, 147, 148, 149, 150, 151, 152, 153, 154, 155, 156, 157, 158, 159, 160, 161, 162, 163, 164, 165, 166, 167, 168, 169, 170, 171, 172, 173, 174, 175, 176, 177, 178, 179, 180, 181, 182, 183, 184, 185, 186, 187, 188, 189, 190, 191, 192, 193, 194, 195, 196, 197, 198, 199, 200, 201, 202, 203] (by decide +kernel) (by decide +kernel)) (goodIn_sub (fun _ h => List.mem_cons_of_mem _ (List.mem_append_left _ (List.mem_append_left _ (List.mem_append_right _ h)))) (by decide +kernel))) (goodIn_sub (fun _ h => List.mem_cons_of_mem _ (List.mem_append_left _ (List.mem_append_right _ h))) (by decide +kernel))) (goodIn_sub (fun _ h => List.mem_cons_of_mem _ (List.mem_append_right _ h)) (by decide +kernel))
set_option maxRecDepth 20000 in
theorem gX4_site_X4_act : GoodIn wsX4_site (wsV RX4 163 RX4 yX4_act wsX4_act) := goodIn_app (goodIn_of _ (by decide +kernel)) ggX4_site_X4_act
theorem dX4_site_0 : decode cX4_site 0 = .ok (.aload_n 0, 1) := by decide +kernel
theorem dX4_site_1 : decode cX4_site 1 = .ok (.bipush 115, 2) := by decide +kernel
theorem dX4_site_3 : decode cX4_site 3 = .ok (.iconst 0, 1) := by decide +kernel
theorem dX4_site_4 : decode cX4_site 4 = .ok (.iconst 0, 1) := by decide +kernel
theorem dX4_site_5 : decode cX4_site 5 = .ok (.iconst 0, 1) := by decide +kernel
theorem dX4_site_6 : decode cX4_site 6 = .ok (.invokevirtual 163, 3) := by decide +kernel
theorem dX4_site_9 : decode cX4_site 9 = .ok (.ireturn, 1) := by decide +kernel
set_option maxRecDepth 20000 in
theorem ggX4_tube_X4_act : GoodIn wsX4_tube wsX4_act := goodIn_ca (goodIn_ca (goodIn_ca (goodIn_r _ [5, 6, 7, 8, 9, 10, 11, 12, 13, 14, 15, 16, 17, 18, 19, 20, 21, 22, 23, 24, 25, 26, 27, 28, 29, 30, 31, 32, 33, 34, 35, 36, 37, 38, 39, 40, 41, 42, 43, 44, 45, 46, 47, 48, 49, 50, 51, 52, 53, 54, 55, 56, 57, 58, 59, 60, 61, 62, 63, 64, 65, 66, 67, 68, 69, 70, 71, 72, 73, 74, 75, 76, 77, 78, 79, 80, 81, 82, 83, 84, 85, 86, 87, 88, 89, 90, 91, 92, 93, 94, 95, 96, 97, 98, 99, 100, 101, 102, 103, 104, 105, 106, 107, 108, 109, 110, 111, 112, 113, 114, 115, 116, 117, 118, 119, 120, 121, 122, 123, 124, 125, 126, 127, 128, 129, 130, 131, 132, 133, 134, 135, 136, 137, 138, 139, 140, 141, 142, 143, 144, 145, 146, 147, 148, 149, 150, 151, 152, 153, 154, 155, 156, 157, 158, 159, 160, 161, 162, 163, 164, 165, 166, 167, 168, 169, 170, 171, 172, 173, 174, 175, 176, 177, 178, 179, 180, 181, 182, 183, 184, 185, 186, 187, 188, 189, 190, 191, 192, 193, 194, 195, 196, 197, 198, 199, 200, 201, 202, 203] (by decide +kernel) (by decide +kernel)) (goodIn_sub (fun _ h => List.mem_cons_of_mem _ (List.mem_append_left _ (List.mem_append_left _ (List.mem_append_right _ h)))) (by decide +kernel))) (goodIn_sub (fun _ h => List.mem_cons_of_mem _ (List.mem_append_left _ (List.mem_append_right _ h))) (by decide +kernel))) (goodIn_sub (fun _ h => List.mem_cons_of_mem _ (List.mem_append_right _ h)) (by decide +kernel))
set_option maxRecDepth 20000 in
theorem gX4_tube_X4_act : GoodIn wsX4_tube (wsV RX4 163 RX4 yX4_act wsX4_act) := goodIn_app (goodIn_of _ (by decide +kernel)) ggX4_tube_X4_act
theorem dX4_tube_0 : decode cX4_tube 0 = .ok (.aload_n 0, 1) := by decide +kernel
theorem dX4_tube_1 : decode cX4_tube 1 = .ok (.bipush 116, 2) := by decide +kernel
theorem dX4_tube_3 : decode cX4_tube 3 = .ok (.iload_n 1, 1) := by decide +kernel
theorem dX4_tube_4 : decode cX4_tube 4 = .ok (.iload_n 2, 1) := by decide +kernel
theorem dX4_tube_5 : decode cX4_tube 5 = .ok (.iconst 0, 1) := by decide +kernel
theorem dX4_tube_6 : decode cX4_tube 6 = .ok (.invokevirtual 163, 3) := by decide +kernel
theorem dX4_tube_9 : decode cX4_tube 9 = .ok (.ireturn, 1) := by decide +kernel
set_option maxRecDepth 20000 in
theorem ggX4_pipe_X4_act : GoodIn wsX4_pipe wsX4_act := goodIn_ca (goodIn_ca (goodIn_ca (goodIn_r _ [5, 6, 7, 8, 9, 10, 11, 12, 13, 14, 15, 16, 17, 18, 19, 20, 21, 22, 23, 24, 25, 26, 27, 28, 29, 30, 31, 32, 33, 34, 35, 36, 37, 38, 39, 40, 41, 42, 43, 44, 45, 46, 47, 48, 49, 50, 51, 52, 53, 54, 55, 56, 57, 58, 59, 60, 61, 62, 63, 64, 65, 66, 67, 68, 69, 70, 71, 72, 73, 74, 75, 76, 77, 78, 79, 80, 81, 82, 83, 84, 85, 86, 87, 88, 89, 90, 91, 92, 93, 94, 95, 96, 97, 98, 99, 100, 101, 102, 103, 104, 105, 106, 107, 108, 109, 110, 111, 112, 113, 114, 115, 116, 117, 118, 119, 120, 121, 122, 123, 124, 125, 126, 127, 128, 129, 130, 131, 132, 133, 134, 135, 136, 137, 138, 139, 140, 141, 142, 143, 144, 145, 146, 147, 148, 149, 150, 151, 152, 153, 154, 155, 156, 157, 158, 159, 160, 161, 162, 163, 164, 165, 166, 167, 168, 169, 170, 171, 172, 173, 174, 175, 176, 177, 178, 179, 180, 181, 182, 183, 184, 185, 186, 187, 188, 189, 190, 191, 192, 193, 194, 195, 196, 197, 198, 199, 200, 201, 202, 203] (by decide +kernel) (by decide +kernel)) (goodIn_sub (fun _ h => List.mem_cons_of_mem _ (List.mem_append_left _ (List.mem_append_left _ (List.mem_append_right _ h)))) (by decide +kernel))) (goodIn_sub (fun _ h => List.mem_cons_of_mem _ (List.mem_append_left _ (List.mem_append_right _ h))) (by decide +kernel))) (goodIn_sub (fun _ h => List.mem_cons_of_mem _ (List.mem_append_right _ h)) (by decide +kernel))
set_option maxRecDepth 20000 in
theorem gX4_pipe_X4_act : GoodIn wsX4_pipe (wsV RX4 163 RX4 yX4_act wsX4_act) := goodIn_app (goodIn_of _ (by decide +kernel)) ggX4_pipe_X4_act
theorem dX4_pipe_0 : decode cX4_pipe 0 = .ok (.aload_n 0, 1) := by decide +kernel
theorem dX4_pipe_1 : decode cX4_pipe 1 = .ok (.bipush 112, 2) := by decide +kernel
theorem dX4_pipe_3 : decode cX4_pipe 3 = .ok (.iload_n 1, 1) := by decide +kernel
theorem dX4_pipe_4 : decode cX4_pipe 4 = .ok (.iload_n 2, 1) := by decide +kernel
theorem dX4_pipe_5 : decode cX4_pipe 5 = .ok (.iconst 0, 1) := by decide +kernel
theorem dX4_pipe_6 : decode cX4_pipe 6 = .ok (.invokevirtual 163, 3) := by decide +kernel
theorem dX4_pipe_9 : decode cX4_pipe 9 = .ok (.ireturn, 1) := by decide +kernel
set_option maxRecDepth 20000 in
theorem ggX4_fence_X4_act : GoodIn wsX4_fence wsX4_act := goodIn_ca (goodIn_ca (goodIn_ca (goodIn_r _ [5, 6, 7, 8, 9, 10, 11, 12, 13, 14, 15, 16, 17, 18, 19, 20, 21, 22, 23, 24, 25, 26, 27, 28, 29, 30, 31, 32, 33, 34, 35, 36, 37, 38, 39, 40, 41, 42, 43, 44, 45, 46, 47, 48, 49, 50, 51, 52, 53, 54, 55, 56, 57, 58, 59, 60, 61, 62, 63, 64, 65, 66, 67, 68, 69, 70, 71, 72, 73, 74, 75, 76, 77, 78, 79, 80, 81, 82, 83, 84, 85, 86, 87, 88, 89, 90, 91, 92, 93, 94, 95, 96, 97, 98, 99, 100, 101, 102, 103, 104, 105, 106, 107, 108, 109, 110, 111, 112, 113, 114, 115, 116, 117, 118, 119, 120, 121, 122, 123, 124, 125, 126, 127, 128, 129, 130, 131, 132, 133, 134, 135, 136, 137, 138, 139, 140, 141, 142, 143, 144, 145, 146, 147, 148, 149, 150, 151, 152, 153, 154, 155, 156, 157, 158, 159, 160, 161, 162, 163, 164, 165, 166, 167, 168, 169, 170, 171, 172, 173, 174, 175, 176, 177, 178, 179, 180, 181, 182, 183, 184, 185, 186, 187, 188, 189, 190, 191, 192, 193, 194, 195, 196, 197, 198, 199, 200, 201, 202, 203] (by decide +kernel) (by decide +kernel)) (goodIn_sub (fun _ h => List.mem_cons_of_mem _ (List.mem_append_left _ (List.mem_append_left _ (List.mem_append_right _ h)))) (by decide +kernel))) (goodIn_sub (fun _ h => List.mem_cons_of_mem _ (List.mem_append_left _ (List.mem_append_right _ h))) (by decide +kernel))) (goodIn_sub (fun _ h => List.mem_cons_of_mem _ (List.mem_append_right _ h)) (by decide +kernel))
set_option maxRecDepth 20000 in
theorem gX4_fence_X4_act : GoodIn wsX4_fence (wsV RX4 163 RX4 yX4_act wsX4_act) := goodIn_app (goodIn_of _ (by decide +kernel)) ggX4_fence_X4_act
theorem dX4_fence_0 : decode cX4_fence 0 = .ok (.aload_n 0, 1) := by decide +kernel
theorem dX4_fence_1 : decode cX4_fence 1 = .ok (.bipush 102, 2) := by decide +kernel
theorem dX4_fence_3 : decode cX4_fence 3 = .ok (.iload_n 1, 1) := by decide +kernel
theorem dX4_fence_4 : decode cX4_fence 4 = .ok (.iload_n 2, 1) := by decide +kernel
theorem dX4_fence_5 : decode cX4_fence 5 = .ok (.iconst 0, 1) := by decide +kernel
theorem dX4_fence_6 : decode cX4_fence 6 = .ok (.invokevirtual 163, 3) := by decide +kernel
theorem dX4_fence_9 : decode cX4_fence 9 = .ok (.ireturn, 1) := by decide +kernel
set_option maxRecDepth 20000 in
theorem ggX4_shovel_X4_act : GoodIn wsX4_shovel wsX4_act := goodIn_ca (goodIn_ca (goodIn_ca (goodIn_r _ [5, 6, 7, 8, 9, 10, 11, 12, 13, 14, 15, 16, 17, 18, 19, 20, 21, 22, 23, 24, 25, 26, 27, 28, 29, 30, 31, 32, 33, 34, 35, 36, 37, 38, 39, 40, 41, 42, 43, 44, 45, 46, 47, 48, 49, 50, 51, 52, 53, 54, 55, 56, 57, 58, 59, 60, 61, 62, 63, 64, 65, 66, 67, 68, 69, 70, 71, 72, 73, 74, 75, 76, 77, 78, 79, 80, 81, 82, 83, 84, 85, 86, 87, 88, 89, 90, 91, 92, 93, 94, 95, 96, 97, 98, 99, 100, 101, 102, 103, 104, 105, 106, 107, 108, 109, 110, 111, 112, 113, 114, 115, 116, 117, 118, 119, 120, 121, 122, 123, 124, 125, 126, 127, 128, 129, 130, 131, 132, 133, 134, 135, 136, 137, 138, 139, 140, 141, 142, 143, 144, 145, 146, 147, 148, 149, 150, 151, 152, 153, 154, 155, 156, 157, 158, 159, 160, 161, 162, 163, 164, 165, 166, 167, 168, 169, 170, 171, 172, 173, 174, 175, 176, 177, 178, 179, 180, 181, 182, 183, 184, 185, 186, 187, 188, 189, 190, 191, 192, 193, 194, 195, 196, 197, 198, 199, 200, 201, 202, 203] (by decide +kernel) (by decide +kernel)) (goodIn_sub (fun _ h => List.mem_cons_of_mem _ (List.mem_append_left _ (List.mem_append_left _ (List.mem_append_right _ h)))) (by decide +kernel))) (goodIn_sub (fun _ h => List.mem_cons_of_mem _ (List.mem_append_left _ (List.mem_append_right _ h))) (by decide +kernel))) (goodIn_sub (fun _ h => List.mem_cons_of_mem _ (List.mem_append_right _ h)) (by decide +kernel))
set_option maxRecDepth 20000 in
theorem gX4_shovel_X4_act : GoodIn wsX4_shovel (wsV RX4 163 RX4 yX4_act wsX4_act) := goodIn_app (goodIn_of _ (by decide +kernel)) ggX4_shovel_X4_act
theorem dX4_shovel_0 : decode cX4_shovel 0 = .ok (.aload_n 0, 1) := by decide +kernel
theorem dX4_shovel_1 : decode cX4_shovel 1 = .ok (.bipush 120, 2) := by decide +kernel
theorem dX4_shovel_3 : decode cX4_shovel 3 = .ok (.iload_n 1, 1) := by decide +kernel
theorem dX4_shovel_4 : decode cX4_shovel 4 = .ok (.iconst 0, 1) := by decide +kernel
theorem dX4_shovel_5 : decode cX4_shovel 5 = .ok (.iconst 0, 1) := by decide +kernel
theorem dX4_shovel_6 : decode cX4_shovel 6 = .ok (.invokevirtual 163, 3) := by decide +kernel
theorem dX4_shovel_9 : decode cX4_shovel 9 = .ok (.ireturn, 1) := by decide +kernel
set_option maxRecDepth 20000 in
theorem ggX4_days_X4_act : GoodIn wsX4_days wsX4_act := goodIn_ca (goodIn_ca (goodIn_ca (goodIn_r _ [5, 6, 7, 8, 9, 10, 11, 12, 13, 14, 15, 16, 17, 18, 19, 20, 21, 22, 23, 24, 25, 26, 27, 28, 29, 30, 31, 32, 33, 34, 35, 36, 37, 38, 39, 40, 41, 42, 43, 44, 45, 46, 47, 48, 49, 50, 51, 52, 53, 54, 55, 56, 57, 58, 59, 60, 61, 62, 63, 64, 65, 66, 67, 68, 69, 70, 71, 72, 73, 74, 75, 76, 77, 78, 79, 80, 81, 82, 83, 84, 85, 86, 87, 88, 89, 90, 91, 92, 93, 94, 95, 96, 97, 98, 99, 100, 101, 102, 103, 104, 105, 106, 107, 108, 109, 110, 111, 112, 113, 114, 115, 116, 117, 118, 119, 120, 121, 122, 123, 124, 125, 126, 127, 128, 129, 130, 131, 132, 133, 134, 135, 136, 137, 138, 139, 140, 141, 142, 143, 144, 145, 146, 147, 148, 149, 150, 151, 152, 153, 154, 155, 156, 157, 158, 159, 160, 161, 162, 163, 164, 165, 166, 167, 168, 169, 170, 171, 172, 173, 174, 175, 176, 177, 178, 179, 180, 181, 182, 183, 184, 185, 186, 187, 188, 189, 190, 191, 192, 193, 194, 195, 196, 197, 198, 199, 200, 201, 202, 203] (by decide +kernel) (by decide +kernel)) (goodIn_sub (fun _ h => List.mem_cons_of_mem _ (List.mem_append_left _ (List.mem_append_left _ (List.mem_append_right _ h)))) (by decide +kernel))) (goodIn_sub (fun _ h => List.mem_cons_of_mem _ (List.mem_append_left _ (List.mem_append_right _ h))) (by decide +kernel))) (goodIn_sub (fun _ h => List.mem_cons_of_mem _ (List.mem_append_right _ h)) (by decide +kernel))
set_option maxRecDepth 20000 in
theorem gX4_days_X4_act : GoodIn wsX4_days (wsV RX4 163 RX4 yX4_act wsX4_act) := goodIn_app (goodIn_of _ (by decide +kernel)) ggX4_days_X4_act
theorem dX4_days_0 : decode cX4_days 0 = .ok (.aload_n 0, 1) := by decide +kernel
theorem dX4_days_1 : decode cX4_days 1 = .ok (.bipush 100, 2) := by decide +kernel
theorem dX4_days_3 : decode cX4_days 3 = .ok (.iload_n 1, 1) := by decide +kernel
theorem dX4_days_4 : decode cX4_days 4 = .ok (.iload_n 2, 1) := by decide +kernel
theorem dX4_days_5 : decode cX4_days 5 = .ok (.iload_n 3, 1) := by decide +kernel
theorem dX4_days_6 : decode cX4_days 6 = .ok (.invokevirtual 163, 3) := by decide +kernel
theorem dX4_days_9 : decode cX4_days 9 = .ok (.ireturn, 1) := by decide +kernel
set_option maxRecDepth 20000 in
theorem ggX4_winter_X4_act : GoodIn wsX4_winter wsX4_act := goodIn_ca (goodIn_ca (goodIn_ca (goodIn_r _ [5, 6, 7, 8, 9, 10, 11, 12, 13, 14, 15, 16, 17, 18, 19, 20, 21, 22, 23, 24, 25, 26, 27, 28, 29, 30, 31, 32, 33, 34, 35, 36, 37, 38, 39, 40, 41, 42, 43, 44, 45, 46, 47, 48, 49, 50, 51, 52, 53, 54, 55, 56, 57, 58, 59, 60, 61, 62, 63, 64, 65, 66, 67, 68, 69, 70, 71, 72, 73, 74, 75, 76, 77, 78, 79, 80, 81, 82, 83, 84, 85, 86, 87, 88, 89, 90, 91, 92, 93, 94, 95, 96, 97, 98, 99, 100, 101, 102, 103, 104, 105, 106, 107, 108, 109, 110, 111, 112, 113, 114, 115, 116, 117, 118, 119, 120, 121, 122, 123, 124, 125, 126, 127, 128, 129, 130, 131, 132, 133, 134, 135, 136, 137, 138, 139, 140, 141, 142, 143, 144, 145, 146, 147, 148, 149, 150, 151, 152, 153, 154, 155, 156, 157, 158, 159, 160, 161, 162, 163, 164, 165, 166, 167, 168, 169, 170, 171, 172, 173, 174, 175, 176, 177, 178, 179, 180, 181, 182, 183, 184, 185, 186, 187, 188, 189, 190, 191, 192, 193, 194, 195, 196, 197, 198, 199, 200, 201, 202, 203] (by decide +kernel) (by decide +kernel)) (goodIn_sub (fun _ h => List.mem_cons_of_mem _ (List.mem_append_left _ (List.mem_append_left _ (List.mem_append_right _ h)))) (by decide +kernel))) (goodIn_sub (fun _ h => List.mem_cons_of_mem _ (List.mem_append_left _ (List.mem_append_right _ h))) (by decide +kernel))) (goodIn_sub (fun _ h => List.mem_cons_of_mem _ (List.mem_append_right _ h)) (by decide +kernel))
set_option maxRecDepth 20000 in
theorem gX4_winter_X4_act : GoodIn wsX4_winter (wsV RX4 163 RX4 yX4_act wsX4_act) := goodIn_app (goodIn_of _ (by decide +kernel)) ggX4_winter_X4_act
theorem dX4_winter_0 : decode cX4_winter 0 = .ok (.aload_n 0, 1) := by decide +kernel
theorem dX4_winter_1 : decode cX4_winter 1 = .ok (.bipush 119, 2) := by decide +kernel
theorem dX4_winter_3 : decode cX4_winter 3 = .ok (.iconst 0, 1) := by decide +kernel
theorem dX4_winter_4 : decode cX4_winter 4 = .ok (.iconst 0, 1) := by decide +kernel
theorem dX4_winter_5 : decode cX4_winter 5 = .ok (.iconst 0, 1) := by decide +kernel
theorem dX4_winter_6 : decode cX4_winter 6 = .ok (.invokevirtual 163, 3) := by decide +kernel
theorem dX4_winter_9 : decode cX4_winter 9 = .ok (.ireturn, 1) := by decide +kernel
set_option maxRecDepth 20000 in
theorem ggX4_set_X4_act : GoodIn wsX4_set wsX4_act := goodIn_ca (goodIn_ca (goodIn_ca (goodIn_r _ [5, 6, 7, 8, 9, 10, 11, 12, 13, 14, 15, 16, 17, 18, 19, 20, 21, 22, 23, 24, 25, 26, 27, 28, 29, 30, 31, 32, 33, 34, 35, 36, 37, 38, 39, 40, 41, 42, 43, 44, 45, 46, 47, 48, 49, 50, 51, 52, 53, 54, 55, 56, 57, 58, 59, 60, 61, 62, 63, 64, 65, 66, 67, 68, 69, 70, 71, 72, 73, 74, 75, 76, 77, 78, 79, 80, 81, 82, 83, 84, 85, 86, 87, 88, 89, 90, 91, 92, 93, 94, 95, 96, 97, 98, 99, 100, 101, 102, 103, 104, 105, 106, 107, 108, 109, 110, 111, 112, 113, 114, 115, 116, 117, 118, 119, 120, 121, 122, 123, 124, 125, 126, 127, 128, 129, 130, 131, 132, 133, 134, 135, 136, 137, 138, 139, 140, 141, 142, 143, 144, 145, 146, 147, 148, 149, 150, 151, 152, 153, 154, 155, 156, 157, 158, 159, 160, 161, 162, 163, 164, 165, 166, 167, 168, 169, 170, 171, 172, 173, 174, 175, 176, 177, 178, 179, 180, 181, 182, 183, 184, 185, 186, 187, 188, 189, 190, 191, 192, 193, 194, 195, 196, 197, 198, 199, 200, 201, 202, 203] (by decide +kernel) (by decide +kernel)) (goodIn_sub (fun _ h => List.mem_cons_of_mem _ (List.mem_append_left _ (List.mem_append_left _ (List.mem_append_right _ h)))) (by decide +kernel))) (goodIn_sub (fun _ h => List.mem_cons_of_mem _ (List.mem_append_left _ (List.mem_append_right _ h))) (by decide +kernel))) (goodIn_sub (fun _ h => List.mem_cons_of_mem _ (List.mem_append_right _ h)) (by decide +kernel))
set_option maxRecDepth 20000 in
theorem gX4_set_X4_act : GoodIn wsX4_set (wsV RX4 163 RX4 yX4_act wsX4_act) := goodIn_app (goodIn_of _ (by decide +kernel)) ggX4_set_X4_act
theorem dX4_set_0 : decode cX4_set 0 = .ok (.aload_n 0, 1) := by decide +kernel
theorem dX4_set_1 : decode cX4_set 1 = .ok (.bipush 101, 2) := by decide +kernel
theorem dX4_set_3 : decode cX4_set 3 = .ok (.iload_n 1, 1) := by decide +kernel
theorem dX4_set_4 : decode cX4_set 4 = .ok (.iload_n 2, 1) := by decide +kernel
theorem dX4_set_5 : decode cX4_set 5 = .ok (.iconst 0, 1) := by decide +kernel
theorem dX4_set_6 : decode cX4_set 6 = .ok (.invokevirtual 163, 3) := by decide +kernel
theorem dX4_set_9 : decode cX4_set 9 = .ok (.ireturn, 1) := by decide +kernel
set_option maxRecDepth 20000 in
theorem ggX4_undo_X1_takeBack : GoodIn wsX4_undo wsX1_takeBack := goodIn_r _ [10, 11, 12, 13, 14, 15, 16, 17, 18, 19, 20, 21, 22, 23, 24, 25, 26, 27, 28, 29, 30, 31, 32, 33, 34, 35, 36, 37, 38, 39, 40, 41, 42, 43, 44, 45, 46, 47, 48, 49, 57, 58, 59, 60, 61, 62, 63, 64, 65, 66, 67, 68, 69, 70, 71, 72, 73, 74, 75, 76, 77, 78, 79, 80] (by decide +kernel) (by decide +kernel)
set_option maxRecDepth 20000 in
theorem gX4_undo_X1_takeBack : GoodIn wsX4_undo (wsV RX4 171 RX1 yX1_takeBack wsX1_takeBack) := goodIn_app (goodIn_of _ (by decide +kernel)) ggX4_undo_X1_takeBack
theorem dX4_undo_0 : decode cX4_undo 0 = .ok (.aload_n 0, 1) := by decide +kernel
theorem dX4_undo_1 : decode cX4_undo 1 = .ok (.getfield 32, 3) := by decide +kernel
theorem dX4_undo_4 : decode cX4_undo 4 = .ok (.getfield 166, 3) := by decide +kernel
theorem dX4_undo_7 : decode cX4_undo 7 = .ok (.ifCond .gt 13, 3) := by decide +kernel
theorem dX4_undo_10 : decode cX4_undo 10 = .ok (.new 52, 3) := by decide +kernel
theorem dX4_undo_13 : decode cX4_undo 13 = .ok (.dup, 1) := by decide +kernel
theorem dX4_undo_14 : decode cX4_undo 14 = .ok (.ldc 169, 2) := by decide +kernel
theorem dX4_undo_16 : decode cX4_undo 16 = .ok (.invokespecial 56, 3) := by decide +kernel
theorem dX4_undo_19 : decode cX4_undo 19 = .ok (.athrow, 1) := by decide +kernel
theorem dX4_undo_20 : decode cX4_undo 20 = .ok (.aload_n 0, 1) := by decide +kernel
theorem dX4_undo_21 : decode cX4_undo 21 = .ok (.getfield 32, 3) := by decide +kernel
theorem dX4_undo_24 : decode cX4_undo 24 = .ok (.aload_n 0, 1) := by decide +kernel
theorem dX4_undo_25 : decode cX4_undo 25 = .ok (.getfield 19, 3) := by decide +kernel
theorem dX4_undo_28 : decode cX4_undo 28 = .ok (.invokevirtual 171, 3) := by decide +kernel
theorem dX4_undo_31 : decode cX4_undo 31 = .ok (.aload_n 0, 1) := by decide +kernel
theorem dX4_undo_32 : decode cX4_undo 32 = .ok (.getfield 32, 3) := by decide +kernel
theorem dX4_undo_35 : decode cX4_undo 35 = .ok (.getfield 166, 3) := by decide +kernel
theorem dX4_undo_38 : decode cX4_undo 38 = .ok (.ireturn, 1) := by decide +kernel
set_option maxRecDepth 20000 in
theorem ggX4_goneIn_X4_needSite : GoodIn wsX4_goneIn wsX4_needSite := goodIn_ca (goodIn_r _ [8, 9, 10, 2, 11, 12, 13, 14, 15, 16, 100, 101, 102, 103, 104, 105, 106, 107, 108, 109, 110, 111, 112, 113, 114, 115, 116, 117, 118, 119, 120, 121] (by decide +kernel) (by decide +kernel)) (goodIn_sub (fun _ h => List.mem_cons_of_mem _ (List.mem_append_left _ (List.mem_append_right _ h))) (by decide +kernel))
set_option maxRecDepth 20000 in
theorem gX4_goneIn_X4_needSite : GoodIn wsX4_goneIn (wsV RX4 106 RX4 yX4_needSite wsX4_needSite) := goodIn_app (goodIn_of _ (by decide +kernel)) ggX4_goneIn_X4_needSite
set_option maxRecDepth 20000 in
theorem ggX4_goneIn_X4_needRange : GoodIn wsX4_goneIn wsX4_needRange := goodIn_ca (goodIn_r _ [19, 20, 21] (by decide +kernel) (by decide +kernel)) (goodIn_sub (fun _ h => List.mem_cons_of_mem _ (List.mem_append_right _ h)) (by decide +kernel))
set_option maxRecDepth 20000 in
theorem gX4_goneIn_X4_needRange : GoodIn wsX4_goneIn (va_wsS RX4 44 yX4_needRange wsX4_needRange) := goodIn_app (goodIn_of _ (by decide +kernel)) ggX4_goneIn_X4_needRange
set_option maxRecDepth 20000 in
theorem ggX4_goneIn_X0_copyFrom : GoodIn wsX4_goneIn wsX0_copyFrom := goodIn_r _ [25, 16, 26, 27, 28, 29, 30, 31, 32, 33, 34, 35, 36, 37, 38, 39, 40, 41, 42, 43, 44, 45, 46, 47, 48, 49, 50, 51, 52, 53, 54, 55, 107, 108, 109, 110, 111, 112, 113, 114, 115, 116, 117, 118, 119, 120, 121, 122, 123, 124, 125, 126, 127] (by decide +kernel) (by decide +kernel)
set_option maxRecDepth 20000 in
theorem gX4_goneIn_X0_copyFrom : GoodIn wsX4_goneIn (wsV RX4 69 RX0 yX0_copyFrom wsX0_copyFrom) := goodIn_app (goodIn_of _ (by decide +kernel)) ggX4_goneIn_X0_copyFrom
set_option maxRecDepth 20000 in
theorem ggX4_goneIn_X2_lowestWithin : GoodIn wsX4_goneIn wsX2_lowestWithin := goodIn_r _ [59, 60, 61, 62, 47, 63, 54, 122, 123, 124, 125, 126, 127] (by decide +kernel) (by decide +kernel)
set_option maxRecDepth 20000 in
theorem gX4_goneIn_X2_lowestWithin : GoodIn wsX4_goneIn (wsV RX4 174 RX2 yX2_lowestWithin wsX2_lowestWithin) := goodIn_app (goodIn_of _ (by decide +kernel)) ggX4_goneIn_X2_lowestWithin
set_option maxRecDepth 20000 in
theorem ggX4_goneIn_X0_passDaysAt : GoodIn wsX4_goneIn wsX0_passDaysAt := goodIn_r _ [67, 28, 68, 69, 70, 14, 71, 36, 31, 72, 73, 74, 75, 76, 47, 77, 49, 50, 78, 79, 80, 81, 82, 83, 84, 85, 52, 51, 53, 86, 61, 62, 63, 54, 87, 88, 89, 90, 91, 27, 39, 40, 41, 42, 92, 93, 94, 43, 95, 96, 97, 98, 99, 57, 58, 59, 60, 107, 108, 109, 110, 111, 112, 113, 114, 115, 116, 117, 118, 119, 120, 121, 122, 123, 124, 125, 126, 127] (by decide +kernel) (by decide +kernel)
set_option maxRecDepth 20000 in
theorem gX4_goneIn_X0_passDaysAt : GoodIn wsX4_goneIn (wsV RX4 177 RX0 yX0_passDaysAt wsX0_passDaysAt) := goodIn_app (goodIn_of _ (by decide +kernel)) ggX4_goneIn_X0_passDaysAt
theorem dX4_goneIn_0 : decode cX4_goneIn 0 = .ok (.aload_n 0, 1) := by decide +kernel
theorem dX4_goneIn_1 : decode cX4_goneIn 1 = .ok (.iload_n 1, 1) := by decide +kernel
theorem dX4_goneIn_2 : decode cX4_goneIn 2 = .ok (.invokevirtual 106, 3) := by decide +kernel
theorem dX4_goneIn_5 : decode cX4_goneIn 5 = .ok (.iload_n 2, 1) := by decide +kernel
theorem dX4_goneIn_6 : decode cX4_goneIn 6 = .ok (.iconst 1, 1) := by decide +kernel
theorem dX4_goneIn_7 : decode cX4_goneIn 7 = .ok (.bipush 30, 2) := by decide +kernel
theorem dX4_goneIn_9 : decode cX4_goneIn 9 = .ok (.invokestatic 44, 3) := by decide +kernel
theorem dX4_goneIn_12 : decode cX4_goneIn 12 = .ok (.aload_n 0, 1) := by decide +kernel
theorem dX4_goneIn_13 : decode cX4_goneIn 13 = .ok (.getfield 23, 3) := by decide +kernel
theorem dX4_goneIn_16 : decode cX4_goneIn 16 = .ok (.aload_n 0, 1) := by decide +kernel
theorem dX4_goneIn_17 : decode cX4_goneIn 17 = .ok (.getfield 19, 3) := by decide +kernel
theorem dX4_goneIn_20 : decode cX4_goneIn 20 = .ok (.invokevirtual 69, 3) := by decide +kernel
theorem dX4_goneIn_23 : decode cX4_goneIn 23 = .ok (.aload_n 0, 1) := by decide +kernel
theorem dX4_goneIn_24 : decode cX4_goneIn 24 = .ok (.getfield 23, 3) := by decide +kernel
theorem dX4_goneIn_27 : decode cX4_goneIn 27 = .ok (.getfield 109, 3) := by decide +kernel
theorem dX4_goneIn_30 : decode cX4_goneIn 30 = .ok (.iload_n 1, 1) := by decide +kernel
theorem dX4_goneIn_31 : decode cX4_goneIn 31 = .ok (.aaload, 1) := by decide +kernel
theorem dX4_goneIn_32 : decode cX4_goneIn 32 = .ok (.astore_n 3, 1) := by decide +kernel
theorem dX4_goneIn_33 : decode cX4_goneIn 33 = .ok (.iconst 0, 1) := by decide +kernel
theorem dX4_goneIn_34 : decode cX4_goneIn 34 = .ok (.istore 4, 2) := by decide +kernel
theorem dX4_goneIn_36 : decode cX4_goneIn 36 = .ok (.iload 4, 2) := by decide +kernel
theorem dX4_goneIn_38 : decode cX4_goneIn 38 = .ok (.sipush 400, 3) := by decide +kernel
theorem dX4_goneIn_41 : decode cX4_goneIn 41 = .ok (.if_icmp .gt 33, 3) := by decide +kernel
theorem dX4_goneIn_44 : decode cX4_goneIn 44 = .ok (.aload_n 3, 1) := by decide +kernel
theorem dX4_goneIn_45 : decode cX4_goneIn 45 = .ok (.bipush 30, 2) := by decide +kernel
theorem dX4_goneIn_47 : decode cX4_goneIn 47 = .ok (.invokevirtual 174, 3) := by decide +kernel
theorem dX4_goneIn_50 : decode cX4_goneIn 50 = .ok (.iconst (-1), 1) := by decide +kernel
theorem dX4_goneIn_51 : decode cX4_goneIn 51 = .ok (.if_icmp .ne 6, 3) := by decide +kernel
theorem dX4_goneIn_54 : decode cX4_goneIn 54 = .ok (.iload 4, 2) := by decide +kernel
theorem dX4_goneIn_56 : decode cX4_goneIn 56 = .ok (.ireturn, 1) := by decide +kernel
theorem dX4_goneIn_57 : decode cX4_goneIn 57 = .ok (.aload_n 0, 1) := by decide +kernel
theorem dX4_goneIn_58 : decode cX4_goneIn 58 = .ok (.getfield 23, 3) := by decide +kernel
theorem dX4_goneIn_61 : decode cX4_goneIn 61 = .ok (.iload_n 1, 1) := by decide +kernel
theorem dX4_goneIn_62 : decode cX4_goneIn 62 = .ok (.iload_n 2, 1) := by decide +kernel
theorem dX4_goneIn_63 : decode cX4_goneIn 63 = .ok (.iconst 0, 1) := by decide +kernel
theorem dX4_goneIn_64 : decode cX4_goneIn 64 = .ok (.iconst 1, 1) := by decide +kernel
theorem dX4_goneIn_65 : decode cX4_goneIn 65 = .ok (.invokevirtual 177, 3) := by decide +kernel
theorem dX4_goneIn_68 : decode cX4_goneIn 68 = .ok (.iinc 4 1, 3) := by decide +kernel
theorem dX4_goneIn_71 : decode cX4_goneIn 71 = .ok (.goto (-35), 3) := by decide +kernel
theorem dX4_goneIn_74 : decode cX4_goneIn 74 = .ok (.iconst (-1), 1) := by decide +kernel
theorem dX4_goneIn_75 : decode cX4_goneIn 75 = .ok (.ireturn, 1) := by decide +kernel
set_option maxRecDepth 20000 in
theorem ggX4_reachedIn_X4_needSite : GoodIn wsX4_reachedIn wsX4_needSite := goodIn_ca (goodIn_r _ [8, 9, 10, 2, 11, 12, 13, 14, 15, 16, 103, 104, 105, 106, 107, 108, 109, 110, 111, 112, 113, 114, 115, 116, 117, 118, 119, 120, 121, 122, 123, 124] (by decide +kernel) (by decide +kernel)) (goodIn_sub (fun _ h => List.mem_cons_of_mem _ (List.mem_append_left _ (List.mem_append_right _ h))) (by decide +kernel))
set_option maxRecDepth 20000 in
theorem gX4_reachedIn_X4_needSite : GoodIn wsX4_reachedIn (wsV RX4 106 RX4 yX4_needSite wsX4_needSite) := goodIn_app (goodIn_of _ (by decide +kernel)) ggX4_reachedIn_X4_needSite
set_option maxRecDepth 20000 in
theorem ggX4_reachedIn_X4_needCell : GoodIn wsX4_reachedIn wsX4_needCell := goodIn_ca (goodIn_r _ [19, 9, 10] (by decide +kernel) (by decide +kernel)) (goodIn_sub (fun _ h => List.mem_cons_of_mem _ (List.mem_append_left _ (List.mem_append_right _ h))) (by decide +kernel))
set_option maxRecDepth 20000 in
theorem gX4_reachedIn_X4_needCell : GoodIn wsX4_reachedIn (va_wsS RX4 116 yX4_needCell wsX4_needCell) := goodIn_app (goodIn_of _ (by decide +kernel)) ggX4_reachedIn_X4_needCell
set_option maxRecDepth 20000 in
theorem ggX4_reachedIn_X4_needRange : GoodIn wsX4_reachedIn wsX4_needRange := goodIn_ca (goodIn_r _ [22, 23, 24] (by decide +kernel) (by decide +kernel)) (goodIn_sub (fun _ h => List.mem_cons_of_mem _ (List.mem_append_right _ h)) (by decide +kernel))
set_option maxRecDepth 20000 in
theorem gX4_reachedIn_X4_needRange : GoodIn wsX4_reachedIn (va_wsS RX4 44 yX4_needRange wsX4_needRange) := goodIn_app (goodIn_of _ (by decide +kernel)) ggX4_reachedIn_X4_needRange
set_option maxRecDepth 20000 in
theorem ggX4_reachedIn_X0_copyFrom : GoodIn wsX4_reachedIn wsX0_copyFrom := goodIn_r _ [28, 16, 29, 30, 31, 32, 33, 34, 35, 36, 37, 38, 39, 40, 41, 42, 43, 44, 45, 46, 47, 48, 49, 50, 51, 52, 53, 54, 55, 56, 57, 58, 110, 111, 112, 113, 114, 115, 116, 117, 118, 119, 120, 121, 122, 123, 124, 125, 126, 127, 128, 129, 130] (by decide +kernel) (by decide +kernel)
set_option maxRecDepth 20000 in
theorem gX4_reachedIn_X0_copyFrom : GoodIn wsX4_reachedIn (wsV RX4 69 RX0 yX0_copyFrom wsX0_copyFrom) := goodIn_app (goodIn_of _ (by decide +kernel)) ggX4_reachedIn_X0_copyFrom
set_option maxRecDepth 20000 in
theorem ggX4_reachedIn_X2_isFrozen : GoodIn wsX4_reachedIn wsX2_isFrozen := goodIn_r _ [62, 57, 125, 126, 127, 128, 129, 130] (by decide +kernel) (by decide +kernel)
set_option maxRecDepth 20000 in
theorem gX4_reachedIn_X2_isFrozen : GoodIn wsX4_reachedIn (wsV RX4 181 RX2 yX2_isFrozen wsX2_isFrozen) := goodIn_app (goodIn_of _ (by decide +kernel)) ggX4_reachedIn_X2_isFrozen
set_option maxRecDepth 20000 in
theorem ggX4_reachedIn_X0_passDaysAt : GoodIn wsX4_reachedIn wsX0_passDaysAt := goodIn_r _ [66, 31, 67, 68, 69, 14, 70, 39, 34, 71, 72, 73, 74, 75, 50, 76, 52, 53, 77, 78, 79, 80, 81, 82, 83, 84, 55, 54, 56, 85, 60, 61, 62, 57, 86, 87, 88, 89, 90, 30, 42, 43, 44, 45, 91, 92, 93, 46, 94, 95, 96, 97, 98, 99, 100, 101, 102, 110, 111, 112, 113, 114, 115, 116, 117, 118, 119, 120, 121, 122, 123, 124, 125, 126, 127, 128, 129, 130] (by decide +kernel) (by decide +kernel)
set_option maxRecDepth 20000 in
theorem gX4_reachedIn_X0_passDaysAt : GoodIn wsX4_reachedIn (wsV RX4 177 RX0 yX0_passDaysAt wsX0_passDaysAt) := goodIn_app (goodIn_of _ (by decide +kernel)) ggX4_reachedIn_X0_passDaysAt
theorem dX4_reachedIn_0 : decode cX4_reachedIn 0 = .ok (.aload_n 0, 1) := by decide +kernel
theorem dX4_reachedIn_1 : decode cX4_reachedIn 1 = .ok (.iload_n 1, 1) := by decide +kernel
theorem dX4_reachedIn_2 : decode cX4_reachedIn 2 = .ok (.invokevirtual 106, 3) := by decide +kernel
theorem dX4_reachedIn_5 : decode cX4_reachedIn 5 = .ok (.iload_n 2, 1) := by decide +kernel
theorem dX4_reachedIn_6 : decode cX4_reachedIn 6 = .ok (.invokestatic 116, 3) := by decide +kernel
theorem dX4_reachedIn_9 : decode cX4_reachedIn 9 = .ok (.iload_n 3, 1) := by decide +kernel
theorem dX4_reachedIn_10 : decode cX4_reachedIn 10 = .ok (.bipush (-30), 2) := by decide +kernel
theorem dX4_reachedIn_12 : decode cX4_reachedIn 12 = .ok (.iconst (-1), 1) := by decide +kernel
theorem dX4_reachedIn_13 : decode cX4_reachedIn 13 = .ok (.invokestatic 44, 3) := by decide +kernel
theorem dX4_reachedIn_16 : decode cX4_reachedIn 16 = .ok (.aload_n 0, 1) := by decide +kernel
theorem dX4_reachedIn_17 : decode cX4_reachedIn 17 = .ok (.getfield 23, 3) := by decide +kernel
theorem dX4_reachedIn_20 : decode cX4_reachedIn 20 = .ok (.aload_n 0, 1) := by decide +kernel
theorem dX4_reachedIn_21 : decode cX4_reachedIn 21 = .ok (.getfield 19, 3) := by decide +kernel
theorem dX4_reachedIn_24 : decode cX4_reachedIn 24 = .ok (.invokevirtual 69, 3) := by decide +kernel
theorem dX4_reachedIn_27 : decode cX4_reachedIn 27 = .ok (.aload_n 0, 1) := by decide +kernel
theorem dX4_reachedIn_28 : decode cX4_reachedIn 28 = .ok (.getfield 23, 3) := by decide +kernel
theorem dX4_reachedIn_31 : decode cX4_reachedIn 31 = .ok (.getfield 109, 3) := by decide +kernel
theorem dX4_reachedIn_34 : decode cX4_reachedIn 34 = .ok (.iload_n 1, 1) := by decide +kernel
theorem dX4_reachedIn_35 : decode cX4_reachedIn 35 = .ok (.aaload, 1) := by decide +kernel
theorem dX4_reachedIn_36 : decode cX4_reachedIn 36 = .ok (.astore 4, 2) := by decide +kernel
theorem dX4_reachedIn_38 : decode cX4_reachedIn 38 = .ok (.iconst 0, 1) := by decide +kernel
theorem dX4_reachedIn_39 : decode cX4_reachedIn 39 = .ok (.istore 5, 2) := by decide +kernel
theorem dX4_reachedIn_41 : decode cX4_reachedIn 41 = .ok (.iload 5, 2) := by decide +kernel
theorem dX4_reachedIn_43 : decode cX4_reachedIn 43 = .ok (.sipush 400, 3) := by decide +kernel
theorem dX4_reachedIn_46 : decode cX4_reachedIn 46 = .ok (.if_icmp .gt 32, 3) := by decide +kernel
theorem dX4_reachedIn_49 : decode cX4_reachedIn 49 = .ok (.aload 4, 2) := by decide +kernel
theorem dX4_reachedIn_51 : decode cX4_reachedIn 51 = .ok (.iload_n 2, 1) := by decide +kernel
theorem dX4_reachedIn_52 : decode cX4_reachedIn 52 = .ok (.invokevirtual 181, 3) := by decide +kernel
theorem dX4_reachedIn_55 : decode cX4_reachedIn 55 = .ok (.ifCond .eq 6, 3) := by decide +kernel
theorem dX4_reachedIn_58 : decode cX4_reachedIn 58 = .ok (.iload 5, 2) := by decide +kernel
theorem dX4_reachedIn_60 : decode cX4_reachedIn 60 = .ok (.ireturn, 1) := by decide +kernel
theorem dX4_reachedIn_61 : decode cX4_reachedIn 61 = .ok (.aload_n 0, 1) := by decide +kernel
theorem dX4_reachedIn_62 : decode cX4_reachedIn 62 = .ok (.getfield 23, 3) := by decide +kernel
theorem dX4_reachedIn_65 : decode cX4_reachedIn 65 = .ok (.iload_n 1, 1) := by decide +kernel
theorem dX4_reachedIn_66 : decode cX4_reachedIn 66 = .ok (.iload_n 3, 1) := by decide +kernel
theorem dX4_reachedIn_67 : decode cX4_reachedIn 67 = .ok (.iconst 0, 1) := by decide +kernel
theorem dX4_reachedIn_68 : decode cX4_reachedIn 68 = .ok (.iconst 1, 1) := by decide +kernel
theorem dX4_reachedIn_69 : decode cX4_reachedIn 69 = .ok (.invokevirtual 177, 3) := by decide +kernel
theorem dX4_reachedIn_72 : decode cX4_reachedIn 72 = .ok (.iinc 5 1, 3) := by decide +kernel
theorem dX4_reachedIn_75 : decode cX4_reachedIn 75 = .ok (.goto (-34), 3) := by decide +kernel
theorem dX4_reachedIn_78 : decode cX4_reachedIn 78 = .ok (.iconst (-1), 1) := by decide +kernel
theorem dX4_reachedIn_79 : decode cX4_reachedIn 79 = .ok (.ireturn, 1) := by decide +kernel
set_option maxRecDepth 20000 in
theorem ggX4_bestFence_X4_needSite : GoodIn wsX4_bestFence wsX4_needSite := goodIn_ca (goodIn_r _ [9, 10, 11, 2, 12, 13, 14, 15, 16, 17, 104, 105, 106, 107, 108, 109, 110, 111, 112, 113, 114, 115, 116, 117, 118, 119, 120, 121, 122, 123, 124, 125] (by decide +kernel) (by decide +kernel)) (goodIn_sub (fun _ h => List.mem_cons_of_mem _ (List.mem_append_left _ (List.mem_append_right _ h))) (by decide +kernel))
set_option maxRecDepth 20000 in
theorem gX4_bestFence_X4_needSite : GoodIn wsX4_bestFence (wsV RX4 106 RX4 yX4_needSite wsX4_needSite) := goodIn_app (goodIn_of _ (by decide +kernel)) ggX4_bestFence_X4_needSite
set_option maxRecDepth 20000 in
theorem ggX4_bestFence_X4_needRange : GoodIn wsX4_bestFence wsX4_needRange := goodIn_ca (goodIn_r _ [20, 21, 22] (by decide +kernel) (by decide +kernel)) (goodIn_sub (fun _ h => List.mem_cons_of_mem _ (List.mem_append_right _ h)) (by decide +kernel))
set_option maxRecDepth 20000 in
theorem gX4_bestFence_X4_needRange : GoodIn wsX4_bestFence (va_wsS RX4 44 yX4_needRange wsX4_needRange) := goodIn_app (goodIn_of _ (by decide +kernel)) ggX4_bestFence_X4_needRange
set_option maxRecDepth 20000 in
theorem ggX4_bestFence_X0_copyFrom : GoodIn wsX4_bestFence wsX0_copyFrom := goodIn_r _ [26, 17, 27, 28, 29, 30, 31, 32, 33, 34, 35, 36, 37, 38, 39, 40, 41, 42, 43, 44, 45, 46, 47, 48, 49, 50, 51, 52, 53, 54, 55, 56, 111, 112, 113, 114, 115, 116, 117, 118, 119, 120, 121, 122, 123, 124, 125, 126, 127, 128, 129, 130, 131] (by decide +kernel) (by decide +kernel)
set_option maxRecDepth 20000 in
theorem gX4_bestFence_X0_copyFrom : GoodIn wsX4_bestFence (wsV RX4 69 RX0 yX0_copyFrom wsX0_copyFrom) := goodIn_app (goodIn_of _ (by decide +kernel)) ggX4_bestFence_X0_copyFrom
set_option maxRecDepth 20000 in
theorem ggX4_bestFence_X0_passDaysAt : GoodIn wsX4_bestFence wsX0_passDaysAt := goodIn_r _ [60, 29, 61, 62, 63, 15, 64, 37, 32, 65, 66, 67, 68, 69, 48, 70, 50, 51, 71, 72, 73, 74, 75, 76, 77, 78, 53, 52, 54, 79, 80, 81, 82, 55, 83, 84, 85, 86, 87, 28, 40, 41, 42, 43, 88, 89, 90, 44, 91, 92, 93, 94, 95, 96, 97, 98, 99, 111, 112, 113, 114, 115, 116, 117, 118, 119, 120, 121, 122, 123, 124, 125, 126, 127, 128, 129, 130, 131] (by decide +kernel) (by decide +kernel)
set_option maxRecDepth 20000 in
theorem gX4_bestFence_X0_passDaysAt : GoodIn wsX4_bestFence (wsV RX4 177 RX0 yX0_passDaysAt wsX0_passDaysAt) := goodIn_app (goodIn_of _ (by decide +kernel)) ggX4_bestFence_X0_passDaysAt
set_option maxRecDepth 20000 in
theorem ggX4_bestFence_X2_frozenWithin : GoodIn wsX4_bestFence wsX2_frozenWithin := goodIn_r _ [103, 99, 80, 81, 48, 82, 55, 126, 127, 128, 129, 130, 131] (by decide +kernel) (by decide +kernel)
set_option maxRecDepth 20000 in
theorem gX4_bestFence_X2_frozenWithin : GoodIn wsX4_bestFence (wsV RX4 188 RX2 yX2_frozenWithin wsX2_frozenWithin) := goodIn_app (goodIn_of _ (by decide +kernel)) ggX4_bestFence_X2_frozenWithin
theorem dX4_bestFence_0 : decode cX4_bestFence 0 = .ok (.aload_n 0, 1) := by decide +kernel
theorem dX4_bestFence_1 : decode cX4_bestFence 1 = .ok (.iload_n 1, 1) := by decide +kernel
theorem dX4_bestFence_2 : decode cX4_bestFence 2 = .ok (.invokevirtual 106, 3) := by decide +kernel
theorem dX4_bestFence_5 : decode cX4_bestFence 5 = .ok (.iload_n 2, 1) := by decide +kernel
theorem dX4_bestFence_6 : decode cX4_bestFence 6 = .ok (.bipush (-30), 2) := by decide +kernel
theorem dX4_bestFence_8 : decode cX4_bestFence 8 = .ok (.bipush 30, 2) := by decide +kernel
theorem dX4_bestFence_10 : decode cX4_bestFence 10 = .ok (.invokestatic 44, 3) := by decide +kernel
theorem dX4_bestFence_13 : decode cX4_bestFence 13 = .ok (.iload_n 3, 1) := by decide +kernel
theorem dX4_bestFence_14 : decode cX4_bestFence 14 = .ok (.iconst 0, 1) := by decide +kernel
theorem dX4_bestFence_15 : decode cX4_bestFence 15 = .ok (.bipush 30, 2) := by decide +kernel
theorem dX4_bestFence_17 : decode cX4_bestFence 17 = .ok (.invokestatic 44, 3) := by decide +kernel
theorem dX4_bestFence_20 : decode cX4_bestFence 20 = .ok (.iload 4, 2) := by decide +kernel
theorem dX4_bestFence_22 : decode cX4_bestFence 22 = .ok (.iconst 1, 1) := by decide +kernel
theorem dX4_bestFence_23 : decode cX4_bestFence 23 = .ok (.bipush 60, 2) := by decide +kernel
theorem dX4_bestFence_25 : decode cX4_bestFence 25 = .ok (.invokestatic 44, 3) := by decide +kernel
theorem dX4_bestFence_28 : decode cX4_bestFence 28 = .ok (.iconst 0, 1) := by decide +kernel
theorem dX4_bestFence_29 : decode cX4_bestFence 29 = .ok (.istore 5, 2) := by decide +kernel
theorem dX4_bestFence_31 : decode cX4_bestFence 31 = .ok (.bipush 31, 2) := by decide +kernel
theorem dX4_bestFence_33 : decode cX4_bestFence 33 = .ok (.istore 6, 2) := by decide +kernel
theorem dX4_bestFence_35 : decode cX4_bestFence 35 = .ok (.iconst 0, 1) := by decide +kernel
theorem dX4_bestFence_36 : decode cX4_bestFence 36 = .ok (.istore 7, 2) := by decide +kernel
theorem dX4_bestFence_38 : decode cX4_bestFence 38 = .ok (.iload 7, 2) := by decide +kernel
theorem dX4_bestFence_40 : decode cX4_bestFence 40 = .ok (.bipush 20, 2) := by decide +kernel
theorem dX4_bestFence_42 : decode cX4_bestFence 42 = .ok (.if_icmp .gt 77, 3) := by decide +kernel
theorem dX4_bestFence_45 : decode cX4_bestFence 45 = .ok (.aload_n 0, 1) := by decide +kernel
theorem dX4_bestFence_46 : decode cX4_bestFence 46 = .ok (.getfield 23, 3) := by decide +kernel
theorem dX4_bestFence_49 : decode cX4_bestFence 49 = .ok (.aload_n 0, 1) := by decide +kernel
theorem dX4_bestFence_50 : decode cX4_bestFence 50 = .ok (.getfield 19, 3) := by decide +kernel
theorem dX4_bestFence_53 : decode cX4_bestFence 53 = .ok (.invokevirtual 69, 3) := by decide +kernel
theorem dX4_bestFence_56 : decode cX4_bestFence 56 = .ok (.aload_n 0, 1) := by decide +kernel
theorem dX4_bestFence_57 : decode cX4_bestFence 57 = .ok (.getfield 23, 3) := by decide +kernel
theorem dX4_bestFence_60 : decode cX4_bestFence 60 = .ok (.getfield 109, 3) := by decide +kernel
theorem dX4_bestFence_63 : decode cX4_bestFence 63 = .ok (.iload_n 1, 1) := by decide +kernel
theorem dX4_bestFence_64 : decode cX4_bestFence 64 = .ok (.aaload, 1) := by decide +kernel
theorem dX4_bestFence_65 : decode cX4_bestFence 65 = .ok (.iload 7, 2) := by decide +kernel
theorem dX4_bestFence_67 : decode cX4_bestFence 67 = .ok (.putfield 185, 3) := by decide +kernel
theorem dX4_bestFence_70 : decode cX4_bestFence 70 = .ok (.aload_n 0, 1) := by decide +kernel
theorem dX4_bestFence_71 : decode cX4_bestFence 71 = .ok (.getfield 23, 3) := by decide +kernel
theorem dX4_bestFence_74 : decode cX4_bestFence 74 = .ok (.iload_n 1, 1) := by decide +kernel
theorem dX4_bestFence_75 : decode cX4_bestFence 75 = .ok (.iload_n 2, 1) := by decide +kernel
theorem dX4_bestFence_76 : decode cX4_bestFence 76 = .ok (.iload_n 3, 1) := by decide +kernel
theorem dX4_bestFence_77 : decode cX4_bestFence 77 = .ok (.iload 4, 2) := by decide +kernel
theorem dX4_bestFence_79 : decode cX4_bestFence 79 = .ok (.invokevirtual 177, 3) := by decide +kernel
theorem dX4_bestFence_82 : decode cX4_bestFence 82 = .ok (.aload_n 0, 1) := by decide +kernel
theorem dX4_bestFence_83 : decode cX4_bestFence 83 = .ok (.getfield 23, 3) := by decide +kernel
theorem dX4_bestFence_86 : decode cX4_bestFence 86 = .ok (.getfield 109, 3) := by decide +kernel
theorem dX4_bestFence_89 : decode cX4_bestFence 89 = .ok (.iload_n 1, 1) := by decide +kernel
theorem dX4_bestFence_90 : decode cX4_bestFence 90 = .ok (.aaload, 1) := by decide +kernel
theorem dX4_bestFence_91 : decode cX4_bestFence 91 = .ok (.bipush 30, 2) := by decide +kernel
theorem dX4_bestFence_93 : decode cX4_bestFence 93 = .ok (.invokevirtual 188, 3) := by decide +kernel
theorem dX4_bestFence_96 : decode cX4_bestFence 96 = .ok (.istore 8, 2) := by decide +kernel
theorem dX4_bestFence_98 : decode cX4_bestFence 98 = .ok (.iload 8, 2) := by decide +kernel
theorem dX4_bestFence_100 : decode cX4_bestFence 100 = .ok (.iload 6, 2) := by decide +kernel
theorem dX4_bestFence_102 : decode cX4_bestFence 102 = .ok (.if_icmp .ge 11, 3) := by decide +kernel
theorem dX4_bestFence_105 : decode cX4_bestFence 105 = .ok (.iload 8, 2) := by decide +kernel
theorem dX4_bestFence_107 : decode cX4_bestFence 107 = .ok (.istore 6, 2) := by decide +kernel
theorem dX4_bestFence_109 : decode cX4_bestFence 109 = .ok (.iload 7, 2) := by decide +kernel
theorem dX4_bestFence_111 : decode cX4_bestFence 111 = .ok (.istore 5, 2) := by decide +kernel
theorem dX4_bestFence_113 : decode cX4_bestFence 113 = .ok (.iinc 7 1, 3) := by decide +kernel
theorem dX4_bestFence_116 : decode cX4_bestFence 116 = .ok (.goto (-78), 3) := by decide +kernel
theorem dX4_bestFence_119 : decode cX4_bestFence 119 = .ok (.iload 5, 2) := by decide +kernel
theorem dX4_bestFence_121 : decode cX4_bestFence 121 = .ok (.ireturn, 1) := by decide +kernel
set_option maxRecDepth 20000 in
theorem ggX4_heaveIn_X4_needPipe : GoodIn wsX4_heaveIn wsX4_needPipe := goodIn_ca (goodIn_r _ [9, 10, 11, 2, 12, 13, 14, 15, 16, 17, 100, 101, 102, 103, 104, 105, 106, 107, 108, 109, 110, 111, 112, 113, 114, 115, 116, 117, 118, 119, 120, 121] (by decide +kernel) (by decide +kernel)) (goodIn_sub (fun _ h => List.mem_cons_of_mem _ (List.mem_append_left _ (List.mem_append_right _ h))) (by decide +kernel))
set_option maxRecDepth 20000 in
theorem gX4_heaveIn_X4_needPipe : GoodIn wsX4_heaveIn (wsV RX4 143 RX4 yX4_needPipe wsX4_needPipe) := goodIn_app (goodIn_of _ (by decide +kernel)) ggX4_heaveIn_X4_needPipe
set_option maxRecDepth 20000 in
theorem ggX4_heaveIn_X4_needRange : GoodIn wsX4_heaveIn wsX4_needRange := goodIn_ca (goodIn_r _ [20, 21, 22] (by decide +kernel) (by decide +kernel)) (goodIn_sub (fun _ h => List.mem_cons_of_mem _ (List.mem_append_right _ h)) (by decide +kernel))
set_option maxRecDepth 20000 in
theorem gX4_heaveIn_X4_needRange : GoodIn wsX4_heaveIn (va_wsS RX4 44 yX4_needRange wsX4_needRange) := goodIn_app (goodIn_of _ (by decide +kernel)) ggX4_heaveIn_X4_needRange
set_option maxRecDepth 20000 in
theorem ggX4_heaveIn_X0_copyFrom : GoodIn wsX4_heaveIn wsX0_copyFrom := goodIn_r _ [26, 27, 28, 17, 29, 30, 31, 32, 33, 34, 35, 36, 37, 38, 39, 40, 41, 42, 43, 44, 45, 46, 47, 48, 49, 50, 51, 52, 53, 54, 55, 56, 107, 108, 109, 110, 111, 112, 113, 114, 115, 116, 117, 118, 119, 120, 121, 122, 123, 124, 125, 126, 127] (by decide +kernel) (by decide +kernel)
set_option maxRecDepth 20000 in
theorem gX4_heaveIn_X0_copyFrom : GoodIn wsX4_heaveIn (wsV RX4 69 RX0 yX0_copyFrom wsX0_copyFrom) := goodIn_app (goodIn_of _ (by decide +kernel)) ggX4_heaveIn_X0_copyFrom
set_option maxRecDepth 20000 in
theorem ggX4_heaveIn_X0_passDaysAt : GoodIn wsX4_heaveIn wsX0_passDaysAt := goodIn_r _ [60, 29, 61, 62, 63, 15, 64, 37, 32, 65, 66, 67, 68, 69, 48, 70, 50, 51, 71, 72, 73, 74, 75, 76, 77, 78, 53, 52, 54, 79, 80, 81, 82, 55, 83, 84, 85, 86, 87, 17, 40, 41, 42, 43, 88, 89, 90, 44, 91, 92, 93, 94, 95, 96, 97, 98, 99, 107, 108, 109, 110, 111, 112, 113, 114, 115, 116, 117, 118, 119, 120, 121, 122, 123, 124, 125, 126, 127] (by decide +kernel) (by decide +kernel)
set_option maxRecDepth 20000 in
theorem gX4_heaveIn_X0_passDaysAt : GoodIn wsX4_heaveIn (wsV RX4 177 RX0 yX0_passDaysAt wsX0_passDaysAt) := goodIn_app (goodIn_of _ (by decide +kernel)) ggX4_heaveIn_X0_passDaysAt
theorem dX4_heaveIn_0 : decode cX4_heaveIn 0 = .ok (.aload_n 0, 1) := by decide +kernel
theorem dX4_heaveIn_1 : decode cX4_heaveIn 1 = .ok (.iload_n 1, 1) := by decide +kernel
theorem dX4_heaveIn_2 : decode cX4_heaveIn 2 = .ok (.invokevirtual 143, 3) := by decide +kernel
theorem dX4_heaveIn_5 : decode cX4_heaveIn 5 = .ok (.iload_n 2, 1) := by decide +kernel
theorem dX4_heaveIn_6 : decode cX4_heaveIn 6 = .ok (.bipush (-30), 2) := by decide +kernel
theorem dX4_heaveIn_8 : decode cX4_heaveIn 8 = .ok (.bipush 30, 2) := by decide +kernel
theorem dX4_heaveIn_10 : decode cX4_heaveIn 10 = .ok (.invokestatic 44, 3) := by decide +kernel
theorem dX4_heaveIn_13 : decode cX4_heaveIn 13 = .ok (.iload_n 3, 1) := by decide +kernel
theorem dX4_heaveIn_14 : decode cX4_heaveIn 14 = .ok (.iconst 1, 1) := by decide +kernel
theorem dX4_heaveIn_15 : decode cX4_heaveIn 15 = .ok (.bipush 60, 2) := by decide +kernel
theorem dX4_heaveIn_17 : decode cX4_heaveIn 17 = .ok (.invokestatic 44, 3) := by decide +kernel
theorem dX4_heaveIn_20 : decode cX4_heaveIn 20 = .ok (.aload_n 0, 1) := by decide +kernel
theorem dX4_heaveIn_21 : decode cX4_heaveIn 21 = .ok (.getfield 23, 3) := by decide +kernel
theorem dX4_heaveIn_24 : decode cX4_heaveIn 24 = .ok (.aload_n 0, 1) := by decide +kernel
theorem dX4_heaveIn_25 : decode cX4_heaveIn 25 = .ok (.getfield 19, 3) := by decide +kernel
theorem dX4_heaveIn_28 : decode cX4_heaveIn 28 = .ok (.invokevirtual 69, 3) := by decide +kernel
theorem dX4_heaveIn_31 : decode cX4_heaveIn 31 = .ok (.aload_n 0, 1) := by decide +kernel
theorem dX4_heaveIn_32 : decode cX4_heaveIn 32 = .ok (.getfield 23, 3) := by decide +kernel
theorem dX4_heaveIn_35 : decode cX4_heaveIn 35 = .ok (.aload_n 0, 1) := by decide +kernel
theorem dX4_heaveIn_36 : decode cX4_heaveIn 36 = .ok (.getfield 23, 3) := by decide +kernel
theorem dX4_heaveIn_39 : decode cX4_heaveIn 39 = .ok (.getfield 191, 3) := by decide +kernel
theorem dX4_heaveIn_42 : decode cX4_heaveIn 42 = .ok (.iload_n 1, 1) := by decide +kernel
theorem dX4_heaveIn_43 : decode cX4_heaveIn 43 = .ok (.iaload, 1) := by decide +kernel
theorem dX4_heaveIn_44 : decode cX4_heaveIn 44 = .ok (.iload_n 2, 1) := by decide +kernel
theorem dX4_heaveIn_45 : decode cX4_heaveIn 45 = .ok (.iconst 0, 1) := by decide +kernel
theorem dX4_heaveIn_46 : decode cX4_heaveIn 46 = .ok (.iload_n 3, 1) := by decide +kernel
theorem dX4_heaveIn_47 : decode cX4_heaveIn 47 = .ok (.invokevirtual 177, 3) := by decide +kernel
theorem dX4_heaveIn_50 : decode cX4_heaveIn 50 = .ok (.aload_n 0, 1) := by decide +kernel
theorem dX4_heaveIn_51 : decode cX4_heaveIn 51 = .ok (.getfield 23, 3) := by decide +kernel
theorem dX4_heaveIn_54 : decode cX4_heaveIn 54 = .ok (.getfield 194, 3) := by decide +kernel
theorem dX4_heaveIn_57 : decode cX4_heaveIn 57 = .ok (.iload_n 1, 1) := by decide +kernel
theorem dX4_heaveIn_58 : decode cX4_heaveIn 58 = .ok (.iaload, 1) := by decide +kernel
theorem dX4_heaveIn_59 : decode cX4_heaveIn 59 = .ok (.ireturn, 1) := by decide +kernel
set_option maxRecDepth 20000 in
theorem ggX4_deepest_X2_lowestWithin : GoodIn wsX4_deepest wsX2_lowestWithin := goodIn_r _ [8, 9, 10, 11, 7, 12, 13, 40, 41, 42, 43, 44, 45] (by decide +kernel) (by decide +kernel)
set_option maxRecDepth 20000 in
theorem gX4_deepest_X2_lowestWithin : GoodIn wsX4_deepest (wsV RX4 174 RX2 yX2_lowestWithin wsX2_lowestWithin) := goodIn_app (goodIn_of _ (by decide +kernel)) ggX4_deepest_X2_lowestWithin
set_option maxRecDepth 20000 in
theorem ggX4_deepest_X2_frozenWithin : GoodIn wsX4_deepest wsX2_frozenWithin := goodIn_r _ [17, 9, 10, 11, 7, 12, 13, 40, 41, 42, 43, 44, 45] (by decide +kernel) (by decide +kernel)
set_option maxRecDepth 20000 in
theorem gX4_deepest_X2_frozenWithin : GoodIn wsX4_deepest (wsV RX4 188 RX2 yX2_frozenWithin wsX2_frozenWithin) := goodIn_app (goodIn_of _ (by decide +kernel)) ggX4_deepest_X2_frozenWithin
theorem dX4_deepest_0 : decode cX4_deepest 0 = .ok (.iconst (-1), 1) := by decide +kernel
theorem dX4_deepest_1 : decode cX4_deepest 1 = .ok (.istore_n 1, 1) := by decide +kernel
theorem dX4_deepest_2 : decode cX4_deepest 2 = .ok (.iconst (-1), 1) := by decide +kernel
theorem dX4_deepest_3 : decode cX4_deepest 3 = .ok (.istore_n 2, 1) := by decide +kernel
theorem dX4_deepest_4 : decode cX4_deepest 4 = .ok (.iconst 0, 1) := by decide +kernel
theorem dX4_deepest_5 : decode cX4_deepest 5 = .ok (.istore_n 3, 1) := by decide +kernel
theorem dX4_deepest_6 : decode cX4_deepest 6 = .ok (.iconst 0, 1) := by decide +kernel
theorem dX4_deepest_7 : decode cX4_deepest 7 = .ok (.istore 4, 2) := by decide +kernel
theorem dX4_deepest_9 : decode cX4_deepest 9 = .ok (.iload 4, 2) := by decide +kernel
theorem dX4_deepest_11 : decode cX4_deepest 11 = .ok (.aload_n 0, 1) := by decide +kernel
theorem dX4_deepest_12 : decode cX4_deepest 12 = .ok (.getfield 19, 3) := by decide +kernel
theorem dX4_deepest_15 : decode cX4_deepest 15 = .ok (.getfield 197, 3) := by decide +kernel
theorem dX4_deepest_18 : decode cX4_deepest 18 = .ok (.if_icmp .ge 70, 3) := by decide +kernel
theorem dX4_deepest_21 : decode cX4_deepest 21 = .ok (.aload_n 0, 1) := by decide +kernel
theorem dX4_deepest_22 : decode cX4_deepest 22 = .ok (.getfield 19, 3) := by decide +kernel
theorem dX4_deepest_25 : decode cX4_deepest 25 = .ok (.getfield 109, 3) := by decide +kernel
theorem dX4_deepest_28 : decode cX4_deepest 28 = .ok (.iload 4, 2) := by decide +kernel
theorem dX4_deepest_30 : decode cX4_deepest 30 = .ok (.aaload, 1) := by decide +kernel
theorem dX4_deepest_31 : decode cX4_deepest 31 = .ok (.bipush 30, 2) := by decide +kernel
theorem dX4_deepest_33 : decode cX4_deepest 33 = .ok (.invokevirtual 174, 3) := by decide +kernel
theorem dX4_deepest_36 : decode cX4_deepest 36 = .ok (.istore 5, 2) := by decide +kernel
theorem dX4_deepest_38 : decode cX4_deepest 38 = .ok (.aload_n 0, 1) := by decide +kernel
theorem dX4_deepest_39 : decode cX4_deepest 39 = .ok (.getfield 19, 3) := by decide +kernel
theorem dX4_deepest_42 : decode cX4_deepest 42 = .ok (.getfield 109, 3) := by decide +kernel
theorem dX4_deepest_45 : decode cX4_deepest 45 = .ok (.iload 4, 2) := by decide +kernel
theorem dX4_deepest_47 : decode cX4_deepest 47 = .ok (.aaload, 1) := by decide +kernel
theorem dX4_deepest_48 : decode cX4_deepest 48 = .ok (.bipush 30, 2) := by decide +kernel
theorem dX4_deepest_50 : decode cX4_deepest 50 = .ok (.invokevirtual 188, 3) := by decide +kernel
theorem dX4_deepest_53 : decode cX4_deepest 53 = .ok (.istore 6, 2) := by decide +kernel
theorem dX4_deepest_55 : decode cX4_deepest 55 = .ok (.iload 5, 2) := by decide +kernel
theorem dX4_deepest_57 : decode cX4_deepest 57 = .ok (.iload_n 2, 1) := by decide +kernel
theorem dX4_deepest_58 : decode cX4_deepest 58 = .ok (.if_icmp .gt 15, 3) := by decide +kernel
theorem dX4_deepest_61 : decode cX4_deepest 61 = .ok (.iload 5, 2) := by decide +kernel
theorem dX4_deepest_63 : decode cX4_deepest 63 = .ok (.iload_n 2, 1) := by decide +kernel
theorem dX4_deepest_64 : decode cX4_deepest 64 = .ok (.if_icmp .ne 18, 3) := by decide +kernel
theorem dX4_deepest_67 : decode cX4_deepest 67 = .ok (.iload 6, 2) := by decide +kernel
theorem dX4_deepest_69 : decode cX4_deepest 69 = .ok (.iload_n 3, 1) := by decide +kernel
theorem dX4_deepest_70 : decode cX4_deepest 70 = .ok (.if_icmp .le 12, 3) := by decide +kernel
theorem dX4_deepest_73 : decode cX4_deepest 73 = .ok (.iload 4, 2) := by decide +kernel
theorem dX4_deepest_75 : decode cX4_deepest 75 = .ok (.istore_n 1, 1) := by decide +kernel
theorem dX4_deepest_76 : decode cX4_deepest 76 = .ok (.iload 5, 2) := by decide +kernel
theorem dX4_deepest_78 : decode cX4_deepest 78 = .ok (.istore_n 2, 1) := by decide +kernel
theorem dX4_deepest_79 : decode cX4_deepest 79 = .ok (.iload 6, 2) := by decide +kernel
theorem dX4_deepest_81 : decode cX4_deepest 81 = .ok (.istore_n 3, 1) := by decide +kernel
theorem dX4_deepest_82 : decode cX4_deepest 82 = .ok (.iinc 4 1, 3) := by decide +kernel
theorem dX4_deepest_85 : decode cX4_deepest 85 = .ok (.goto (-76), 3) := by decide +kernel
theorem dX4_deepest_88 : decode cX4_deepest 88 = .ok (.iload_n 1, 1) := by decide +kernel
theorem dX4_deepest_89 : decode cX4_deepest 89 = .ok (.ireturn, 1) := by decide +kernel
set_option maxRecDepth 20000 in
theorem ggX4_runScript_X4_needRange : GoodIn wsX4_runScript wsX4_needRange := goodIn_ca (goodIn_r _ [9, 1, 2] (by decide +kernel) (by decide +kernel)) (goodIn_sub (fun _ h => List.mem_cons_of_mem _ (List.mem_append_right _ h)) (by decide +kernel))
set_option maxRecDepth 20000 in
theorem gX4_runScript_X4_needRange : GoodIn wsX4_runScript (va_wsS RX4 44 yX4_needRange wsX4_needRange) := goodIn_app (goodIn_of _ (by decide +kernel)) ggX4_runScript_X4_needRange
set_option maxRecDepth 20000 in
theorem ggX4_runScript_X0_copyFrom : GoodIn wsX4_runScript wsX0_copyFrom := goodIn_r _ [14, 15, 16, 17, 18, 19, 20, 21, 22, 23, 24, 25, 26, 27, 28, 29, 30, 31, 32, 33, 34, 35, 36, 37, 38, 39, 40, 41, 42, 43, 44, 45, 192, 193, 194, 195, 196, 197, 198, 199, 200, 201, 202, 203, 204, 205, 206, 207, 208, 209, 210, 211, 212] (by decide +kernel) (by decide +kernel)
set_option maxRecDepth 20000 in
theorem gX4_runScript_X0_copyFrom : GoodIn wsX4_runScript (wsV RX4 69 RX0 yX0_copyFrom wsX0_copyFrom) := goodIn_app (goodIn_of _ (by decide +kernel)) ggX4_runScript_X0_copyFrom
set_option maxRecDepth 20000 in
theorem ggX4_runScript_X4_scriptGroup : GoodIn wsX4_runScript wsX4_scriptGroup := goodIn_r _ [48, 3] (by decide +kernel) (by decide +kernel)
set_option maxRecDepth 20000 in
theorem gX4_runScript_X4_scriptGroup : GoodIn wsX4_runScript (va_wsS RX4 207 yX4_scriptGroup wsX4_scriptGroup) := goodIn_app (goodIn_of _ (by decide +kernel)) ggX4_runScript_X4_scriptGroup
set_option maxRecDepth 20000 in
theorem ggX4_runScript_X4_scriptCommand : GoodIn wsX4_runScript wsX4_scriptCommand := goodIn_r _ [52, 53, 4, 54, 55, 56, 57, 58, 13, 59, 15, 60, 61, 62, 63, 64, 65, 66, 67, 16, 68, 69, 70, 71, 72, 73, 74, 75, 17, 26, 76, 77, 78, 37, 79, 44, 80, 81, 82, 83, 84, 85, 86, 87, 18, 88, 89, 90, 91, 92, 93, 94, 95, 27, 28, 96, 97, 98, 99, 29, 30, 100, 101, 102, 103, 104, 105, 106, 107, 108, 109, 110, 111, 112, 113, 114, 115, 116, 117, 21, 118, 119, 120, 121, 122, 123, 39, 40, 124, 125, 126, 127, 128, 129, 130, 131, 42, 41, 43, 132, 133, 134, 135, 136, 31, 32, 137, 138, 139, 33, 140, 141, 142, 143, 144, 145, 146, 147, 148, 149, 150, 151, 152, 153, 154, 155, 156, 157, 158, 159, 160, 161, 162, 163, 164, 20, 19, 165, 166, 167, 168, 169, 170, 171, 172, 173, 174, 175, 176, 177, 178, 179, 180, 181, 182, 183, 184, 185, 186, 187, 188, 189, 190, 191, 192, 193, 194, 195, 196, 197, 198, 199, 200, 201, 202, 203, 204, 205, 206, 207, 208, 209, 210, 211, 212] (by decide +kernel) (by decide +kernel)
set_option maxRecDepth 20000 in
theorem gX4_runScript_X4_scriptCommand : GoodIn wsX4_runScript (wsV RX4 211 RX4 yX4_scriptCommand wsX4_scriptCommand) := goodIn_app (goodIn_of _ (by decide +kernel)) ggX4_runScript_X4_scriptCommand
theorem dX4_runScript_0 : decode cX4_runScript 0 = .ok (.iload_n 1, 1) := by decide +kernel
theorem dX4_runScript_1 : decode cX4_runScript 1 = .ok (.iconst 1, 1) := by decide +kernel
theorem dX4_runScript_2 : decode cX4_runScript 2 = .ok (.iconst 3, 1) := by decide +kernel
theorem dX4_runScript_3 : decode cX4_runScript 3 = .ok (.invokestatic 44, 3) := by decide +kernel
theorem dX4_runScript_6 : decode cX4_runScript 6 = .ok (.lconst 1, 1) := by decide +kernel
theorem dX4_runScript_7 : decode cX4_runScript 7 = .ok (.lstore 4, 2) := by decide +kernel
theorem dX4_runScript_9 : decode cX4_runScript 9 = .ok (.iconst 0, 1) := by decide +kernel
theorem dX4_runScript_10 : decode cX4_runScript 10 = .ok (.istore 6, 2) := by decide +kernel
theorem dX4_runScript_12 : decode cX4_runScript 12 = .ok (.iload 6, 2) := by decide +kernel
theorem dX4_runScript_14 : decode cX4_runScript 14 = .ok (.iload_n 1, 1) := by decide +kernel
theorem dX4_runScript_15 : decode cX4_runScript 15 = .ok (.if_icmp .ge 17, 3) := by decide +kernel
theorem dX4_runScript_18 : decode cX4_runScript 18 = .ok (.lload 4, 2) := by decide +kernel
theorem dX4_runScript_20 : decode cX4_runScript 20 = .ok (.ldc2_w 200, 3) := by decide +kernel
theorem dX4_runScript_23 : decode cX4_runScript 23 = .ok (.lmul, 1) := by decide +kernel
theorem dX4_runScript_24 : decode cX4_runScript 24 = .ok (.lstore 4, 2) := by decide +kernel
theorem dX4_runScript_26 : decode cX4_runScript 26 = .ok (.iinc 6 1, 3) := by decide +kernel
theorem dX4_runScript_29 : decode cX4_runScript 29 = .ok (.goto (-17), 3) := by decide +kernel
theorem dX4_runScript_32 : decode cX4_runScript 32 = .ok (.lload_n 2, 1) := by decide +kernel
theorem dX4_runScript_33 : decode cX4_runScript 33 = .ok (.lconst 0, 1) := by decide +kernel
theorem dX4_runScript_34 : decode cX4_runScript 34 = .ok (.lcmp, 1) := by decide +kernel
theorem dX4_runScript_35 : decode cX4_runScript 35 = .ok (.ifCond .lt 10, 3) := by decide +kernel
theorem dX4_runScript_38 : decode cX4_runScript 38 = .ok (.lload_n 2, 1) := by decide +kernel
theorem dX4_runScript_39 : decode cX4_runScript 39 = .ok (.lload 4, 2) := by decide +kernel
theorem dX4_runScript_41 : decode cX4_runScript 41 = .ok (.lcmp, 1) := by decide +kernel
theorem dX4_runScript_42 : decode cX4_runScript 42 = .ok (.ifCond .lt 13, 3) := by decide +kernel
theorem dX4_runScript_45 : decode cX4_runScript 45 = .ok (.new 202, 3) := by decide +kernel
theorem dX4_runScript_48 : decode cX4_runScript 48 = .ok (.dup, 1) := by decide +kernel
theorem dX4_runScript_49 : decode cX4_runScript 49 = .ok (.ldc 204, 2) := by decide +kernel
theorem dX4_runScript_51 : decode cX4_runScript 51 = .ok (.invokespecial 206, 3) := by decide +kernel
theorem dX4_runScript_54 : decode cX4_runScript 54 = .ok (.athrow, 1) := by decide +kernel
theorem dX4_runScript_55 : decode cX4_runScript 55 = .ok (.aload_n 0, 1) := by decide +kernel
theorem dX4_runScript_56 : decode cX4_runScript 56 = .ok (.getfield 23, 3) := by decide +kernel
theorem dX4_runScript_59 : decode cX4_runScript 59 = .ok (.aload_n 0, 1) := by decide +kernel
theorem dX4_runScript_60 : decode cX4_runScript 60 = .ok (.getfield 19, 3) := by decide +kernel
theorem dX4_runScript_63 : decode cX4_runScript 63 = .ok (.invokevirtual 69, 3) := by decide +kernel
theorem dX4_runScript_66 : decode cX4_runScript 66 = .ok (.iconst 0, 1) := by decide +kernel
theorem dX4_runScript_67 : decode cX4_runScript 67 = .ok (.istore 6, 2) := by decide +kernel
theorem dX4_runScript_69 : decode cX4_runScript 69 = .ok (.iload 6, 2) := by decide +kernel
theorem dX4_runScript_71 : decode cX4_runScript 71 = .ok (.iload_n 1, 1) := by decide +kernel
theorem dX4_runScript_72 : decode cX4_runScript 72 = .ok (.if_icmp .ge 26, 3) := by decide +kernel
theorem dX4_runScript_75 : decode cX4_runScript 75 = .ok (.aload_n 0, 1) := by decide +kernel
theorem dX4_runScript_76 : decode cX4_runScript 76 = .ok (.iload_n 1, 1) := by decide +kernel
theorem dX4_runScript_77 : decode cX4_runScript 77 = .ok (.lload_n 2, 1) := by decide +kernel
theorem dX4_runScript_78 : decode cX4_runScript 78 = .ok (.iload 6, 2) := by decide +kernel
theorem dX4_runScript_80 : decode cX4_runScript 80 = .ok (.invokestatic 207, 3) := by decide +kernel
theorem dX4_runScript_83 : decode cX4_runScript 83 = .ok (.invokevirtual 211, 3) := by decide +kernel
theorem dX4_runScript_86 : decode cX4_runScript 86 = .ok (.ifCond .ne 6, 3) := by decide +kernel
theorem dX4_runScript_89 : decode cX4_runScript 89 = .ok (.iload 6, 2) := by decide +kernel
theorem dX4_runScript_91 : decode cX4_runScript 91 = .ok (.ireturn, 1) := by decide +kernel
theorem dX4_runScript_92 : decode cX4_runScript 92 = .ok (.iinc 6 1, 3) := by decide +kernel
theorem dX4_runScript_95 : decode cX4_runScript 95 = .ok (.goto (-26), 3) := by decide +kernel
theorem dX4_runScript_98 : decode cX4_runScript 98 = .ok (.iconst (-1), 1) := by decide +kernel
theorem dX4_runScript_99 : decode cX4_runScript 99 = .ok (.ireturn, 1) := by decide +kernel
set_option maxRecDepth 20000 in
theorem ggX4_simulate_X4_needRange : GoodIn wsX4_simulate wsX4_needRange := goodIn_ca (goodIn_r _ [9, 10, 11] (by decide +kernel) (by decide +kernel)) (goodIn_sub (fun _ h => List.mem_cons_of_mem _ (List.mem_append_right _ h)) (by decide +kernel))
set_option maxRecDepth 20000 in
theorem gX4_simulate_X4_needRange : GoodIn wsX4_simulate (va_wsS RX4 44 yX4_needRange wsX4_needRange) := goodIn_app (goodIn_of _ (by decide +kernel)) ggX4_simulate_X4_needRange
set_option maxRecDepth 20000 in
theorem ggX4_simulate_X0_copyFrom : GoodIn wsX4_simulate wsX0_copyFrom := goodIn_r _ [16, 17, 18, 19, 20, 21, 22, 23, 24, 25, 26, 27, 28, 29, 30, 31, 32, 33, 34, 35, 36, 37, 38, 39, 40, 41, 42, 43, 44, 45, 46, 47, 186, 187, 188, 189, 190, 191, 192, 193, 194, 195, 196, 197, 198, 199, 200, 201, 202, 203, 204, 205, 206] (by decide +kernel) (by decide +kernel)
set_option maxRecDepth 20000 in
theorem gX4_simulate_X0_copyFrom : GoodIn wsX4_simulate (wsV RX4 69 RX0 yX0_copyFrom wsX0_copyFrom) := goodIn_app (goodIn_of _ (by decide +kernel)) ggX4_simulate_X0_copyFrom
set_option maxRecDepth 20000 in
theorem ggX4_simulate_X4_simulatedTurn : GoodIn wsX4_simulate wsX4_simulatedTurn := goodIn_r _ [51, 1, 52, 53, 54, 15, 55, 17, 56, 57, 58, 59, 60, 61, 62, 63, 18, 64, 65, 66, 67, 68, 69, 70, 71, 19, 28, 72, 73, 74, 39, 75, 46, 76, 77, 78, 79, 80, 81, 82, 83, 20, 84, 85, 86, 87, 88, 89, 90, 91, 29, 30, 92, 93, 94, 95, 31, 32, 96, 97, 98, 99, 100, 101, 102, 103, 104, 105, 106, 107, 108, 109, 110, 111, 112, 113, 23, 114, 115, 116, 117, 118, 119, 41, 42, 120, 121, 122, 123, 124, 125, 126, 127, 44, 43, 45, 128, 129, 130, 131, 132, 33, 34, 133, 134, 135, 35, 136, 137, 138, 139, 140, 141, 142, 143, 144, 145, 146, 147, 148, 149, 150, 151, 152, 153, 154, 155, 156, 157, 158, 159, 160, 22, 21, 161, 162, 163, 164, 165, 179, 180, 181, 182, 183, 184, 185, 186, 187, 188, 189, 190, 191, 192, 193, 194, 195, 196, 197, 198, 199, 200, 201, 202, 203, 204, 205, 206] (by decide +kernel) (by decide +kernel)
set_option maxRecDepth 20000 in
theorem gX4_simulate_X4_simulatedTurn : GoodIn wsX4_simulate (wsV RX4 218 RX4 yX4_simulatedTurn wsX4_simulatedTurn) := goodIn_app (goodIn_of _ (by decide +kernel)) ggX4_simulate_X4_simulatedTurn
set_option maxRecDepth 20000 in
theorem ggX4_simulate_X0_layersOfAll : GoodIn wsX4_simulate wsX0_layersOfAll := goodIn_r _ [169, 17, 28, 170, 171, 172, 39, 173, 174, 175, 176, 177, 144, 73, 74, 75, 46, 186, 187, 188, 189, 190, 191, 192, 193, 194, 195, 196, 197, 198, 199, 200, 201, 202, 203, 204, 205, 206] (by decide +kernel) (by decide +kernel)
set_option maxRecDepth 20000 in
theorem gX4_simulate_X0_layersOfAll : GoodIn wsX4_simulate (wsV RX4 221 RX0 yX0_layersOfAll wsX0_layersOfAll) := goodIn_app (goodIn_of _ (by decide +kernel)) ggX4_simulate_X0_layersOfAll
set_option maxRecDepth 20000 in
theorem ggX4_simulate_X0_frozenCells : GoodIn wsX4_simulate wsX0_frozenCells := goodIn_r _ [148, 17, 28, 149, 150, 151, 39, 152, 144, 73, 74, 75, 46, 186, 187, 188, 189, 190, 191, 192, 193, 194, 195, 196, 197, 198, 199, 200, 201, 202, 203, 204, 205, 206] (by decide +kernel) (by decide +kernel)
set_option maxRecDepth 20000 in
theorem gX4_simulate_X0_frozenCells : GoodIn wsX4_simulate (wsV RX4 155 RX0 yX0_frozenCells wsX0_frozenCells) := goodIn_app (goodIn_of _ (by decide +kernel)) ggX4_simulate_X0_frozenCells
theorem dX4_simulate_0 : decode cX4_simulate 0 = .ok (.iload_n 3, 1) := by decide +kernel
theorem dX4_simulate_1 : decode cX4_simulate 1 = .ok (.iconst 1, 1) := by decide +kernel
theorem dX4_simulate_2 : decode cX4_simulate 2 = .ok (.bipush 60, 2) := by decide +kernel
theorem dX4_simulate_4 : decode cX4_simulate 4 = .ok (.invokestatic 44, 3) := by decide +kernel
theorem dX4_simulate_7 : decode cX4_simulate 7 = .ok (.aload_n 0, 1) := by decide +kernel
theorem dX4_simulate_8 : decode cX4_simulate 8 = .ok (.getfield 23, 3) := by decide +kernel
theorem dX4_simulate_11 : decode cX4_simulate 11 = .ok (.aload_n 0, 1) := by decide +kernel
theorem dX4_simulate_12 : decode cX4_simulate 12 = .ok (.getfield 19, 3) := by decide +kernel
theorem dX4_simulate_15 : decode cX4_simulate 15 = .ok (.invokevirtual 69, 3) := by decide +kernel
theorem dX4_simulate_18 : decode cX4_simulate 18 = .ok (.lload_n 1, 1) := by decide +kernel
theorem dX4_simulate_19 : decode cX4_simulate 19 = .ok (.lstore 4, 2) := by decide +kernel
theorem dX4_simulate_21 : decode cX4_simulate 21 = .ok (.iconst 0, 1) := by decide +kernel
theorem dX4_simulate_22 : decode cX4_simulate 22 = .ok (.istore 6, 2) := by decide +kernel
theorem dX4_simulate_24 : decode cX4_simulate 24 = .ok (.iload 6, 2) := by decide +kernel
theorem dX4_simulate_26 : decode cX4_simulate 26 = .ok (.iload_n 3, 1) := by decide +kernel
theorem dX4_simulate_27 : decode cX4_simulate 27 = .ok (.if_icmp .ge 31, 3) := by decide +kernel
theorem dX4_simulate_30 : decode cX4_simulate 30 = .ok (.lload 4, 2) := by decide +kernel
theorem dX4_simulate_32 : decode cX4_simulate 32 = .ok (.ldc2_w 214, 3) := by decide +kernel
theorem dX4_simulate_35 : decode cX4_simulate 35 = .ok (.lmul, 1) := by decide +kernel
theorem dX4_simulate_36 : decode cX4_simulate 36 = .ok (.ldc2_w 216, 3) := by decide +kernel
theorem dX4_simulate_39 : decode cX4_simulate 39 = .ok (.ladd, 1) := by decide +kernel
theorem dX4_simulate_40 : decode cX4_simulate 40 = .ok (.lstore 4, 2) := by decide +kernel
theorem dX4_simulate_42 : decode cX4_simulate 42 = .ok (.aload_n 0, 1) := by decide +kernel
theorem dX4_simulate_43 : decode cX4_simulate 43 = .ok (.lload 4, 2) := by decide +kernel
theorem dX4_simulate_45 : decode cX4_simulate 45 = .ok (.bipush 33, 2) := by decide +kernel
theorem dX4_simulate_47 : decode cX4_simulate 47 = .ok (.lushr, 1) := by decide +kernel
theorem dX4_simulate_48 : decode cX4_simulate 48 = .ok (.l2i, 1) := by decide +kernel
theorem dX4_simulate_49 : decode cX4_simulate 49 = .ok (.invokevirtual 218, 3) := by decide +kernel
theorem dX4_simulate_52 : decode cX4_simulate 52 = .ok (.iinc 6 1, 3) := by decide +kernel
theorem dX4_simulate_55 : decode cX4_simulate 55 = .ok (.goto (-31), 3) := by decide +kernel
theorem dX4_simulate_58 : decode cX4_simulate 58 = .ok (.sipush 10000, 3) := by decide +kernel
theorem dX4_simulate_61 : decode cX4_simulate 61 = .ok (.aload_n 0, 1) := by decide +kernel
theorem dX4_simulate_62 : decode cX4_simulate 62 = .ok (.getfield 23, 3) := by decide +kernel
theorem dX4_simulate_65 : decode cX4_simulate 65 = .ok (.invokevirtual 221, 3) := by decide +kernel
theorem dX4_simulate_68 : decode cX4_simulate 68 = .ok (.imul, 1) := by decide +kernel
theorem dX4_simulate_69 : decode cX4_simulate 69 = .ok (.bipush 10, 2) := by decide +kernel
theorem dX4_simulate_71 : decode cX4_simulate 71 = .ok (.aload_n 0, 1) := by decide +kernel
theorem dX4_simulate_72 : decode cX4_simulate 72 = .ok (.getfield 23, 3) := by decide +kernel
theorem dX4_simulate_75 : decode cX4_simulate 75 = .ok (.invokevirtual 155, 3) := by decide +kernel
theorem dX4_simulate_78 : decode cX4_simulate 78 = .ok (.imul, 1) := by decide +kernel
theorem dX4_simulate_79 : decode cX4_simulate 79 = .ok (.iadd, 1) := by decide +kernel
theorem dX4_simulate_80 : decode cX4_simulate 80 = .ok (.aload_n 0, 1) := by decide +kernel
theorem dX4_simulate_81 : decode cX4_simulate 81 = .ok (.getfield 23, 3) := by decide +kernel
theorem dX4_simulate_84 : decode cX4_simulate 84 = .ok (.getfield 197, 3) := by decide +kernel
theorem dX4_simulate_87 : decode cX4_simulate 87 = .ok (.iadd, 1) := by decide +kernel
theorem dX4_simulate_88 : decode cX4_simulate 88 = .ok (.ireturn, 1) := by decide +kernel
set_option maxRecDepth 20000 in
theorem ggX4_save_X4_needSlot : GoodIn wsX4_save wsX4_needSlot := goodIn_ca (goodIn_r _ [8, 9, 10] (by decide +kernel) (by decide +kernel)) (goodIn_sub (fun _ h => List.mem_cons_of_mem _ (List.mem_append_right _ h)) (by decide +kernel))
set_option maxRecDepth 20000 in
theorem gX4_save_X4_needSlot : GoodIn wsX4_save (va_wsS RX4 224 yX4_needSlot wsX4_needSlot) := goodIn_app (goodIn_of _ (by decide +kernel)) ggX4_save_X4_needSlot
set_option maxRecDepth 20000 in
theorem ggX4_save_X0_copyFrom : GoodIn wsX4_save wsX0_copyFrom := goodIn_r _ [15, 16, 17, 18, 19, 20, 21, 22, 23, 24, 25, 26, 27, 28, 29, 30, 31, 32, 33, 34, 35, 36, 37, 38, 39, 40, 41, 42, 43, 44, 45, 46, 54, 55, 56, 57, 58, 59, 60, 61, 62, 63, 64, 65, 66, 67, 68, 69, 70, 71, 72, 73, 74] (by decide +kernel) (by decide +kernel)
set_option maxRecDepth 20000 in
theorem gX4_save_X0_copyFrom : GoodIn wsX4_save (wsV RX4 69 RX0 yX0_copyFrom wsX0_copyFrom) := goodIn_app (goodIn_of _ (by decide +kernel)) ggX4_save_X0_copyFrom
theorem dX4_save_0 : decode cX4_save 0 = .ok (.iload_n 1, 1) := by decide +kernel
theorem dX4_save_1 : decode cX4_save 1 = .ok (.invokestatic 224, 3) := by decide +kernel
theorem dX4_save_4 : decode cX4_save 4 = .ok (.aload_n 0, 1) := by decide +kernel
theorem dX4_save_5 : decode cX4_save 5 = .ok (.getfield 36, 3) := by decide +kernel
theorem dX4_save_8 : decode cX4_save 8 = .ok (.iload_n 1, 1) := by decide +kernel
theorem dX4_save_9 : decode cX4_save 9 = .ok (.aaload, 1) := by decide +kernel
theorem dX4_save_10 : decode cX4_save 10 = .ok (.aload_n 0, 1) := by decide +kernel
theorem dX4_save_11 : decode cX4_save 11 = .ok (.getfield 19, 3) := by decide +kernel
theorem dX4_save_14 : decode cX4_save 14 = .ok (.invokevirtual 69, 3) := by decide +kernel
theorem dX4_save_17 : decode cX4_save 17 = .ok (.aload_n 0, 1) := by decide +kernel
theorem dX4_save_18 : decode cX4_save 18 = .ok (.getfield 40, 3) := by decide +kernel
theorem dX4_save_21 : decode cX4_save 21 = .ok (.iload_n 1, 1) := by decide +kernel
theorem dX4_save_22 : decode cX4_save 22 = .ok (.iconst 1, 1) := by decide +kernel
theorem dX4_save_23 : decode cX4_save 23 = .ok (.bastore, 1) := by decide +kernel
theorem dX4_save_24 : decode cX4_save 24 = .ok (.aload_n 0, 1) := by decide +kernel
theorem dX4_save_25 : decode cX4_save 25 = .ok (.getfield 19, 3) := by decide +kernel
theorem dX4_save_28 : decode cX4_save 28 = .ok (.getfield 227, 3) := by decide +kernel
theorem dX4_save_31 : decode cX4_save 31 = .ok (.ireturn, 1) := by decide +kernel
set_option maxRecDepth 20000 in
theorem ggX4_restore_X4_needSlot : GoodIn wsX4_restore wsX4_needSlot := goodIn_ca (goodIn_r _ [11, 12, 13] (by decide +kernel) (by decide +kernel)) (goodIn_sub (fun _ h => List.mem_cons_of_mem _ (List.mem_append_right _ h)) (by decide +kernel))
set_option maxRecDepth 20000 in
theorem gX4_restore_X4_needSlot : GoodIn wsX4_restore (va_wsS RX4 224 yX4_needSlot wsX4_needSlot) := goodIn_app (goodIn_of _ (by decide +kernel)) ggX4_restore_X4_needSlot
set_option maxRecDepth 20000 in
theorem ggX4_restore_X0_copyFrom : GoodIn wsX4_restore wsX0_copyFrom := goodIn_r _ [18, 19, 20, 21, 22, 23, 24, 25, 26, 27, 28, 29, 30, 31, 32, 33, 34, 35, 36, 37, 38, 39, 40, 41, 42, 43, 44, 45, 46, 47, 48, 49, 64, 65, 66, 67, 68, 69, 70, 71, 72, 73, 74, 75, 76, 77, 78, 79, 80, 81, 82, 83, 84] (by decide +kernel) (by decide +kernel)
set_option maxRecDepth 20000 in
theorem gX4_restore_X0_copyFrom : GoodIn wsX4_restore (wsV RX4 69 RX0 yX0_copyFrom wsX0_copyFrom) := goodIn_app (goodIn_of _ (by decide +kernel)) ggX4_restore_X0_copyFrom
set_option maxRecDepth 20000 in
theorem ggX4_restore_X1_forgetAll : GoodIn wsX4_restore wsX1_forgetAll := goodIn_r _ [54, 55, 56, 85, 86, 87] (by decide +kernel) (by decide +kernel)
set_option maxRecDepth 20000 in
theorem gX4_restore_X1_forgetAll : GoodIn wsX4_restore (wsV RX4 73 RX1 yX1_forgetAll wsX1_forgetAll) := goodIn_app (goodIn_of _ (by decide +kernel)) ggX4_restore_X1_forgetAll
theorem dX4_restore_0 : decode cX4_restore 0 = .ok (.iload_n 1, 1) := by decide +kernel
theorem dX4_restore_1 : decode cX4_restore 1 = .ok (.invokestatic 224, 3) := by decide +kernel
theorem dX4_restore_4 : decode cX4_restore 4 = .ok (.aload_n 0, 1) := by decide +kernel
theorem dX4_restore_5 : decode cX4_restore 5 = .ok (.getfield 40, 3) := by decide +kernel
theorem dX4_restore_8 : decode cX4_restore 8 = .ok (.iload_n 1, 1) := by decide +kernel
theorem dX4_restore_9 : decode cX4_restore 9 = .ok (.baload, 1) := by decide +kernel
theorem dX4_restore_10 : decode cX4_restore 10 = .ok (.ifCond .ne 13, 3) := by decide +kernel
theorem dX4_restore_13 : decode cX4_restore 13 = .ok (.new 52, 3) := by decide +kernel
theorem dX4_restore_16 : decode cX4_restore 16 = .ok (.dup, 1) := by decide +kernel
theorem dX4_restore_17 : decode cX4_restore 17 = .ok (.ldc 230, 2) := by decide +kernel
theorem dX4_restore_19 : decode cX4_restore 19 = .ok (.invokespecial 56, 3) := by decide +kernel
theorem dX4_restore_22 : decode cX4_restore 22 = .ok (.athrow, 1) := by decide +kernel
theorem dX4_restore_23 : decode cX4_restore 23 = .ok (.aload_n 0, 1) := by decide +kernel
theorem dX4_restore_24 : decode cX4_restore 24 = .ok (.getfield 19, 3) := by decide +kernel
theorem dX4_restore_27 : decode cX4_restore 27 = .ok (.aload_n 0, 1) := by decide +kernel
theorem dX4_restore_28 : decode cX4_restore 28 = .ok (.getfield 36, 3) := by decide +kernel
theorem dX4_restore_31 : decode cX4_restore 31 = .ok (.iload_n 1, 1) := by decide +kernel
theorem dX4_restore_32 : decode cX4_restore 32 = .ok (.aaload, 1) := by decide +kernel
theorem dX4_restore_33 : decode cX4_restore 33 = .ok (.invokevirtual 69, 3) := by decide +kernel
theorem dX4_restore_36 : decode cX4_restore 36 = .ok (.aload_n 0, 1) := by decide +kernel
theorem dX4_restore_37 : decode cX4_restore 37 = .ok (.getfield 32, 3) := by decide +kernel
theorem dX4_restore_40 : decode cX4_restore 40 = .ok (.invokevirtual 73, 3) := by decide +kernel
theorem dX4_restore_43 : decode cX4_restore 43 = .ok (.aload_n 0, 1) := by decide +kernel
theorem dX4_restore_44 : decode cX4_restore 44 = .ok (.getfield 19, 3) := by decide +kernel
theorem dX4_restore_47 : decode cX4_restore 47 = .ok (.getfield 227, 3) := by decide +kernel
theorem dX4_restore_50 : decode cX4_restore 50 = .ok (.ireturn, 1) := by decide +kernel
set_option maxRecDepth 20000 in
theorem ggX4_act_X0_faultOf : GoodIn wsX4_act wsX0_faultOf := goodIn_r _ [13, 14, 15, 16, 17, 12, 18, 19, 20, 21, 22, 23, 24, 25, 26, 27, 28, 29, 30, 31, 32, 33, 34, 35, 36, 37, 38, 39, 40, 41, 42, 43, 44, 45, 46, 47, 48, 175, 176, 177, 178, 179, 180, 181, 182, 183, 184, 185, 186, 187, 188, 189, 190, 191, 192, 193, 194, 195] (by decide +kernel) (by decide +kernel)
set_option maxRecDepth 20000 in
theorem gX4_act_X0_faultOf : GoodIn wsX4_act (wsV RX4 232 RX0 yX0_faultOf wsX0_faultOf) := goodIn_app (goodIn_of _ (by decide +kernel)) ggX4_act_X0_faultOf
set_option maxRecDepth 20000 in
theorem ggX4_act_X1_remember : GoodIn wsX4_act wsX1_remember := goodIn_r _ [53, 54, 55, 56, 57, 58, 59, 12, 60, 14, 19, 28, 44, 61, 62, 63, 64, 65, 66, 67, 29, 68, 69, 70, 71, 72, 73, 74, 75, 76, 77, 33, 78, 79, 80, 81, 82, 83, 35, 84, 196, 197, 198, 175, 176, 177, 178, 179, 180, 181, 182, 183, 184, 185, 186, 187, 188, 189, 190, 191, 192, 193, 194, 195] (by decide +kernel) (by decide +kernel)
set_option maxRecDepth 20000 in
theorem gX4_act_X1_remember : GoodIn wsX4_act (wsV RX4 241 RX1 yX1_remember wsX1_remember) := goodIn_app (goodIn_of _ (by decide +kernel)) ggX4_act_X1_remember
set_option maxRecDepth 20000 in
theorem ggX4_act_X0_perform : GoodIn wsX4_act wsX0_perform := goodIn_r _ [88, 14, 89, 10, 11, 12, 13, 15, 16, 17, 18, 19, 20, 21, 22, 23, 24, 25, 26, 27, 28, 29, 30, 31, 32, 33, 34, 35, 36, 37, 38, 39, 40, 41, 42, 43, 44, 45, 46, 47, 48, 90, 91, 92, 93, 68, 69, 94, 95, 96, 97, 70, 71, 98, 99, 100, 101, 102, 103, 104, 105, 106, 107, 108, 109, 110, 111, 112, 113, 114, 115, 63, 116, 117, 118, 119, 120, 121, 79, 80, 122, 123, 124, 125, 126, 127, 128, 129, 82, 81, 83, 130, 131, 132, 133, 134, 72, 73, 135, 136, 137, 74, 138, 139, 140, 141, 142, 143, 144, 145, 146, 147, 148, 149, 150, 151, 152, 153, 154, 155, 156, 157, 158, 159, 160, 161, 162, 62, 61, 163, 164, 165, 166, 167, 175, 176, 177, 178, 179, 180, 181, 182, 183, 184, 185, 186, 187, 188, 189, 190, 191, 192, 193, 194, 195] (by decide +kernel) (by decide +kernel)
set_option maxRecDepth 20000 in
theorem gX4_act_X0_perform : GoodIn wsX4_act (wsV RX4 98 RX0 yX0_perform wsX0_perform) := goodIn_app (goodIn_of _ (by decide +kernel)) ggX4_act_X0_perform
theorem dX4_act_0 : decode cX4_act 0 = .ok (.aload_n 0, 1) := by decide +kernel
theorem dX4_act_1 : decode cX4_act 1 = .ok (.getfield 19, 3) := by decide +kernel
theorem dX4_act_4 : decode cX4_act 4 = .ok (.iload_n 1, 1) := by decide +kernel
theorem dX4_act_5 : decode cX4_act 5 = .ok (.iload_n 2, 1) := by decide +kernel
theorem dX4_act_6 : decode cX4_act 6 = .ok (.iload_n 3, 1) := by decide +kernel
theorem dX4_act_7 : decode cX4_act 7 = .ok (.iload 4, 2) := by decide +kernel
theorem dX4_act_9 : decode cX4_act 9 = .ok (.invokevirtual 232, 3) := by decide +kernel
theorem dX4_act_12 : decode cX4_act 12 = .ok (.istore 5, 2) := by decide +kernel
theorem dX4_act_14 : decode cX4_act 14 = .ok (.iload 5, 2) := by decide +kernel
theorem dX4_act_16 : decode cX4_act 16 = .ok (.iconst 1, 1) := by decide +kernel
theorem dX4_act_17 : decode cX4_act 17 = .ok (.if_icmp .ne 13, 3) := by decide +kernel
theorem dX4_act_20 : decode cX4_act 20 = .ok (.new 126, 3) := by decide +kernel
theorem dX4_act_23 : decode cX4_act 23 = .ok (.dup, 1) := by decide +kernel
theorem dX4_act_24 : decode cX4_act 24 = .ok (.ldc 235, 2) := by decide +kernel
theorem dX4_act_26 : decode cX4_act 26 = .ok (.invokespecial 130, 3) := by decide +kernel
theorem dX4_act_29 : decode cX4_act 29 = .ok (.athrow, 1) := by decide +kernel
theorem dX4_act_30 : decode cX4_act 30 = .ok (.iload 5, 2) := by decide +kernel
theorem dX4_act_32 : decode cX4_act 32 = .ok (.iconst 2, 1) := by decide +kernel
theorem dX4_act_33 : decode cX4_act 33 = .ok (.if_icmp .ne 13, 3) := by decide +kernel
theorem dX4_act_36 : decode cX4_act 36 = .ok (.new 202, 3) := by decide +kernel
theorem dX4_act_39 : decode cX4_act 39 = .ok (.dup, 1) := by decide +kernel
theorem dX4_act_40 : decode cX4_act 40 = .ok (.ldc 237, 2) := by decide +kernel
theorem dX4_act_42 : decode cX4_act 42 = .ok (.invokespecial 206, 3) := by decide +kernel
theorem dX4_act_45 : decode cX4_act 45 = .ok (.athrow, 1) := by decide +kernel
theorem dX4_act_46 : decode cX4_act 46 = .ok (.iload 5, 2) := by decide +kernel
theorem dX4_act_48 : decode cX4_act 48 = .ok (.iconst 3, 1) := by decide +kernel
theorem dX4_act_49 : decode cX4_act 49 = .ok (.if_icmp .ne 13, 3) := by decide +kernel
theorem dX4_act_52 : decode cX4_act 52 = .ok (.new 52, 3) := by decide +kernel
theorem dX4_act_55 : decode cX4_act 55 = .ok (.dup, 1) := by decide +kernel
theorem dX4_act_56 : decode cX4_act 56 = .ok (.ldc 239, 2) := by decide +kernel
theorem dX4_act_58 : decode cX4_act 58 = .ok (.invokespecial 56, 3) := by decide +kernel
theorem dX4_act_61 : decode cX4_act 61 = .ok (.athrow, 1) := by decide +kernel
theorem dX4_act_62 : decode cX4_act 62 = .ok (.aload_n 0, 1) := by decide +kernel
theorem dX4_act_63 : decode cX4_act 63 = .ok (.getfield 32, 3) := by decide +kernel
theorem dX4_act_66 : decode cX4_act 66 = .ok (.aload_n 0, 1) := by decide +kernel
theorem dX4_act_67 : decode cX4_act 67 = .ok (.getfield 19, 3) := by decide +kernel
theorem dX4_act_70 : decode cX4_act 70 = .ok (.invokevirtual 241, 3) := by decide +kernel
theorem dX4_act_73 : decode cX4_act 73 = .ok (.aload_n 0, 1) := by decide +kernel
theorem dX4_act_74 : decode cX4_act 74 = .ok (.getfield 19, 3) := by decide +kernel
theorem dX4_act_77 : decode cX4_act 77 = .ok (.iload_n 1, 1) := by decide +kernel
theorem dX4_act_78 : decode cX4_act 78 = .ok (.iload_n 2, 1) := by decide +kernel
theorem dX4_act_79 : decode cX4_act 79 = .ok (.iload_n 3, 1) := by decide +kernel
theorem dX4_act_80 : decode cX4_act 80 = .ok (.iload 4, 2) := by decide +kernel
theorem dX4_act_82 : decode cX4_act 82 = .ok (.invokevirtual 98, 3) := by decide +kernel
theorem dX4_act_85 : decode cX4_act 85 = .ok (.ireturn, 1) := by decide +kernel
theorem dX4_needRange_0 : decode cX4_needRange 0 = .ok (.iload_n 0, 1) := by decide +kernel
theorem dX4_needRange_1 : decode cX4_needRange 1 = .ok (.iload_n 1, 1) := by decide +kernel
theorem dX4_needRange_2 : decode cX4_needRange 2 = .ok (.if_icmp .lt 8, 3) := by decide +kernel
theorem dX4_needRange_5 : decode cX4_needRange 5 = .ok (.iload_n 0, 1) := by decide +kernel
theorem dX4_needRange_6 : decode cX4_needRange 6 = .ok (.iload_n 2, 1) := by decide +kernel
theorem dX4_needRange_7 : decode cX4_needRange 7 = .ok (.if_icmp .le 13, 3) := by decide +kernel
theorem dX4_needRange_10 : decode cX4_needRange 10 = .ok (.new 202, 3) := by decide +kernel
theorem dX4_needRange_13 : decode cX4_needRange 13 = .ok (.dup, 1) := by decide +kernel
theorem dX4_needRange_14 : decode cX4_needRange 14 = .ok (.ldc 237, 2) := by decide +kernel
theorem dX4_needRange_16 : decode cX4_needRange 16 = .ok (.invokespecial 206, 3) := by decide +kernel
theorem dX4_needRange_19 : decode cX4_needRange 19 = .ok (.athrow, 1) := by decide +kernel
theorem dX4_needRange_20 : decode cX4_needRange 20 = .ok (.return_, 1) := by decide +kernel
theorem dX4_needCell_0 : decode cX4_needCell 0 = .ok (.iload_n 0, 1) := by decide +kernel
theorem dX4_needCell_1 : decode cX4_needCell 1 = .ok (.ifCond .lt 9, 3) := by decide +kernel
theorem dX4_needCell_4 : decode cX4_needCell 4 = .ok (.iload_n 0, 1) := by decide +kernel
theorem dX4_needCell_5 : decode cX4_needCell 5 = .ok (.bipush 30, 2) := by decide +kernel
theorem dX4_needCell_7 : decode cX4_needCell 7 = .ok (.if_icmp .lt 13, 3) := by decide +kernel
theorem dX4_needCell_10 : decode cX4_needCell 10 = .ok (.new 126, 3) := by decide +kernel
theorem dX4_needCell_13 : decode cX4_needCell 13 = .ok (.dup, 1) := by decide +kernel
theorem dX4_needCell_14 : decode cX4_needCell 14 = .ok (.ldc 244, 2) := by decide +kernel
theorem dX4_needCell_16 : decode cX4_needCell 16 = .ok (.invokespecial 130, 3) := by decide +kernel
theorem dX4_needCell_19 : decode cX4_needCell 19 = .ok (.athrow, 1) := by decide +kernel
theorem dX4_needCell_20 : decode cX4_needCell 20 = .ok (.return_, 1) := by decide +kernel
theorem dX4_needSlot_0 : decode cX4_needSlot 0 = .ok (.iload_n 0, 1) := by decide +kernel
theorem dX4_needSlot_1 : decode cX4_needSlot 1 = .ok (.ifCond .lt 8, 3) := by decide +kernel
theorem dX4_needSlot_4 : decode cX4_needSlot 4 = .ok (.iload_n 0, 1) := by decide +kernel
theorem dX4_needSlot_5 : decode cX4_needSlot 5 = .ok (.iconst 2, 1) := by decide +kernel
theorem dX4_needSlot_6 : decode cX4_needSlot 6 = .ok (.if_icmp .lt 13, 3) := by decide +kernel
theorem dX4_needSlot_9 : decode cX4_needSlot 9 = .ok (.new 126, 3) := by decide +kernel
theorem dX4_needSlot_12 : decode cX4_needSlot 12 = .ok (.dup, 1) := by decide +kernel
theorem dX4_needSlot_13 : decode cX4_needSlot 13 = .ok (.ldc 246, 2) := by decide +kernel
theorem dX4_needSlot_15 : decode cX4_needSlot 15 = .ok (.invokespecial 130, 3) := by decide +kernel
theorem dX4_needSlot_18 : decode cX4_needSlot 18 = .ok (.athrow, 1) := by decide +kernel
theorem dX4_needSlot_19 : decode cX4_needSlot 19 = .ok (.return_, 1) := by decide +kernel
set_option maxRecDepth 20000 in
theorem ggX4_needSite_X0_hasSite : GoodIn wsX4_needSite wsX0_hasSite := goodIn_r _ [8, 9, 17, 18, 19, 20, 21, 22, 23, 24, 25, 26, 27, 28, 29, 30, 31] (by decide +kernel) (by decide +kernel)
set_option maxRecDepth 20000 in
theorem gX4_needSite_X0_hasSite : GoodIn wsX4_needSite (wsV RX4 248 RX0 yX0_hasSite wsX0_hasSite) := goodIn_app (goodIn_of _ (by decide +kernel)) ggX4_needSite_X0_hasSite
theorem dX4_needSite_0 : decode cX4_needSite 0 = .ok (.aload_n 0, 1) := by decide +kernel
theorem dX4_needSite_1 : decode cX4_needSite 1 = .ok (.getfield 19, 3) := by decide +kernel
theorem dX4_needSite_4 : decode cX4_needSite 4 = .ok (.iload_n 1, 1) := by decide +kernel
theorem dX4_needSite_5 : decode cX4_needSite 5 = .ok (.invokevirtual 248, 3) := by decide +kernel
theorem dX4_needSite_8 : decode cX4_needSite 8 = .ok (.ifCond .ne 13, 3) := by decide +kernel
theorem dX4_needSite_11 : decode cX4_needSite 11 = .ok (.new 126, 3) := by decide +kernel
theorem dX4_needSite_14 : decode cX4_needSite 14 = .ok (.dup, 1) := by decide +kernel
theorem dX4_needSite_15 : decode cX4_needSite 15 = .ok (.ldc 251, 2) := by decide +kernel
theorem dX4_needSite_17 : decode cX4_needSite 17 = .ok (.invokespecial 130, 3) := by decide +kernel
theorem dX4_needSite_20 : decode cX4_needSite 20 = .ok (.athrow, 1) := by decide +kernel
theorem dX4_needSite_21 : decode cX4_needSite 21 = .ok (.return_, 1) := by decide +kernel
set_option maxRecDepth 20000 in
theorem ggX4_needPipe_X0_hasPipe : GoodIn wsX4_needPipe wsX0_hasPipe := goodIn_r _ [8, 9, 17, 18, 19, 20, 21, 22, 23, 24, 25, 26, 27, 28, 29, 30, 31] (by decide +kernel) (by decide +kernel)
set_option maxRecDepth 20000 in
theorem gX4_needPipe_X0_hasPipe : GoodIn wsX4_needPipe (wsV RX4 253 RX0 yX0_hasPipe wsX0_hasPipe) := goodIn_app (goodIn_of _ (by decide +kernel)) ggX4_needPipe_X0_hasPipe
theorem dX4_needPipe_0 : decode cX4_needPipe 0 = .ok (.aload_n 0, 1) := by decide +kernel
theorem dX4_needPipe_1 : decode cX4_needPipe 1 = .ok (.getfield 19, 3) := by decide +kernel
theorem dX4_needPipe_4 : decode cX4_needPipe 4 = .ok (.iload_n 1, 1) := by decide +kernel
theorem dX4_needPipe_5 : decode cX4_needPipe 5 = .ok (.invokevirtual 253, 3) := by decide +kernel
theorem dX4_needPipe_8 : decode cX4_needPipe 8 = .ok (.ifCond .ne 14, 3) := by decide +kernel
theorem dX4_needPipe_11 : decode cX4_needPipe 11 = .ok (.new 126, 3) := by decide +kernel
theorem dX4_needPipe_14 : decode cX4_needPipe 14 = .ok (.dup, 1) := by decide +kernel
theorem dX4_needPipe_15 : decode cX4_needPipe 15 = .ok (.ldc_w 256, 3) := by decide +kernel
theorem dX4_needPipe_18 : decode cX4_needPipe 18 = .ok (.invokespecial 130, 3) := by decide +kernel
theorem dX4_needPipe_21 : decode cX4_needPipe 21 = .ok (.athrow, 1) := by decide +kernel
theorem dX4_needPipe_22 : decode cX4_needPipe 22 = .ok (.return_, 1) := by decide +kernel
theorem dX4_scriptGroup_0 : decode cX4_scriptGroup 0 = .ok (.lload_n 1, 1) := by decide +kernel
theorem dX4_scriptGroup_1 : decode cX4_scriptGroup 1 = .ok (.lstore 4, 2) := by decide +kernel
theorem dX4_scriptGroup_3 : decode cX4_scriptGroup 3 = .ok (.iload_n 0, 1) := by decide +kernel
theorem dX4_scriptGroup_4 : decode cX4_scriptGroup 4 = .ok (.iconst 1, 1) := by decide +kernel
theorem dX4_scriptGroup_5 : decode cX4_scriptGroup 5 = .ok (.isub, 1) := by decide +kernel
theorem dX4_scriptGroup_6 : decode cX4_scriptGroup 6 = .ok (.istore 6, 2) := by decide +kernel
theorem dX4_scriptGroup_8 : decode cX4_scriptGroup 8 = .ok (.iload 6, 2) := by decide +kernel
theorem dX4_scriptGroup_10 : decode cX4_scriptGroup 10 = .ok (.iload_n 3, 1) := by decide +kernel
theorem dX4_scriptGroup_11 : decode cX4_scriptGroup 11 = .ok (.if_icmp .le 17, 3) := by decide +kernel
theorem dX4_scriptGroup_14 : decode cX4_scriptGroup 14 = .ok (.lload 4, 2) := by decide +kernel
theorem dX4_scriptGroup_16 : decode cX4_scriptGroup 16 = .ok (.ldc2_w 200, 3) := by decide +kernel
theorem dX4_scriptGroup_19 : decode cX4_scriptGroup 19 = .ok (.ldiv, 1) := by decide +kernel
theorem dX4_scriptGroup_20 : decode cX4_scriptGroup 20 = .ok (.lstore 4, 2) := by decide +kernel
theorem dX4_scriptGroup_22 : decode cX4_scriptGroup 22 = .ok (.iinc 6 (-1), 3) := by decide +kernel
theorem dX4_scriptGroup_25 : decode cX4_scriptGroup 25 = .ok (.goto (-17), 3) := by decide +kernel
theorem dX4_scriptGroup_28 : decode cX4_scriptGroup 28 = .ok (.lload 4, 2) := by decide +kernel
theorem dX4_scriptGroup_30 : decode cX4_scriptGroup 30 = .ok (.ldc2_w 200, 3) := by decide +kernel
theorem dX4_scriptGroup_33 : decode cX4_scriptGroup 33 = .ok (.lrem, 1) := by decide +kernel
theorem dX4_scriptGroup_34 : decode cX4_scriptGroup 34 = .ok (.l2i, 1) := by decide +kernel
theorem dX4_scriptGroup_35 : decode cX4_scriptGroup 35 = .ok (.ireturn, 1) := by decide +kernel
set_option maxRecDepth 20000 in
theorem ggX4_scriptCommand_X0_perform : GoodIn wsX4_scriptCommand wsX0_perform := goodIn_r _ [9, 10, 11, 12, 13, 8, 14, 15, 16, 17, 18, 19, 20, 21, 22, 23, 24, 25, 26, 27, 28, 29, 30, 31, 32, 33, 34, 35, 36, 37, 38, 39, 40, 41, 42, 43, 44, 45, 46, 47, 48, 49, 50, 51, 52, 53, 54, 55, 56, 57, 58, 59, 60, 61, 62, 63, 64, 65, 66, 67, 68, 69, 70, 71, 72, 73, 74, 75, 76, 77, 78, 79, 80, 81, 82, 83, 84, 85, 86, 87, 88, 89, 90, 91, 92, 93, 94, 95, 96, 97, 98, 99, 100, 101, 102, 103, 104, 105, 106, 107, 108, 109, 110, 111, 112, 113, 114, 115, 116, 117, 118, 119, 120, 121, 122, 123, 124, 125, 126, 127, 128, 129, 130, 131, 132, 133, 134, 135, 136, 137, 138, 139, 140, 141, 164, 165, 166, 167, 168, 169, 170, 171, 172, 173, 174, 175, 176, 177, 178, 179, 180, 181, 182, 183, 184] (by decide +kernel) (by decide +kernel)
set_option maxRecDepth 20000 in
theorem gX4_scriptCommand_X0_perform : GoodIn wsX4_scriptCommand (wsV RX4 98 RX0 yX0_perform wsX0_perform) := goodIn_app (goodIn_of _ (by decide +kernel)) ggX4_scriptCommand_X0_perform
set_option maxRecDepth 20000 in
theorem ggX4_scriptCommand_X0_hasSite : GoodIn wsX4_scriptCommand wsX0_hasSite := goodIn_r _ [23, 10, 164, 165, 166, 167, 168, 169, 170, 171, 172, 173, 174, 175, 176, 177, 178] (by decide +kernel) (by decide +kernel)
set_option maxRecDepth 20000 in
theorem gX4_scriptCommand_X0_hasSite : GoodIn wsX4_scriptCommand (wsV RX4 248 RX0 yX0_hasSite wsX0_hasSite) := goodIn_app (goodIn_of _ (by decide +kernel)) ggX4_scriptCommand_X0_hasSite
set_option maxRecDepth 20000 in
theorem ggX4_scriptCommand_X2_isFrozen : GoodIn wsX4_scriptCommand wsX2_isFrozen := goodIn_r _ [34, 35, 179, 180, 181, 182, 183, 184] (by decide +kernel) (by decide +kernel)
set_option maxRecDepth 20000 in
theorem gX4_scriptCommand_X2_isFrozen : GoodIn wsX4_scriptCommand (wsV RX4 181 RX2 yX2_isFrozen wsX2_isFrozen) := goodIn_app (goodIn_of _ (by decide +kernel)) ggX4_scriptCommand_X2_isFrozen
set_option maxRecDepth 20000 in
theorem ggX4_scriptCommand_X2_frozenWithin : GoodIn wsX4_scriptCommand wsX2_frozenWithin := goodIn_r _ [126, 118, 31, 32, 33, 34, 35, 179, 180, 181, 182, 183, 184] (by decide +kernel) (by decide +kernel)
set_option maxRecDepth 20000 in
theorem gX4_scriptCommand_X2_frozenWithin : GoodIn wsX4_scriptCommand (wsV RX4 188 RX2 yX2_frozenWithin wsX2_frozenWithin) := goodIn_app (goodIn_of _ (by decide +kernel)) ggX4_scriptCommand_X2_frozenWithin
set_option maxRecDepth 20000 in
theorem ggX4_scriptCommand_X2_layersWithin : GoodIn wsX4_scriptCommand wsX2_layersWithin := goodIn_r _ [148, 149, 150, 151, 33, 152, 118, 31, 32, 34, 35, 179, 180, 181, 182, 183, 184] (by decide +kernel) (by decide +kernel)
set_option maxRecDepth 20000 in
theorem gX4_scriptCommand_X2_layersWithin : GoodIn wsX4_scriptCommand (wsV RX4 149 RX2 yX2_layersWithin wsX2_layersWithin) := goodIn_app (goodIn_of _ (by decide +kernel)) ggX4_scriptCommand_X2_layersWithin
set_option maxRecDepth 20000 in
theorem ggX4_scriptCommand_X0_hasPipe : GoodIn wsX4_scriptCommand wsX0_hasPipe := goodIn_r _ [156, 28, 164, 165, 166, 167, 168, 169, 170, 171, 172, 173, 174, 175, 176, 177, 178] (by decide +kernel) (by decide +kernel)
set_option maxRecDepth 20000 in
theorem gX4_scriptCommand_X0_hasPipe : GoodIn wsX4_scriptCommand (wsV RX4 253 RX0 yX0_hasPipe wsX0_hasPipe) := goodIn_app (goodIn_of _ (by decide +kernel)) ggX4_scriptCommand_X0_hasPipe
theorem dX4_scriptCommand_0 : decode cX4_scriptCommand 0 = .ok (.iload_n 1, 1) := by decide +kernel
theorem dX4_scriptCommand_1 : decode cX4_scriptCommand 1 = .ok (.sipush 10000, 3) := by decide +kernel
theorem dX4_scriptCommand_4 : decode cX4_scriptCommand 4 = .ok (.idiv, 1) := by decide +kernel
theorem dX4_scriptCommand_5 : decode cX4_scriptCommand 5 = .ok (.bipush 10, 2) := by decide +kernel
theorem dX4_scriptCommand_7 : decode cX4_scriptCommand 7 = .ok (.irem, 1) := by decide +kernel
theorem dX4_scriptCommand_8 : decode cX4_scriptCommand 8 = .ok (.istore_n 2, 1) := by decide +kernel
theorem dX4_scriptCommand_9 : decode cX4_scriptCommand 9 = .ok (.iload_n 1, 1) := by decide +kernel
theorem dX4_scriptCommand_10 : decode cX4_scriptCommand 10 = .ok (.sipush 1000, 3) := by decide +kernel
theorem dX4_scriptCommand_13 : decode cX4_scriptCommand 13 = .ok (.idiv, 1) := by decide +kernel
theorem dX4_scriptCommand_14 : decode cX4_scriptCommand 14 = .ok (.bipush 10, 2) := by decide +kernel
theorem dX4_scriptCommand_16 : decode cX4_scriptCommand 16 = .ok (.irem, 1) := by decide +kernel
theorem dX4_scriptCommand_17 : decode cX4_scriptCommand 17 = .ok (.istore_n 3, 1) := by decide +kernel
theorem dX4_scriptCommand_18 : decode cX4_scriptCommand 18 = .ok (.iload_n 1, 1) := by decide +kernel
theorem dX4_scriptCommand_19 : decode cX4_scriptCommand 19 = .ok (.bipush 100, 2) := by decide +kernel
theorem dX4_scriptCommand_21 : decode cX4_scriptCommand 21 = .ok (.idiv, 1) := by decide +kernel
theorem dX4_scriptCommand_22 : decode cX4_scriptCommand 22 = .ok (.bipush 10, 2) := by decide +kernel
theorem dX4_scriptCommand_24 : decode cX4_scriptCommand 24 = .ok (.irem, 1) := by decide +kernel
theorem dX4_scriptCommand_25 : decode cX4_scriptCommand 25 = .ok (.istore 4, 2) := by decide +kernel
theorem dX4_scriptCommand_27 : decode cX4_scriptCommand 27 = .ok (.iload_n 1, 1) := by decide +kernel
theorem dX4_scriptCommand_28 : decode cX4_scriptCommand 28 = .ok (.bipush 10, 2) := by decide +kernel
theorem dX4_scriptCommand_30 : decode cX4_scriptCommand 30 = .ok (.irem, 1) := by decide +kernel
theorem dX4_scriptCommand_31 : decode cX4_scriptCommand 31 = .ok (.istore 5, 2) := by decide +kernel
theorem dX4_scriptCommand_33 : decode cX4_scriptCommand 33 = .ok (.iload_n 1, 1) := by decide +kernel
theorem dX4_scriptCommand_34 : decode cX4_scriptCommand 34 = .ok (.sipush 1000, 3) := by decide +kernel
theorem dX4_scriptCommand_37 : decode cX4_scriptCommand 37 = .ok (.idiv, 1) := by decide +kernel
theorem dX4_scriptCommand_38 : decode cX4_scriptCommand 38 = .ok (.bipush 100, 2) := by decide +kernel
theorem dX4_scriptCommand_40 : decode cX4_scriptCommand 40 = .ok (.irem, 1) := by decide +kernel
theorem dX4_scriptCommand_41 : decode cX4_scriptCommand 41 = .ok (.istore 6, 2) := by decide +kernel
theorem dX4_scriptCommand_43 : decode cX4_scriptCommand 43 = .ok (.iload_n 1, 1) := by decide +kernel
theorem dX4_scriptCommand_44 : decode cX4_scriptCommand 44 = .ok (.bipush 10, 2) := by decide +kernel
theorem dX4_scriptCommand_46 : decode cX4_scriptCommand 46 = .ok (.idiv, 1) := by decide +kernel
theorem dX4_scriptCommand_47 : decode cX4_scriptCommand 47 = .ok (.bipush 100, 2) := by decide +kernel
theorem dX4_scriptCommand_49 : decode cX4_scriptCommand 49 = .ok (.irem, 1) := by decide +kernel
theorem dX4_scriptCommand_50 : decode cX4_scriptCommand 50 = .ok (.istore 7, 2) := by decide +kernel
theorem dX4_scriptCommand_52 : decode cX4_scriptCommand 52 = .ok (.iload_n 1, 1) := by decide +kernel
theorem dX4_scriptCommand_53 : decode cX4_scriptCommand 53 = .ok (.ldc_w 258, 3) := by decide +kernel
theorem dX4_scriptCommand_56 : decode cX4_scriptCommand 56 = .ok (.idiv, 1) := by decide +kernel
theorem dX4_scriptCommand_57 : decode cX4_scriptCommand 57 = .ok (.tableswitch 392 1 9 #[51, 77, 106, 138, 168, 200, 262, 309, 354], 51) := by decide +kernel
theorem dX4_scriptCommand_108 : decode cX4_scriptCommand 108 = .ok (.aload_n 0, 1) := by decide +kernel
theorem dX4_scriptCommand_109 : decode cX4_scriptCommand 109 = .ok (.getfield 23, 3) := by decide +kernel
theorem dX4_scriptCommand_112 : decode cX4_scriptCommand 112 = .ok (.bipush 100, 2) := by decide +kernel
theorem dX4_scriptCommand_114 : decode cX4_scriptCommand 114 = .ok (.iload 6, 2) := by decide +kernel
theorem dX4_scriptCommand_116 : decode cX4_scriptCommand 116 = .ok (.ineg, 1) := by decide +kernel
theorem dX4_scriptCommand_117 : decode cX4_scriptCommand 117 = .ok (.iload 7, 2) := by decide +kernel
theorem dX4_scriptCommand_119 : decode cX4_scriptCommand 119 = .ok (.iload 5, 2) := by decide +kernel
theorem dX4_scriptCommand_121 : decode cX4_scriptCommand 121 = .ok (.invokevirtual 98, 3) := by decide +kernel
theorem dX4_scriptCommand_124 : decode cX4_scriptCommand 124 = .ok (.iconst (-1), 1) := by decide +kernel
theorem dX4_scriptCommand_125 : decode cX4_scriptCommand 125 = .ok (.if_icmp .eq 7, 3) := by decide +kernel
theorem dX4_scriptCommand_128 : decode cX4_scriptCommand 128 = .ok (.iconst 1, 1) := by decide +kernel
theorem dX4_scriptCommand_129 : decode cX4_scriptCommand 129 = .ok (.goto 4, 3) := by decide +kernel
theorem dX4_scriptCommand_132 : decode cX4_scriptCommand 132 = .ok (.iconst 0, 1) := by decide +kernel
theorem dX4_scriptCommand_133 : decode cX4_scriptCommand 133 = .ok (.ireturn, 1) := by decide +kernel
theorem dX4_scriptCommand_134 : decode cX4_scriptCommand 134 = .ok (.iload 7, 2) := by decide +kernel
theorem dX4_scriptCommand_136 : decode cX4_scriptCommand 136 = .ok (.ifCond .ne 25, 3) := by decide +kernel
theorem dX4_scriptCommand_139 : decode cX4_scriptCommand 139 = .ok (.aload_n 0, 1) := by decide +kernel
theorem dX4_scriptCommand_140 : decode cX4_scriptCommand 140 = .ok (.getfield 23, 3) := by decide +kernel
theorem dX4_scriptCommand_143 : decode cX4_scriptCommand 143 = .ok (.bipush 100, 2) := by decide +kernel
theorem dX4_scriptCommand_145 : decode cX4_scriptCommand 145 = .ok (.iload 6, 2) := by decide +kernel
theorem dX4_scriptCommand_147 : decode cX4_scriptCommand 147 = .ok (.iconst 0, 1) := by decide +kernel
theorem dX4_scriptCommand_148 : decode cX4_scriptCommand 148 = .ok (.iload 5, 2) := by decide +kernel
theorem dX4_scriptCommand_150 : decode cX4_scriptCommand 150 = .ok (.invokevirtual 98, 3) := by decide +kernel
theorem dX4_scriptCommand_153 : decode cX4_scriptCommand 153 = .ok (.iconst (-1), 1) := by decide +kernel
theorem dX4_scriptCommand_154 : decode cX4_scriptCommand 154 = .ok (.if_icmp .eq 7, 3) := by decide +kernel
theorem dX4_scriptCommand_157 : decode cX4_scriptCommand 157 = .ok (.iconst 1, 1) := by decide +kernel
theorem dX4_scriptCommand_158 : decode cX4_scriptCommand 158 = .ok (.goto 4, 3) := by decide +kernel
theorem dX4_scriptCommand_161 : decode cX4_scriptCommand 161 = .ok (.iconst 0, 1) := by decide +kernel
theorem dX4_scriptCommand_162 : decode cX4_scriptCommand 162 = .ok (.ireturn, 1) := by decide +kernel
theorem dX4_scriptCommand_163 : decode cX4_scriptCommand 163 = .ok (.iload_n 3, 1) := by decide +kernel
theorem dX4_scriptCommand_164 : decode cX4_scriptCommand 164 = .ok (.ifCond .ne 29, 3) := by decide +kernel
theorem dX4_scriptCommand_167 : decode cX4_scriptCommand 167 = .ok (.iload 5, 2) := by decide +kernel
theorem dX4_scriptCommand_169 : decode cX4_scriptCommand 169 = .ok (.ifCond .ne 24, 3) := by decide +kernel
theorem dX4_scriptCommand_172 : decode cX4_scriptCommand 172 = .ok (.aload_n 0, 1) := by decide +kernel
theorem dX4_scriptCommand_173 : decode cX4_scriptCommand 173 = .ok (.getfield 23, 3) := by decide +kernel
theorem dX4_scriptCommand_176 : decode cX4_scriptCommand 176 = .ok (.bipush 102, 2) := by decide +kernel
theorem dX4_scriptCommand_178 : decode cX4_scriptCommand 178 = .ok (.iload_n 2, 1) := by decide +kernel
theorem dX4_scriptCommand_179 : decode cX4_scriptCommand 179 = .ok (.iload 7, 2) := by decide +kernel
theorem dX4_scriptCommand_181 : decode cX4_scriptCommand 181 = .ok (.iconst 0, 1) := by decide +kernel
theorem dX4_scriptCommand_182 : decode cX4_scriptCommand 182 = .ok (.invokevirtual 98, 3) := by decide +kernel
theorem dX4_scriptCommand_185 : decode cX4_scriptCommand 185 = .ok (.iconst (-1), 1) := by decide +kernel
theorem dX4_scriptCommand_186 : decode cX4_scriptCommand 186 = .ok (.if_icmp .eq 7, 3) := by decide +kernel
theorem dX4_scriptCommand_189 : decode cX4_scriptCommand 189 = .ok (.iconst 1, 1) := by decide +kernel
theorem dX4_scriptCommand_190 : decode cX4_scriptCommand 190 = .ok (.goto 4, 3) := by decide +kernel
theorem dX4_scriptCommand_193 : decode cX4_scriptCommand 193 = .ok (.iconst 0, 1) := by decide +kernel
theorem dX4_scriptCommand_194 : decode cX4_scriptCommand 194 = .ok (.ireturn, 1) := by decide +kernel
theorem dX4_scriptCommand_195 : decode cX4_scriptCommand 195 = .ok (.iload_n 1, 1) := by decide +kernel
theorem dX4_scriptCommand_196 : decode cX4_scriptCommand 196 = .ok (.sipush 10000, 3) := by decide +kernel
theorem dX4_scriptCommand_199 : decode cX4_scriptCommand 199 = .ok (.irem, 1) := by decide +kernel
theorem dX4_scriptCommand_200 : decode cX4_scriptCommand 200 = .ok (.ifCond .ne 23, 3) := by decide +kernel
theorem dX4_scriptCommand_203 : decode cX4_scriptCommand 203 = .ok (.aload_n 0, 1) := by decide +kernel
theorem dX4_scriptCommand_204 : decode cX4_scriptCommand 204 = .ok (.getfield 23, 3) := by decide +kernel
theorem dX4_scriptCommand_207 : decode cX4_scriptCommand 207 = .ok (.bipush 120, 2) := by decide +kernel
theorem dX4_scriptCommand_209 : decode cX4_scriptCommand 209 = .ok (.iload_n 2, 1) := by decide +kernel
theorem dX4_scriptCommand_210 : decode cX4_scriptCommand 210 = .ok (.iconst 0, 1) := by decide +kernel
theorem dX4_scriptCommand_211 : decode cX4_scriptCommand 211 = .ok (.iconst 0, 1) := by decide +kernel
theorem dX4_scriptCommand_212 : decode cX4_scriptCommand 212 = .ok (.invokevirtual 98, 3) := by decide +kernel
theorem dX4_scriptCommand_215 : decode cX4_scriptCommand 215 = .ok (.iconst (-1), 1) := by decide +kernel
theorem dX4_scriptCommand_216 : decode cX4_scriptCommand 216 = .ok (.if_icmp .eq 7, 3) := by decide +kernel
theorem dX4_scriptCommand_219 : decode cX4_scriptCommand 219 = .ok (.iconst 1, 1) := by decide +kernel
theorem dX4_scriptCommand_220 : decode cX4_scriptCommand 220 = .ok (.goto 4, 3) := by decide +kernel
theorem dX4_scriptCommand_223 : decode cX4_scriptCommand 223 = .ok (.iconst 0, 1) := by decide +kernel
theorem dX4_scriptCommand_224 : decode cX4_scriptCommand 224 = .ok (.ireturn, 1) := by decide +kernel
theorem dX4_scriptCommand_225 : decode cX4_scriptCommand 225 = .ok (.iload_n 3, 1) := by decide +kernel
theorem dX4_scriptCommand_226 : decode cX4_scriptCommand 226 = .ok (.ifCond .ne 29, 3) := by decide +kernel
theorem dX4_scriptCommand_229 : decode cX4_scriptCommand 229 = .ok (.iload 5, 2) := by decide +kernel
theorem dX4_scriptCommand_231 : decode cX4_scriptCommand 231 = .ok (.ifCond .ne 24, 3) := by decide +kernel
theorem dX4_scriptCommand_234 : decode cX4_scriptCommand 234 = .ok (.aload_n 0, 1) := by decide +kernel
theorem dX4_scriptCommand_235 : decode cX4_scriptCommand 235 = .ok (.getfield 23, 3) := by decide +kernel
theorem dX4_scriptCommand_238 : decode cX4_scriptCommand 238 = .ok (.bipush 101, 2) := by decide +kernel
theorem dX4_scriptCommand_240 : decode cX4_scriptCommand 240 = .ok (.iload_n 2, 1) := by decide +kernel
theorem dX4_scriptCommand_241 : decode cX4_scriptCommand 241 = .ok (.iload 7, 2) := by decide +kernel
theorem dX4_scriptCommand_243 : decode cX4_scriptCommand 243 = .ok (.iconst 0, 1) := by decide +kernel
theorem dX4_scriptCommand_244 : decode cX4_scriptCommand 244 = .ok (.invokevirtual 98, 3) := by decide +kernel
theorem dX4_scriptCommand_247 : decode cX4_scriptCommand 247 = .ok (.iconst (-1), 1) := by decide +kernel
theorem dX4_scriptCommand_248 : decode cX4_scriptCommand 248 = .ok (.if_icmp .eq 7, 3) := by decide +kernel
theorem dX4_scriptCommand_251 : decode cX4_scriptCommand 251 = .ok (.iconst 1, 1) := by decide +kernel
theorem dX4_scriptCommand_252 : decode cX4_scriptCommand 252 = .ok (.goto 4, 3) := by decide +kernel
theorem dX4_scriptCommand_255 : decode cX4_scriptCommand 255 = .ok (.iconst 0, 1) := by decide +kernel
theorem dX4_scriptCommand_256 : decode cX4_scriptCommand 256 = .ok (.ireturn, 1) := by decide +kernel
theorem dX4_scriptCommand_257 : decode cX4_scriptCommand 257 = .ok (.iload_n 3, 1) := by decide +kernel
theorem dX4_scriptCommand_258 : decode cX4_scriptCommand 258 = .ok (.ifCond .ne 59, 3) := by decide +kernel
theorem dX4_scriptCommand_261 : decode cX4_scriptCommand 261 = .ok (.iload 5, 2) := by decide +kernel
theorem dX4_scriptCommand_263 : decode cX4_scriptCommand 263 = .ok (.iconst 1, 1) := by decide +kernel
theorem dX4_scriptCommand_264 : decode cX4_scriptCommand 264 = .ok (.if_icmp .gt 53, 3) := by decide +kernel
theorem dX4_scriptCommand_267 : decode cX4_scriptCommand 267 = .ok (.iload 7, 2) := by decide +kernel
theorem dX4_scriptCommand_269 : decode cX4_scriptCommand 269 = .ok (.bipush 30, 2) := by decide +kernel
theorem dX4_scriptCommand_271 : decode cX4_scriptCommand 271 = .ok (.if_icmp .ge 46, 3) := by decide +kernel
theorem dX4_scriptCommand_274 : decode cX4_scriptCommand 274 = .ok (.aload_n 0, 1) := by decide +kernel
theorem dX4_scriptCommand_275 : decode cX4_scriptCommand 275 = .ok (.getfield 23, 3) := by decide +kernel
theorem dX4_scriptCommand_278 : decode cX4_scriptCommand 278 = .ok (.iload_n 2, 1) := by decide +kernel
theorem dX4_scriptCommand_279 : decode cX4_scriptCommand 279 = .ok (.invokevirtual 248, 3) := by decide +kernel
theorem dX4_scriptCommand_282 : decode cX4_scriptCommand 282 = .ok (.ifCond .eq 35, 3) := by decide +kernel
theorem dX4_scriptCommand_285 : decode cX4_scriptCommand 285 = .ok (.aload_n 0, 1) := by decide +kernel
theorem dX4_scriptCommand_286 : decode cX4_scriptCommand 286 = .ok (.getfield 23, 3) := by decide +kernel
theorem dX4_scriptCommand_289 : decode cX4_scriptCommand 289 = .ok (.getfield 109, 3) := by decide +kernel
theorem dX4_scriptCommand_292 : decode cX4_scriptCommand 292 = .ok (.iload_n 2, 1) := by decide +kernel
theorem dX4_scriptCommand_293 : decode cX4_scriptCommand 293 = .ok (.aaload, 1) := by decide +kernel
theorem dX4_scriptCommand_294 : decode cX4_scriptCommand 294 = .ok (.iload 7, 2) := by decide +kernel
theorem dX4_scriptCommand_296 : decode cX4_scriptCommand 296 = .ok (.invokevirtual 181, 3) := by decide +kernel
theorem dX4_scriptCommand_299 : decode cX4_scriptCommand 299 = .ok (.iload 5, 2) := by decide +kernel
theorem dX4_scriptCommand_301 : decode cX4_scriptCommand 301 = .ok (.iconst 1, 1) := by decide +kernel
theorem dX4_scriptCommand_302 : decode cX4_scriptCommand 302 = .ok (.if_icmp .ne 7, 3) := by decide +kernel
theorem dX4_scriptCommand_305 : decode cX4_scriptCommand 305 = .ok (.iconst 1, 1) := by decide +kernel
theorem dX4_scriptCommand_306 : decode cX4_scriptCommand 306 = .ok (.goto 4, 3) := by decide +kernel
theorem dX4_scriptCommand_309 : decode cX4_scriptCommand 309 = .ok (.iconst 0, 1) := by decide +kernel
theorem dX4_scriptCommand_310 : decode cX4_scriptCommand 310 = .ok (.if_icmp .ne 7, 3) := by decide +kernel
theorem dX4_scriptCommand_313 : decode cX4_scriptCommand 313 = .ok (.iconst 1, 1) := by decide +kernel
theorem dX4_scriptCommand_314 : decode cX4_scriptCommand 314 = .ok (.goto 4, 3) := by decide +kernel
theorem dX4_scriptCommand_317 : decode cX4_scriptCommand 317 = .ok (.iconst 0, 1) := by decide +kernel
theorem dX4_scriptCommand_318 : decode cX4_scriptCommand 318 = .ok (.ireturn, 1) := by decide +kernel
theorem dX4_scriptCommand_319 : decode cX4_scriptCommand 319 = .ok (.iload_n 3, 1) := by decide +kernel
theorem dX4_scriptCommand_320 : decode cX4_scriptCommand 320 = .ok (.ifCond .ne 44, 3) := by decide +kernel
theorem dX4_scriptCommand_323 : decode cX4_scriptCommand 323 = .ok (.iload 4, 2) := by decide +kernel
theorem dX4_scriptCommand_325 : decode cX4_scriptCommand 325 = .ok (.ifCond .ne 39, 3) := by decide +kernel
theorem dX4_scriptCommand_328 : decode cX4_scriptCommand 328 = .ok (.aload_n 0, 1) := by decide +kernel
theorem dX4_scriptCommand_329 : decode cX4_scriptCommand 329 = .ok (.getfield 23, 3) := by decide +kernel
theorem dX4_scriptCommand_332 : decode cX4_scriptCommand 332 = .ok (.iload_n 2, 1) := by decide +kernel
theorem dX4_scriptCommand_333 : decode cX4_scriptCommand 333 = .ok (.invokevirtual 248, 3) := by decide +kernel
theorem dX4_scriptCommand_336 : decode cX4_scriptCommand 336 = .ok (.ifCond .eq 28, 3) := by decide +kernel
theorem dX4_scriptCommand_339 : decode cX4_scriptCommand 339 = .ok (.aload_n 0, 1) := by decide +kernel
theorem dX4_scriptCommand_340 : decode cX4_scriptCommand 340 = .ok (.getfield 23, 3) := by decide +kernel
theorem dX4_scriptCommand_343 : decode cX4_scriptCommand 343 = .ok (.getfield 109, 3) := by decide +kernel
theorem dX4_scriptCommand_346 : decode cX4_scriptCommand 346 = .ok (.iload_n 2, 1) := by decide +kernel
theorem dX4_scriptCommand_347 : decode cX4_scriptCommand 347 = .ok (.aaload, 1) := by decide +kernel
theorem dX4_scriptCommand_348 : decode cX4_scriptCommand 348 = .ok (.bipush 30, 2) := by decide +kernel
theorem dX4_scriptCommand_350 : decode cX4_scriptCommand 350 = .ok (.invokevirtual 188, 3) := by decide +kernel
theorem dX4_scriptCommand_353 : decode cX4_scriptCommand 353 = .ok (.iload_n 1, 1) := by decide +kernel
theorem dX4_scriptCommand_354 : decode cX4_scriptCommand 354 = .ok (.bipush 100, 2) := by decide +kernel
theorem dX4_scriptCommand_356 : decode cX4_scriptCommand 356 = .ok (.irem, 1) := by decide +kernel
theorem dX4_scriptCommand_357 : decode cX4_scriptCommand 357 = .ok (.if_icmp .lt 7, 3) := by decide +kernel
theorem dX4_scriptCommand_360 : decode cX4_scriptCommand 360 = .ok (.iconst 1, 1) := by decide +kernel
theorem dX4_scriptCommand_361 : decode cX4_scriptCommand 361 = .ok (.goto 4, 3) := by decide +kernel
theorem dX4_scriptCommand_364 : decode cX4_scriptCommand 364 = .ok (.iconst 0, 1) := by decide +kernel
theorem dX4_scriptCommand_365 : decode cX4_scriptCommand 365 = .ok (.ireturn, 1) := by decide +kernel
theorem dX4_scriptCommand_366 : decode cX4_scriptCommand 366 = .ok (.iload_n 3, 1) := by decide +kernel
theorem dX4_scriptCommand_367 : decode cX4_scriptCommand 367 = .ok (.ifCond .ne 42, 3) := by decide +kernel
theorem dX4_scriptCommand_370 : decode cX4_scriptCommand 370 = .ok (.iload 7, 2) := by decide +kernel
theorem dX4_scriptCommand_372 : decode cX4_scriptCommand 372 = .ok (.ifCond .ne 37, 3) := by decide +kernel
theorem dX4_scriptCommand_375 : decode cX4_scriptCommand 375 = .ok (.aload_n 0, 1) := by decide +kernel
theorem dX4_scriptCommand_376 : decode cX4_scriptCommand 376 = .ok (.getfield 23, 3) := by decide +kernel
theorem dX4_scriptCommand_379 : decode cX4_scriptCommand 379 = .ok (.iload_n 2, 1) := by decide +kernel
theorem dX4_scriptCommand_380 : decode cX4_scriptCommand 380 = .ok (.invokevirtual 248, 3) := by decide +kernel
theorem dX4_scriptCommand_383 : decode cX4_scriptCommand 383 = .ok (.ifCond .eq 26, 3) := by decide +kernel
theorem dX4_scriptCommand_386 : decode cX4_scriptCommand 386 = .ok (.aload_n 0, 1) := by decide +kernel
theorem dX4_scriptCommand_387 : decode cX4_scriptCommand 387 = .ok (.getfield 23, 3) := by decide +kernel
theorem dX4_scriptCommand_390 : decode cX4_scriptCommand 390 = .ok (.getfield 109, 3) := by decide +kernel
theorem dX4_scriptCommand_393 : decode cX4_scriptCommand 393 = .ok (.iload_n 2, 1) := by decide +kernel
