theorem dX4_scriptCommand_394 : decode cX4_scriptCommand 394 = .ok (.aaload, 1) := by decide +kernel
theorem dX4_scriptCommand_395 : decode cX4_scriptCommand 395 = .ok (.bipush 30, 2) := by decide +kernel
theorem dX4_scriptCommand_397 : decode cX4_scriptCommand 397 = .ok (.invokevirtual 149, 3) := by decide +kernel
theorem dX4_scriptCommand_400 : decode cX4_scriptCommand 400 = .ok (.iload 5, 2) := by decide +kernel
theorem dX4_scriptCommand_402 : decode cX4_scriptCommand 402 = .ok (.if_icmp .ne 7, 3) := by decide +kernel
theorem dX4_scriptCommand_405 : decode cX4_scriptCommand 405 = .ok (.iconst 1, 1) := by decide +kernel
theorem dX4_scriptCommand_406 : decode cX4_scriptCommand 406 = .ok (.goto 4, 3) := by decide +kernel
theorem dX4_scriptCommand_409 : decode cX4_scriptCommand 409 = .ok (.iconst 0, 1) := by decide +kernel
theorem dX4_scriptCommand_410 : decode cX4_scriptCommand 410 = .ok (.ireturn, 1) := by decide +kernel
theorem dX4_scriptCommand_411 : decode cX4_scriptCommand 411 = .ok (.iload_n 3, 1) := by decide +kernel
theorem dX4_scriptCommand_412 : decode cX4_scriptCommand 412 = .ok (.ifCond .ne 35, 3) := by decide +kernel
theorem dX4_scriptCommand_415 : decode cX4_scriptCommand 415 = .ok (.aload_n 0, 1) := by decide +kernel
theorem dX4_scriptCommand_416 : decode cX4_scriptCommand 416 = .ok (.getfield 23, 3) := by decide +kernel
theorem dX4_scriptCommand_419 : decode cX4_scriptCommand 419 = .ok (.iload_n 2, 1) := by decide +kernel
theorem dX4_scriptCommand_420 : decode cX4_scriptCommand 420 = .ok (.invokevirtual 253, 3) := by decide +kernel
theorem dX4_scriptCommand_423 : decode cX4_scriptCommand 423 = .ok (.ifCond .eq 24, 3) := by decide +kernel
theorem dX4_scriptCommand_426 : decode cX4_scriptCommand 426 = .ok (.aload_n 0, 1) := by decide +kernel
theorem dX4_scriptCommand_427 : decode cX4_scriptCommand 427 = .ok (.getfield 23, 3) := by decide +kernel
theorem dX4_scriptCommand_430 : decode cX4_scriptCommand 430 = .ok (.getfield 194, 3) := by decide +kernel
theorem dX4_scriptCommand_433 : decode cX4_scriptCommand 433 = .ok (.iload_n 2, 1) := by decide +kernel
theorem dX4_scriptCommand_434 : decode cX4_scriptCommand 434 = .ok (.iaload, 1) := by decide +kernel
theorem dX4_scriptCommand_435 : decode cX4_scriptCommand 435 = .ok (.iload_n 1, 1) := by decide +kernel
theorem dX4_scriptCommand_436 : decode cX4_scriptCommand 436 = .ok (.sipush 1000, 3) := by decide +kernel
theorem dX4_scriptCommand_439 : decode cX4_scriptCommand 439 = .ok (.irem, 1) := by decide +kernel
theorem dX4_scriptCommand_440 : decode cX4_scriptCommand 440 = .ok (.if_icmp .lt 7, 3) := by decide +kernel
theorem dX4_scriptCommand_443 : decode cX4_scriptCommand 443 = .ok (.iconst 1, 1) := by decide +kernel
theorem dX4_scriptCommand_444 : decode cX4_scriptCommand 444 = .ok (.goto 4, 3) := by decide +kernel
theorem dX4_scriptCommand_447 : decode cX4_scriptCommand 447 = .ok (.iconst 0, 1) := by decide +kernel
theorem dX4_scriptCommand_448 : decode cX4_scriptCommand 448 = .ok (.ireturn, 1) := by decide +kernel
theorem dX4_scriptCommand_449 : decode cX4_scriptCommand 449 = .ok (.iconst 0, 1) := by decide +kernel
theorem dX4_scriptCommand_450 : decode cX4_scriptCommand 450 = .ok (.ireturn, 1) := by decide +kernel
set_option maxRecDepth 20000 in
theorem ggX4_simulatedTurn_X0_perform : GoodIn wsX4_simulatedTurn wsX0_perform := goodIn_r _ [6, 7, 8, 9, 10, 5, 11, 12, 13, 14, 15, 16, 17, 18, 19, 20, 21, 22, 23, 24, 25, 26, 27, 28, 29, 30, 31, 32, 33, 34, 35, 36, 37, 38, 39, 40, 41, 42, 43, 44, 45, 46, 47, 48, 49, 50, 51, 52, 53, 54, 55, 56, 57, 58, 59, 60, 61, 62, 63, 64, 65, 66, 67, 68, 69, 70, 71, 72, 73, 74, 75, 76, 77, 78, 79, 80, 81, 82, 83, 84, 85, 86, 87, 88, 89, 90, 91, 92, 93, 94, 95, 96, 97, 98, 99, 100, 101, 102, 103, 104, 105, 106, 107, 108, 109, 110, 111, 112, 113, 114, 115, 116, 117, 118, 119, 120, 121, 122, 123, 124, 125, 126, 127, 128, 129, 130, 131, 132, 133, 134, 135, 136, 137, 138, 146, 147, 148, 149, 150, 151, 152, 153, 154, 155, 156, 157, 158, 159, 160, 161, 162, 163, 164, 165, 166] (by decide +kernel) (by decide +kernel)
set_option maxRecDepth 20000 in
theorem gX4_simulatedTurn_X0_perform : GoodIn wsX4_simulatedTurn (wsV RX4 98 RX0 yX0_perform wsX0_perform) := goodIn_app (goodIn_of _ (by decide +kernel)) ggX4_simulatedTurn_X0_perform
theorem dX4_simulatedTurn_0 : decode cX4_simulatedTurn 0 = .ok (.iload_n 1, 1) := by decide +kernel
theorem dX4_simulatedTurn_1 : decode cX4_simulatedTurn 1 = .ok (.bipush 16, 2) := by decide +kernel
theorem dX4_simulatedTurn_3 : decode cX4_simulatedTurn 3 = .ok (.idiv, 1) := by decide +kernel
theorem dX4_simulatedTurn_4 : decode cX4_simulatedTurn 4 = .ok (.istore_n 2, 1) := by decide +kernel
theorem dX4_simulatedTurn_5 : decode cX4_simulatedTurn 5 = .ok (.iload_n 1, 1) := by decide +kernel
theorem dX4_simulatedTurn_6 : decode cX4_simulatedTurn 6 = .ok (.bipush 16, 2) := by decide +kernel
theorem dX4_simulatedTurn_8 : decode cX4_simulatedTurn 8 = .ok (.irem, 1) := by decide +kernel
theorem dX4_simulatedTurn_9 : decode cX4_simulatedTurn 9 = .ok (.tableswitch 241 0 11 #[63, 79, 104, 127, 150, 168, 191, 207, 207, 207, 207, 207], 63) := by decide +kernel
theorem dX4_simulatedTurn_72 : decode cX4_simulatedTurn 72 = .ok (.aload_n 0, 1) := by decide +kernel
theorem dX4_simulatedTurn_73 : decode cX4_simulatedTurn 73 = .ok (.getfield 23, 3) := by decide +kernel
theorem dX4_simulatedTurn_76 : decode cX4_simulatedTurn 76 = .ok (.bipush 115, 2) := by decide +kernel
theorem dX4_simulatedTurn_78 : decode cX4_simulatedTurn 78 = .ok (.iconst 0, 1) := by decide +kernel
theorem dX4_simulatedTurn_79 : decode cX4_simulatedTurn 79 = .ok (.iconst 0, 1) := by decide +kernel
theorem dX4_simulatedTurn_80 : decode cX4_simulatedTurn 80 = .ok (.iconst 0, 1) := by decide +kernel
theorem dX4_simulatedTurn_81 : decode cX4_simulatedTurn 81 = .ok (.invokevirtual 98, 3) := by decide +kernel
theorem dX4_simulatedTurn_84 : decode cX4_simulatedTurn 84 = .ok (.pop, 1) := by decide +kernel
theorem dX4_simulatedTurn_85 : decode cX4_simulatedTurn 85 = .ok (.goto 188, 3) := by decide +kernel
theorem dX4_simulatedTurn_88 : decode cX4_simulatedTurn 88 = .ok (.aload_n 0, 1) := by decide +kernel
theorem dX4_simulatedTurn_89 : decode cX4_simulatedTurn 89 = .ok (.getfield 23, 3) := by decide +kernel
theorem dX4_simulatedTurn_92 : decode cX4_simulatedTurn 92 = .ok (.bipush 116, 2) := by decide +kernel
theorem dX4_simulatedTurn_94 : decode cX4_simulatedTurn 94 = .ok (.iload_n 2, 1) := by decide +kernel
theorem dX4_simulatedTurn_95 : decode cX4_simulatedTurn 95 = .ok (.iconst 4, 1) := by decide +kernel
theorem dX4_simulatedTurn_96 : decode cX4_simulatedTurn 96 = .ok (.irem, 1) := by decide +kernel
theorem dX4_simulatedTurn_97 : decode cX4_simulatedTurn 97 = .ok (.iconst 1, 1) := by decide +kernel
theorem dX4_simulatedTurn_98 : decode cX4_simulatedTurn 98 = .ok (.iload_n 2, 1) := by decide +kernel
theorem dX4_simulatedTurn_99 : decode cX4_simulatedTurn 99 = .ok (.iconst 4, 1) := by decide +kernel
theorem dX4_simulatedTurn_100 : decode cX4_simulatedTurn 100 = .ok (.idiv, 1) := by decide +kernel
theorem dX4_simulatedTurn_101 : decode cX4_simulatedTurn 101 = .ok (.bipush 30, 2) := by decide +kernel
theorem dX4_simulatedTurn_103 : decode cX4_simulatedTurn 103 = .ok (.irem, 1) := by decide +kernel
theorem dX4_simulatedTurn_104 : decode cX4_simulatedTurn 104 = .ok (.iadd, 1) := by decide +kernel
theorem dX4_simulatedTurn_105 : decode cX4_simulatedTurn 105 = .ok (.iconst 0, 1) := by decide +kernel
theorem dX4_simulatedTurn_106 : decode cX4_simulatedTurn 106 = .ok (.invokevirtual 98, 3) := by decide +kernel
theorem dX4_simulatedTurn_109 : decode cX4_simulatedTurn 109 = .ok (.pop, 1) := by decide +kernel
theorem dX4_simulatedTurn_110 : decode cX4_simulatedTurn 110 = .ok (.goto 163, 3) := by decide +kernel
theorem dX4_simulatedTurn_113 : decode cX4_simulatedTurn 113 = .ok (.aload_n 0, 1) := by decide +kernel
theorem dX4_simulatedTurn_114 : decode cX4_simulatedTurn 114 = .ok (.getfield 23, 3) := by decide +kernel
theorem dX4_simulatedTurn_117 : decode cX4_simulatedTurn 117 = .ok (.bipush 112, 2) := by decide +kernel
theorem dX4_simulatedTurn_119 : decode cX4_simulatedTurn 119 = .ok (.iload_n 2, 1) := by decide +kernel
theorem dX4_simulatedTurn_120 : decode cX4_simulatedTurn 120 = .ok (.iconst 4, 1) := by decide +kernel
theorem dX4_simulatedTurn_121 : decode cX4_simulatedTurn 121 = .ok (.irem, 1) := by decide +kernel
theorem dX4_simulatedTurn_122 : decode cX4_simulatedTurn 122 = .ok (.iload_n 2, 1) := by decide +kernel
theorem dX4_simulatedTurn_123 : decode cX4_simulatedTurn 123 = .ok (.iconst 4, 1) := by decide +kernel
theorem dX4_simulatedTurn_124 : decode cX4_simulatedTurn 124 = .ok (.idiv, 1) := by decide +kernel
theorem dX4_simulatedTurn_125 : decode cX4_simulatedTurn 125 = .ok (.bipush 30, 2) := by decide +kernel
theorem dX4_simulatedTurn_127 : decode cX4_simulatedTurn 127 = .ok (.irem, 1) := by decide +kernel
theorem dX4_simulatedTurn_128 : decode cX4_simulatedTurn 128 = .ok (.iconst 0, 1) := by decide +kernel
theorem dX4_simulatedTurn_129 : decode cX4_simulatedTurn 129 = .ok (.invokevirtual 98, 3) := by decide +kernel
theorem dX4_simulatedTurn_132 : decode cX4_simulatedTurn 132 = .ok (.pop, 1) := by decide +kernel
theorem dX4_simulatedTurn_133 : decode cX4_simulatedTurn 133 = .ok (.goto 140, 3) := by decide +kernel
theorem dX4_simulatedTurn_136 : decode cX4_simulatedTurn 136 = .ok (.aload_n 0, 1) := by decide +kernel
theorem dX4_simulatedTurn_137 : decode cX4_simulatedTurn 137 = .ok (.getfield 23, 3) := by decide +kernel
theorem dX4_simulatedTurn_140 : decode cX4_simulatedTurn 140 = .ok (.bipush 102, 2) := by decide +kernel
theorem dX4_simulatedTurn_142 : decode cX4_simulatedTurn 142 = .ok (.iload_n 2, 1) := by decide +kernel
theorem dX4_simulatedTurn_143 : decode cX4_simulatedTurn 143 = .ok (.iconst 4, 1) := by decide +kernel
theorem dX4_simulatedTurn_144 : decode cX4_simulatedTurn 144 = .ok (.irem, 1) := by decide +kernel
theorem dX4_simulatedTurn_145 : decode cX4_simulatedTurn 145 = .ok (.iload_n 2, 1) := by decide +kernel
theorem dX4_simulatedTurn_146 : decode cX4_simulatedTurn 146 = .ok (.iconst 4, 1) := by decide +kernel
theorem dX4_simulatedTurn_147 : decode cX4_simulatedTurn 147 = .ok (.idiv, 1) := by decide +kernel
theorem dX4_simulatedTurn_148 : decode cX4_simulatedTurn 148 = .ok (.bipush 21, 2) := by decide +kernel
theorem dX4_simulatedTurn_150 : decode cX4_simulatedTurn 150 = .ok (.irem, 1) := by decide +kernel
theorem dX4_simulatedTurn_151 : decode cX4_simulatedTurn 151 = .ok (.iconst 0, 1) := by decide +kernel
theorem dX4_simulatedTurn_152 : decode cX4_simulatedTurn 152 = .ok (.invokevirtual 98, 3) := by decide +kernel
theorem dX4_simulatedTurn_155 : decode cX4_simulatedTurn 155 = .ok (.pop, 1) := by decide +kernel
theorem dX4_simulatedTurn_156 : decode cX4_simulatedTurn 156 = .ok (.goto 117, 3) := by decide +kernel
theorem dX4_simulatedTurn_159 : decode cX4_simulatedTurn 159 = .ok (.aload_n 0, 1) := by decide +kernel
theorem dX4_simulatedTurn_160 : decode cX4_simulatedTurn 160 = .ok (.getfield 23, 3) := by decide +kernel
theorem dX4_simulatedTurn_163 : decode cX4_simulatedTurn 163 = .ok (.bipush 120, 2) := by decide +kernel
theorem dX4_simulatedTurn_165 : decode cX4_simulatedTurn 165 = .ok (.iload_n 2, 1) := by decide +kernel
theorem dX4_simulatedTurn_166 : decode cX4_simulatedTurn 166 = .ok (.iconst 4, 1) := by decide +kernel
theorem dX4_simulatedTurn_167 : decode cX4_simulatedTurn 167 = .ok (.irem, 1) := by decide +kernel
theorem dX4_simulatedTurn_168 : decode cX4_simulatedTurn 168 = .ok (.iconst 0, 1) := by decide +kernel
theorem dX4_simulatedTurn_169 : decode cX4_simulatedTurn 169 = .ok (.iconst 0, 1) := by decide +kernel
theorem dX4_simulatedTurn_170 : decode cX4_simulatedTurn 170 = .ok (.invokevirtual 98, 3) := by decide +kernel
theorem dX4_simulatedTurn_173 : decode cX4_simulatedTurn 173 = .ok (.pop, 1) := by decide +kernel
theorem dX4_simulatedTurn_174 : decode cX4_simulatedTurn 174 = .ok (.goto 99, 3) := by decide +kernel
theorem dX4_simulatedTurn_177 : decode cX4_simulatedTurn 177 = .ok (.aload_n 0, 1) := by decide +kernel
theorem dX4_simulatedTurn_178 : decode cX4_simulatedTurn 178 = .ok (.getfield 23, 3) := by decide +kernel
theorem dX4_simulatedTurn_181 : decode cX4_simulatedTurn 181 = .ok (.bipush 101, 2) := by decide +kernel
theorem dX4_simulatedTurn_183 : decode cX4_simulatedTurn 183 = .ok (.iload_n 2, 1) := by decide +kernel
theorem dX4_simulatedTurn_184 : decode cX4_simulatedTurn 184 = .ok (.iconst 3, 1) := by decide +kernel
theorem dX4_simulatedTurn_185 : decode cX4_simulatedTurn 185 = .ok (.irem, 1) := by decide +kernel
theorem dX4_simulatedTurn_186 : decode cX4_simulatedTurn 186 = .ok (.iload_n 2, 1) := by decide +kernel
theorem dX4_simulatedTurn_187 : decode cX4_simulatedTurn 187 = .ok (.iconst 4, 1) := by decide +kernel
theorem dX4_simulatedTurn_188 : decode cX4_simulatedTurn 188 = .ok (.idiv, 1) := by decide +kernel
theorem dX4_simulatedTurn_189 : decode cX4_simulatedTurn 189 = .ok (.bipush 31, 2) := by decide +kernel
theorem dX4_simulatedTurn_191 : decode cX4_simulatedTurn 191 = .ok (.irem, 1) := by decide +kernel
theorem dX4_simulatedTurn_192 : decode cX4_simulatedTurn 192 = .ok (.iconst 0, 1) := by decide +kernel
theorem dX4_simulatedTurn_193 : decode cX4_simulatedTurn 193 = .ok (.invokevirtual 98, 3) := by decide +kernel
theorem dX4_simulatedTurn_196 : decode cX4_simulatedTurn 196 = .ok (.pop, 1) := by decide +kernel
theorem dX4_simulatedTurn_197 : decode cX4_simulatedTurn 197 = .ok (.goto 76, 3) := by decide +kernel
theorem dX4_simulatedTurn_200 : decode cX4_simulatedTurn 200 = .ok (.aload_n 0, 1) := by decide +kernel
theorem dX4_simulatedTurn_201 : decode cX4_simulatedTurn 201 = .ok (.getfield 23, 3) := by decide +kernel
theorem dX4_simulatedTurn_204 : decode cX4_simulatedTurn 204 = .ok (.bipush 119, 2) := by decide +kernel
theorem dX4_simulatedTurn_206 : decode cX4_simulatedTurn 206 = .ok (.iconst 0, 1) := by decide +kernel
theorem dX4_simulatedTurn_207 : decode cX4_simulatedTurn 207 = .ok (.iconst 0, 1) := by decide +kernel
theorem dX4_simulatedTurn_208 : decode cX4_simulatedTurn 208 = .ok (.iconst 0, 1) := by decide +kernel
theorem dX4_simulatedTurn_209 : decode cX4_simulatedTurn 209 = .ok (.invokevirtual 98, 3) := by decide +kernel
theorem dX4_simulatedTurn_212 : decode cX4_simulatedTurn 212 = .ok (.pop, 1) := by decide +kernel
theorem dX4_simulatedTurn_213 : decode cX4_simulatedTurn 213 = .ok (.goto 60, 3) := by decide +kernel
theorem dX4_simulatedTurn_216 : decode cX4_simulatedTurn 216 = .ok (.aload_n 0, 1) := by decide +kernel
theorem dX4_simulatedTurn_217 : decode cX4_simulatedTurn 217 = .ok (.getfield 23, 3) := by decide +kernel
theorem dX4_simulatedTurn_220 : decode cX4_simulatedTurn 220 = .ok (.bipush 100, 2) := by decide +kernel
theorem dX4_simulatedTurn_222 : decode cX4_simulatedTurn 222 = .ok (.iload_n 2, 1) := by decide +kernel
theorem dX4_simulatedTurn_223 : decode cX4_simulatedTurn 223 = .ok (.bipush 31, 2) := by decide +kernel
theorem dX4_simulatedTurn_225 : decode cX4_simulatedTurn 225 = .ok (.irem, 1) := by decide +kernel
theorem dX4_simulatedTurn_226 : decode cX4_simulatedTurn 226 = .ok (.ineg, 1) := by decide +kernel
theorem dX4_simulatedTurn_227 : decode cX4_simulatedTurn 227 = .ok (.iload_n 2, 1) := by decide +kernel
theorem dX4_simulatedTurn_228 : decode cX4_simulatedTurn 228 = .ok (.bipush 32, 2) := by decide +kernel
theorem dX4_simulatedTurn_230 : decode cX4_simulatedTurn 230 = .ok (.idiv, 1) := by decide +kernel
theorem dX4_simulatedTurn_231 : decode cX4_simulatedTurn 231 = .ok (.iconst 4, 1) := by decide +kernel
theorem dX4_simulatedTurn_232 : decode cX4_simulatedTurn 232 = .ok (.irem, 1) := by decide +kernel
theorem dX4_simulatedTurn_233 : decode cX4_simulatedTurn 233 = .ok (.iconst 1, 1) := by decide +kernel
theorem dX4_simulatedTurn_234 : decode cX4_simulatedTurn 234 = .ok (.iload_n 2, 1) := by decide +kernel
theorem dX4_simulatedTurn_235 : decode cX4_simulatedTurn 235 = .ok (.sipush 128, 3) := by decide +kernel
theorem dX4_simulatedTurn_238 : decode cX4_simulatedTurn 238 = .ok (.idiv, 1) := by decide +kernel
theorem dX4_simulatedTurn_239 : decode cX4_simulatedTurn 239 = .ok (.bipush 6, 2) := by decide +kernel
theorem dX4_simulatedTurn_241 : decode cX4_simulatedTurn 241 = .ok (.irem, 1) := by decide +kernel
theorem dX4_simulatedTurn_242 : decode cX4_simulatedTurn 242 = .ok (.iadd, 1) := by decide +kernel
theorem dX4_simulatedTurn_243 : decode cX4_simulatedTurn 243 = .ok (.invokevirtual 98, 3) := by decide +kernel
theorem dX4_simulatedTurn_246 : decode cX4_simulatedTurn 246 = .ok (.pop, 1) := by decide +kernel
theorem dX4_simulatedTurn_247 : decode cX4_simulatedTurn 247 = .ok (.goto 26, 3) := by decide +kernel
theorem dX4_simulatedTurn_250 : decode cX4_simulatedTurn 250 = .ok (.aload_n 0, 1) := by decide +kernel
theorem dX4_simulatedTurn_251 : decode cX4_simulatedTurn 251 = .ok (.getfield 23, 3) := by decide +kernel
theorem dX4_simulatedTurn_254 : decode cX4_simulatedTurn 254 = .ok (.bipush 100, 2) := by decide +kernel
theorem dX4_simulatedTurn_256 : decode cX4_simulatedTurn 256 = .ok (.iload_n 2, 1) := by decide +kernel
theorem dX4_simulatedTurn_257 : decode cX4_simulatedTurn 257 = .ok (.bipush 16, 2) := by decide +kernel
theorem dX4_simulatedTurn_259 : decode cX4_simulatedTurn 259 = .ok (.irem, 1) := by decide +kernel
theorem dX4_simulatedTurn_260 : decode cX4_simulatedTurn 260 = .ok (.iconst 0, 1) := by decide +kernel
theorem dX4_simulatedTurn_261 : decode cX4_simulatedTurn 261 = .ok (.iconst 1, 1) := by decide +kernel
theorem dX4_simulatedTurn_262 : decode cX4_simulatedTurn 262 = .ok (.iload_n 2, 1) := by decide +kernel
theorem dX4_simulatedTurn_263 : decode cX4_simulatedTurn 263 = .ok (.bipush 16, 2) := by decide +kernel
theorem dX4_simulatedTurn_265 : decode cX4_simulatedTurn 265 = .ok (.idiv, 1) := by decide +kernel
theorem dX4_simulatedTurn_266 : decode cX4_simulatedTurn 266 = .ok (.iconst 4, 1) := by decide +kernel
theorem dX4_simulatedTurn_267 : decode cX4_simulatedTurn 267 = .ok (.irem, 1) := by decide +kernel
theorem dX4_simulatedTurn_268 : decode cX4_simulatedTurn 268 = .ok (.iadd, 1) := by decide +kernel
theorem dX4_simulatedTurn_269 : decode cX4_simulatedTurn 269 = .ok (.invokevirtual 98, 3) := by decide +kernel
theorem dX4_simulatedTurn_272 : decode cX4_simulatedTurn 272 = .ok (.pop, 1) := by decide +kernel
theorem dX4_simulatedTurn_273 : decode cX4_simulatedTurn 273 = .ok (.return_, 1) := by decide +kernel
theorem dJ9_max_7cf53_0 : decode cJ9_max_7cf53 0 = .ok (.iload_n 0, 1) := by decide +kernel
theorem dJ9_max_7cf53_1 : decode cJ9_max_7cf53 1 = .ok (.iload_n 1, 1) := by decide +kernel
theorem dJ9_max_7cf53_2 : decode cJ9_max_7cf53 2 = .ok (.if_icmp .lt 7, 3) := by decide +kernel
theorem dJ9_max_7cf53_5 : decode cJ9_max_7cf53 5 = .ok (.iload_n 0, 1) := by decide +kernel
theorem dJ9_max_7cf53_6 : decode cJ9_max_7cf53 6 = .ok (.goto 4, 3) := by decide +kernel
theorem dJ9_max_7cf53_9 : decode cJ9_max_7cf53 9 = .ok (.iload_n 1, 1) := by decide +kernel
theorem dJ9_max_7cf53_10 : decode cJ9_max_7cf53 10 = .ok (.ireturn, 1) := by decide +kernel
theorem dJ9_min_7cf53_0 : decode cJ9_min_7cf53 0 = .ok (.iload_n 0, 1) := by decide +kernel
theorem dJ9_min_7cf53_1 : decode cJ9_min_7cf53 1 = .ok (.iload_n 1, 1) := by decide +kernel
theorem dJ9_min_7cf53_2 : decode cJ9_min_7cf53 2 = .ok (.if_icmp .gt 7, 3) := by decide +kernel
theorem dJ9_min_7cf53_5 : decode cJ9_min_7cf53 5 = .ok (.iload_n 0, 1) := by decide +kernel
theorem dJ9_min_7cf53_6 : decode cJ9_min_7cf53 6 = .ok (.goto 4, 3) := by decide +kernel
theorem dJ9_min_7cf53_9 : decode cJ9_min_7cf53 9 = .ok (.iload_n 1, 1) := by decide +kernel
theorem dJ9_min_7cf53_10 : decode cJ9_min_7cf53 10 = .ok (.ireturn, 1) := by decide +kernel
theorem dJ7_fill_53178_0 : decode cJ7_fill_53178 0 = .ok (.iconst 0, 1) := by decide +kernel
theorem dJ7_fill_53178_1 : decode cJ7_fill_53178 1 = .ok (.istore_n 2, 1) := by decide +kernel
theorem dJ7_fill_53178_2 : decode cJ7_fill_53178 2 = .ok (.aload_n 0, 1) := by decide +kernel
theorem dJ7_fill_53178_3 : decode cJ7_fill_53178 3 = .ok (.arraylength, 1) := by decide +kernel
theorem dJ7_fill_53178_4 : decode cJ7_fill_53178 4 = .ok (.istore_n 3, 1) := by decide +kernel
theorem dJ7_fill_53178_5 : decode cJ7_fill_53178 5 = .ok (.iload_n 2, 1) := by decide +kernel
theorem dJ7_fill_53178_6 : decode cJ7_fill_53178 6 = .ok (.iload_n 3, 1) := by decide +kernel
theorem dJ7_fill_53178_7 : decode cJ7_fill_53178 7 = .ok (.if_icmp .ge 13, 3) := by decide +kernel
theorem dJ7_fill_53178_10 : decode cJ7_fill_53178 10 = .ok (.aload_n 0, 1) := by decide +kernel
theorem dJ7_fill_53178_11 : decode cJ7_fill_53178 11 = .ok (.iload_n 2, 1) := by decide +kernel
theorem dJ7_fill_53178_12 : decode cJ7_fill_53178 12 = .ok (.iload_n 1, 1) := by decide +kernel
theorem dJ7_fill_53178_13 : decode cJ7_fill_53178 13 = .ok (.iastore, 1) := by decide +kernel
theorem dJ7_fill_53178_14 : decode cJ7_fill_53178 14 = .ok (.iinc 2 1, 3) := by decide +kernel
theorem dJ7_fill_53178_17 : decode cJ7_fill_53178 17 = .ok (.goto (-12), 3) := by decide +kernel
theorem dJ7_fill_53178_20 : decode cJ7_fill_53178 20 = .ok (.return_, 1) := by decide +kernel
