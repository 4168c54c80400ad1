set_option maxRecDepth 20000 in
theorem ggX0_init_X2_init : GoodIn wsX0_init wsX2_init := goodIn_r _ [19, 20, 2, 3, 4, 21, 22, 23, 24, 25, 41, 42, 43, 44, 45, 46] (by decide +kernel) (by decide +kernel)
set_option maxRecDepth 20000 in
theorem gX0_init_X2_init : GoodIn wsX0_init (wsX2_init) := ggX0_init_X2_init
theorem dX0_init_0 : decode cX0_init 0 = .ok (.aload_n 0, 1) := by decide +kernel
theorem dX0_init_1 : decode cX0_init 1 = .ok (.invokespecial 5, 3) := by decide +kernel
theorem dX0_init_4 : decode cX0_init 4 = .ok (.aload_n 0, 1) := by decide +kernel
theorem dX0_init_5 : decode cX0_init 5 = .ok (.iconst 3, 1) := by decide +kernel
theorem dX0_init_6 : decode cX0_init 6 = .ok (.newarray .int, 2) := by decide +kernel
theorem dX0_init_8 : decode cX0_init 8 = .ok (.dup, 1) := by decide +kernel
theorem dX0_init_9 : decode cX0_init 9 = .ok (.iconst 0, 1) := by decide +kernel
theorem dX0_init_10 : decode cX0_init 10 = .ok (.iconst 5, 1) := by decide +kernel
theorem dX0_init_11 : decode cX0_init 11 = .ok (.iastore, 1) := by decide +kernel
theorem dX0_init_12 : decode cX0_init 12 = .ok (.dup, 1) := by decide +kernel
theorem dX0_init_13 : decode cX0_init 13 = .ok (.iconst 1, 1) := by decide +kernel
theorem dX0_init_14 : decode cX0_init 14 = .ok (.iconst 2, 1) := by decide +kernel
theorem dX0_init_15 : decode cX0_init 15 = .ok (.iastore, 1) := by decide +kernel
theorem dX0_init_16 : decode cX0_init 16 = .ok (.dup, 1) := by decide +kernel
theorem dX0_init_17 : decode cX0_init 17 = .ok (.iconst 2, 1) := by decide +kernel
theorem dX0_init_18 : decode cX0_init 18 = .ok (.bipush 10, 2) := by decide +kernel
theorem dX0_init_20 : decode cX0_init 20 = .ok (.iastore, 1) := by decide +kernel
theorem dX0_init_21 : decode cX0_init 21 = .ok (.putfield 11, 3) := by decide +kernel
theorem dX0_init_24 : decode cX0_init 24 = .ok (.aload_n 0, 1) := by decide +kernel
theorem dX0_init_25 : decode cX0_init 25 = .ok (.iconst 4, 1) := by decide +kernel
theorem dX0_init_26 : decode cX0_init 26 = .ok (.anewarray 15, 3) := by decide +kernel
theorem dX0_init_29 : decode cX0_init 29 = .ok (.putfield 17, 3) := by decide +kernel
theorem dX0_init_32 : decode cX0_init 32 = .ok (.aload_n 0, 1) := by decide +kernel
theorem dX0_init_33 : decode cX0_init 33 = .ok (.bipush 8, 2) := by decide +kernel
theorem dX0_init_35 : decode cX0_init 35 = .ok (.newarray .int, 2) := by decide +kernel
theorem dX0_init_37 : decode cX0_init 37 = .ok (.putfield 21, 3) := by decide +kernel
theorem dX0_init_40 : decode cX0_init 40 = .ok (.aload_n 0, 1) := by decide +kernel
theorem dX0_init_41 : decode cX0_init 41 = .ok (.bipush 8, 2) := by decide +kernel
theorem dX0_init_43 : decode cX0_init 43 = .ok (.newarray .int, 2) := by decide +kernel
theorem dX0_init_45 : decode cX0_init 45 = .ok (.putfield 24, 3) := by decide +kernel
theorem dX0_init_48 : decode cX0_init 48 = .ok (.aload_n 0, 1) := by decide +kernel
theorem dX0_init_49 : decode cX0_init 49 = .ok (.bipush 8, 2) := by decide +kernel
theorem dX0_init_51 : decode cX0_init 51 = .ok (.newarray .int, 2) := by decide +kernel
theorem dX0_init_53 : decode cX0_init 53 = .ok (.putfield 27, 3) := by decide +kernel
theorem dX0_init_56 : decode cX0_init 56 = .ok (.aload_n 0, 1) := by decide +kernel
theorem dX0_init_57 : decode cX0_init 57 = .ok (.bipush 8, 2) := by decide +kernel
theorem dX0_init_59 : decode cX0_init 59 = .ok (.newarray .int, 2) := by decide +kernel
theorem dX0_init_61 : decode cX0_init 61 = .ok (.putfield 30, 3) := by decide +kernel
theorem dX0_init_64 : decode cX0_init 64 = .ok (.aload_n 0, 1) := by decide +kernel
theorem dX0_init_65 : decode cX0_init 65 = .ok (.bipush 8, 2) := by decide +kernel
theorem dX0_init_67 : decode cX0_init 67 = .ok (.newarray .int, 2) := by decide +kernel
theorem dX0_init_69 : decode cX0_init 69 = .ok (.putfield 33, 3) := by decide +kernel
theorem dX0_init_72 : decode cX0_init 72 = .ok (.aload_n 0, 1) := by decide +kernel
theorem dX0_init_73 : decode cX0_init 73 = .ok (.bipush 8, 2) := by decide +kernel
theorem dX0_init_75 : decode cX0_init 75 = .ok (.newarray .int, 2) := by decide +kernel
theorem dX0_init_77 : decode cX0_init 77 = .ok (.putfield 36, 3) := by decide +kernel
theorem dX0_init_80 : decode cX0_init 80 = .ok (.aload_n 0, 1) := by decide +kernel
theorem dX0_init_81 : decode cX0_init 81 = .ok (.bipush 8, 2) := by decide +kernel
theorem dX0_init_83 : decode cX0_init 83 = .ok (.newarray .int, 2) := by decide +kernel
theorem dX0_init_85 : decode cX0_init 85 = .ok (.putfield 39, 3) := by decide +kernel
theorem dX0_init_88 : decode cX0_init 88 = .ok (.iconst 0, 1) := by decide +kernel
theorem dX0_init_89 : decode cX0_init 89 = .ok (.istore_n 1, 1) := by decide +kernel
theorem dX0_init_90 : decode cX0_init 90 = .ok (.iload_n 1, 1) := by decide +kernel
theorem dX0_init_91 : decode cX0_init 91 = .ok (.iconst 4, 1) := by decide +kernel
theorem dX0_init_92 : decode cX0_init 92 = .ok (.if_icmp .ge 22, 3) := by decide +kernel
theorem dX0_init_95 : decode cX0_init 95 = .ok (.aload_n 0, 1) := by decide +kernel
theorem dX0_init_96 : decode cX0_init 96 = .ok (.getfield 17, 3) := by decide +kernel
theorem dX0_init_99 : decode cX0_init 99 = .ok (.iload_n 1, 1) := by decide +kernel
theorem dX0_init_100 : decode cX0_init 100 = .ok (.new 15, 3) := by decide +kernel
theorem dX0_init_103 : decode cX0_init 103 = .ok (.dup, 1) := by decide +kernel
theorem dX0_init_104 : decode cX0_init 104 = .ok (.invokespecial 42, 3) := by decide +kernel
theorem dX0_init_107 : decode cX0_init 107 = .ok (.aastore, 1) := by decide +kernel
theorem dX0_init_108 : decode cX0_init 108 = .ok (.iinc 1 1, 3) := by decide +kernel
theorem dX0_init_111 : decode cX0_init 111 = .ok (.goto (-21), 3) := by decide +kernel
theorem dX0_init_114 : decode cX0_init 114 = .ok (.return_, 1) := by decide +kernel
set_option maxRecDepth 20000 in
theorem ggX0_copyFrom_X2_copyFrom : GoodIn wsX0_copyFrom wsX2_copyFrom := goodIn_r _ [24, 25, 26, 27, 28, 29, 30, 31, 9, 10, 11, 47, 48, 49, 50, 51, 52] (by decide +kernel) (by decide +kernel)
set_option maxRecDepth 20000 in
theorem gX0_copyFrom_X2_copyFrom : GoodIn wsX0_copyFrom (wsV RX0 68 RX2 yX2_copyFrom wsX2_copyFrom) := goodIn_app (goodIn_of _ (by decide +kernel)) ggX0_copyFrom_X2_copyFrom
theorem dX0_copyFrom_0 : decode cX0_copyFrom 0 = .ok (.aload_n 0, 1) := by decide +kernel
theorem dX0_copyFrom_1 : decode cX0_copyFrom 1 = .ok (.aload_n 1, 1) := by decide +kernel
theorem dX0_copyFrom_2 : decode cX0_copyFrom 2 = .ok (.getfield 43, 3) := by decide +kernel
theorem dX0_copyFrom_5 : decode cX0_copyFrom 5 = .ok (.putfield 43, 3) := by decide +kernel
theorem dX0_copyFrom_8 : decode cX0_copyFrom 8 = .ok (.aload_n 0, 1) := by decide +kernel
theorem dX0_copyFrom_9 : decode cX0_copyFrom 9 = .ok (.aload_n 1, 1) := by decide +kernel
theorem dX0_copyFrom_10 : decode cX0_copyFrom 10 = .ok (.getfield 47, 3) := by decide +kernel
theorem dX0_copyFrom_13 : decode cX0_copyFrom 13 = .ok (.putfield 47, 3) := by decide +kernel
theorem dX0_copyFrom_16 : decode cX0_copyFrom 16 = .ok (.aload_n 0, 1) := by decide +kernel
theorem dX0_copyFrom_17 : decode cX0_copyFrom 17 = .ok (.aload_n 1, 1) := by decide +kernel
theorem dX0_copyFrom_18 : decode cX0_copyFrom 18 = .ok (.getfield 50, 3) := by decide +kernel
theorem dX0_copyFrom_21 : decode cX0_copyFrom 21 = .ok (.putfield 50, 3) := by decide +kernel
theorem dX0_copyFrom_24 : decode cX0_copyFrom 24 = .ok (.aload_n 0, 1) := by decide +kernel
theorem dX0_copyFrom_25 : decode cX0_copyFrom 25 = .ok (.aload_n 1, 1) := by decide +kernel
theorem dX0_copyFrom_26 : decode cX0_copyFrom 26 = .ok (.getfield 53, 3) := by decide +kernel
theorem dX0_copyFrom_29 : decode cX0_copyFrom 29 = .ok (.putfield 53, 3) := by decide +kernel
theorem dX0_copyFrom_32 : decode cX0_copyFrom 32 = .ok (.aload_n 0, 1) := by decide +kernel
theorem dX0_copyFrom_33 : decode cX0_copyFrom 33 = .ok (.aload_n 1, 1) := by decide +kernel
theorem dX0_copyFrom_34 : decode cX0_copyFrom 34 = .ok (.getfield 56, 3) := by decide +kernel
theorem dX0_copyFrom_37 : decode cX0_copyFrom 37 = .ok (.putfield 56, 3) := by decide +kernel
theorem dX0_copyFrom_40 : decode cX0_copyFrom 40 = .ok (.aload_n 0, 1) := by decide +kernel
theorem dX0_copyFrom_41 : decode cX0_copyFrom 41 = .ok (.aload_n 1, 1) := by decide +kernel
theorem dX0_copyFrom_42 : decode cX0_copyFrom 42 = .ok (.getfield 59, 3) := by decide +kernel
theorem dX0_copyFrom_45 : decode cX0_copyFrom 45 = .ok (.putfield 59, 3) := by decide +kernel
theorem dX0_copyFrom_48 : decode cX0_copyFrom 48 = .ok (.aload_n 1, 1) := by decide +kernel
theorem dX0_copyFrom_49 : decode cX0_copyFrom 49 = .ok (.getfield 11, 3) := by decide +kernel
theorem dX0_copyFrom_52 : decode cX0_copyFrom 52 = .ok (.iconst 0, 1) := by decide +kernel
theorem dX0_copyFrom_53 : decode cX0_copyFrom 53 = .ok (.aload_n 0, 1) := by decide +kernel
theorem dX0_copyFrom_54 : decode cX0_copyFrom 54 = .ok (.getfield 11, 3) := by decide +kernel
theorem dX0_copyFrom_57 : decode cX0_copyFrom 57 = .ok (.iconst 0, 1) := by decide +kernel
theorem dX0_copyFrom_58 : decode cX0_copyFrom 58 = .ok (.iconst 3, 1) := by decide +kernel
theorem dX0_copyFrom_59 : decode cX0_copyFrom 59 = .ok (.invokestatic 62, 3) := by decide +kernel
theorem dX0_copyFrom_62 : decode cX0_copyFrom 62 = .ok (.iconst 0, 1) := by decide +kernel
theorem dX0_copyFrom_63 : decode cX0_copyFrom 63 = .ok (.istore_n 2, 1) := by decide +kernel
theorem dX0_copyFrom_64 : decode cX0_copyFrom 64 = .ok (.iload_n 2, 1) := by decide +kernel
theorem dX0_copyFrom_65 : decode cX0_copyFrom 65 = .ok (.iconst 4, 1) := by decide +kernel
theorem dX0_copyFrom_66 : decode cX0_copyFrom 66 = .ok (.if_icmp .ge 24, 3) := by decide +kernel
theorem dX0_copyFrom_69 : decode cX0_copyFrom 69 = .ok (.aload_n 0, 1) := by decide +kernel
theorem dX0_copyFrom_70 : decode cX0_copyFrom 70 = .ok (.getfield 17, 3) := by decide +kernel
theorem dX0_copyFrom_73 : decode cX0_copyFrom 73 = .ok (.iload_n 2, 1) := by decide +kernel
theorem dX0_copyFrom_74 : decode cX0_copyFrom 74 = .ok (.aaload, 1) := by decide +kernel
theorem dX0_copyFrom_75 : decode cX0_copyFrom 75 = .ok (.aload_n 1, 1) := by decide +kernel
theorem dX0_copyFrom_76 : decode cX0_copyFrom 76 = .ok (.getfield 17, 3) := by decide +kernel
theorem dX0_copyFrom_79 : decode cX0_copyFrom 79 = .ok (.iload_n 2, 1) := by decide +kernel
theorem dX0_copyFrom_80 : decode cX0_copyFrom 80 = .ok (.aaload, 1) := by decide +kernel
theorem dX0_copyFrom_81 : decode cX0_copyFrom 81 = .ok (.invokevirtual 68, 3) := by decide +kernel
theorem dX0_copyFrom_84 : decode cX0_copyFrom 84 = .ok (.iinc 2 1, 3) := by decide +kernel
theorem dX0_copyFrom_87 : decode cX0_copyFrom 87 = .ok (.goto (-23), 3) := by decide +kernel
theorem dX0_copyFrom_90 : decode cX0_copyFrom 90 = .ok (.aload_n 1, 1) := by decide +kernel
theorem dX0_copyFrom_91 : decode cX0_copyFrom 91 = .ok (.getfield 21, 3) := by decide +kernel
theorem dX0_copyFrom_94 : decode cX0_copyFrom 94 = .ok (.iconst 0, 1) := by decide +kernel
theorem dX0_copyFrom_95 : decode cX0_copyFrom 95 = .ok (.aload_n 0, 1) := by decide +kernel
theorem dX0_copyFrom_96 : decode cX0_copyFrom 96 = .ok (.getfield 21, 3) := by decide +kernel
theorem dX0_copyFrom_99 : decode cX0_copyFrom 99 = .ok (.iconst 0, 1) := by decide +kernel
theorem dX0_copyFrom_100 : decode cX0_copyFrom 100 = .ok (.bipush 8, 2) := by decide +kernel
theorem dX0_copyFrom_102 : decode cX0_copyFrom 102 = .ok (.invokestatic 62, 3) := by decide +kernel
theorem dX0_copyFrom_105 : decode cX0_copyFrom 105 = .ok (.aload_n 1, 1) := by decide +kernel
theorem dX0_copyFrom_106 : decode cX0_copyFrom 106 = .ok (.getfield 24, 3) := by decide +kernel
theorem dX0_copyFrom_109 : decode cX0_copyFrom 109 = .ok (.iconst 0, 1) := by decide +kernel
theorem dX0_copyFrom_110 : decode cX0_copyFrom 110 = .ok (.aload_n 0, 1) := by decide +kernel
theorem dX0_copyFrom_111 : decode cX0_copyFrom 111 = .ok (.getfield 24, 3) := by decide +kernel
theorem dX0_copyFrom_114 : decode cX0_copyFrom 114 = .ok (.iconst 0, 1) := by decide +kernel
theorem dX0_copyFrom_115 : decode cX0_copyFrom 115 = .ok (.bipush 8, 2) := by decide +kernel
theorem dX0_copyFrom_117 : decode cX0_copyFrom 117 = .ok (.invokestatic 62, 3) := by decide +kernel
theorem dX0_copyFrom_120 : decode cX0_copyFrom 120 = .ok (.aload_n 1, 1) := by decide +kernel
theorem dX0_copyFrom_121 : decode cX0_copyFrom 121 = .ok (.getfield 27, 3) := by decide +kernel
theorem dX0_copyFrom_124 : decode cX0_copyFrom 124 = .ok (.iconst 0, 1) := by decide +kernel
theorem dX0_copyFrom_125 : decode cX0_copyFrom 125 = .ok (.aload_n 0, 1) := by decide +kernel
theorem dX0_copyFrom_126 : decode cX0_copyFrom 126 = .ok (.getfield 27, 3) := by decide +kernel
theorem dX0_copyFrom_129 : decode cX0_copyFrom 129 = .ok (.iconst 0, 1) := by decide +kernel
theorem dX0_copyFrom_130 : decode cX0_copyFrom 130 = .ok (.bipush 8, 2) := by decide +kernel
theorem dX0_copyFrom_132 : decode cX0_copyFrom 132 = .ok (.invokestatic 62, 3) := by decide +kernel
theorem dX0_copyFrom_135 : decode cX0_copyFrom 135 = .ok (.aload_n 1, 1) := by decide +kernel
theorem dX0_copyFrom_136 : decode cX0_copyFrom 136 = .ok (.getfield 30, 3) := by decide +kernel
theorem dX0_copyFrom_139 : decode cX0_copyFrom 139 = .ok (.iconst 0, 1) := by decide +kernel
theorem dX0_copyFrom_140 : decode cX0_copyFrom 140 = .ok (.aload_n 0, 1) := by decide +kernel
theorem dX0_copyFrom_141 : decode cX0_copyFrom 141 = .ok (.getfield 30, 3) := by decide +kernel
theorem dX0_copyFrom_144 : decode cX0_copyFrom 144 = .ok (.iconst 0, 1) := by decide +kernel
theorem dX0_copyFrom_145 : decode cX0_copyFrom 145 = .ok (.bipush 8, 2) := by decide +kernel
theorem dX0_copyFrom_147 : decode cX0_copyFrom 147 = .ok (.invokestatic 62, 3) := by decide +kernel
theorem dX0_copyFrom_150 : decode cX0_copyFrom 150 = .ok (.aload_n 1, 1) := by decide +kernel
theorem dX0_copyFrom_151 : decode cX0_copyFrom 151 = .ok (.getfield 33, 3) := by decide +kernel
theorem dX0_copyFrom_154 : decode cX0_copyFrom 154 = .ok (.iconst 0, 1) := by decide +kernel
theorem dX0_copyFrom_155 : decode cX0_copyFrom 155 = .ok (.aload_n 0, 1) := by decide +kernel
theorem dX0_copyFrom_156 : decode cX0_copyFrom 156 = .ok (.getfield 33, 3) := by decide +kernel
theorem dX0_copyFrom_159 : decode cX0_copyFrom 159 = .ok (.iconst 0, 1) := by decide +kernel
theorem dX0_copyFrom_160 : decode cX0_copyFrom 160 = .ok (.bipush 8, 2) := by decide +kernel
theorem dX0_copyFrom_162 : decode cX0_copyFrom 162 = .ok (.invokestatic 62, 3) := by decide +kernel
theorem dX0_copyFrom_165 : decode cX0_copyFrom 165 = .ok (.aload_n 1, 1) := by decide +kernel
theorem dX0_copyFrom_166 : decode cX0_copyFrom 166 = .ok (.getfield 36, 3) := by decide +kernel
theorem dX0_copyFrom_169 : decode cX0_copyFrom 169 = .ok (.iconst 0, 1) := by decide +kernel
theorem dX0_copyFrom_170 : decode cX0_copyFrom 170 = .ok (.aload_n 0, 1) := by decide +kernel
theorem dX0_copyFrom_171 : decode cX0_copyFrom 171 = .ok (.getfield 36, 3) := by decide +kernel
theorem dX0_copyFrom_174 : decode cX0_copyFrom 174 = .ok (.iconst 0, 1) := by decide +kernel
theorem dX0_copyFrom_175 : decode cX0_copyFrom 175 = .ok (.bipush 8, 2) := by decide +kernel
theorem dX0_copyFrom_177 : decode cX0_copyFrom 177 = .ok (.invokestatic 62, 3) := by decide +kernel
theorem dX0_copyFrom_180 : decode cX0_copyFrom 180 = .ok (.aload_n 1, 1) := by decide +kernel
theorem dX0_copyFrom_181 : decode cX0_copyFrom 181 = .ok (.getfield 39, 3) := by decide +kernel
theorem dX0_copyFrom_184 : decode cX0_copyFrom 184 = .ok (.iconst 0, 1) := by decide +kernel
theorem dX0_copyFrom_185 : decode cX0_copyFrom 185 = .ok (.aload_n 0, 1) := by decide +kernel
theorem dX0_copyFrom_186 : decode cX0_copyFrom 186 = .ok (.getfield 39, 3) := by decide +kernel
theorem dX0_copyFrom_189 : decode cX0_copyFrom 189 = .ok (.iconst 0, 1) := by decide +kernel
theorem dX0_copyFrom_190 : decode cX0_copyFrom 190 = .ok (.bipush 8, 2) := by decide +kernel
theorem dX0_copyFrom_192 : decode cX0_copyFrom 192 = .ok (.invokestatic 62, 3) := by decide +kernel
theorem dX0_copyFrom_195 : decode cX0_copyFrom 195 = .ok (.return_, 1) := by decide +kernel
theorem dX0_hasSite_0 : decode cX0_hasSite 0 = .ok (.iload_n 1, 1) := by decide +kernel
theorem dX0_hasSite_1 : decode cX0_hasSite 1 = .ok (.ifCond .lt 15, 3) := by decide +kernel
theorem dX0_hasSite_4 : decode cX0_hasSite 4 = .ok (.iload_n 1, 1) := by decide +kernel
theorem dX0_hasSite_5 : decode cX0_hasSite 5 = .ok (.aload_n 0, 1) := by decide +kernel
theorem dX0_hasSite_6 : decode cX0_hasSite 6 = .ok (.getfield 43, 3) := by decide +kernel
theorem dX0_hasSite_9 : decode cX0_hasSite 9 = .ok (.if_icmp .ge 7, 3) := by decide +kernel
theorem dX0_hasSite_12 : decode cX0_hasSite 12 = .ok (.iconst 1, 1) := by decide +kernel
theorem dX0_hasSite_13 : decode cX0_hasSite 13 = .ok (.goto 4, 3) := by decide +kernel
theorem dX0_hasSite_16 : decode cX0_hasSite 16 = .ok (.iconst 0, 1) := by decide +kernel
theorem dX0_hasSite_17 : decode cX0_hasSite 17 = .ok (.ireturn, 1) := by decide +kernel
theorem dX0_hasPipe_0 : decode cX0_hasPipe 0 = .ok (.iload_n 1, 1) := by decide +kernel
theorem dX0_hasPipe_1 : decode cX0_hasPipe 1 = .ok (.ifCond .lt 15, 3) := by decide +kernel
theorem dX0_hasPipe_4 : decode cX0_hasPipe 4 = .ok (.iload_n 1, 1) := by decide +kernel
theorem dX0_hasPipe_5 : decode cX0_hasPipe 5 = .ok (.aload_n 0, 1) := by decide +kernel
theorem dX0_hasPipe_6 : decode cX0_hasPipe 6 = .ok (.getfield 50, 3) := by decide +kernel
theorem dX0_hasPipe_9 : decode cX0_hasPipe 9 = .ok (.if_icmp .ge 7, 3) := by decide +kernel
theorem dX0_hasPipe_12 : decode cX0_hasPipe 12 = .ok (.iconst 1, 1) := by decide +kernel
theorem dX0_hasPipe_13 : decode cX0_hasPipe 13 = .ok (.goto 4, 3) := by decide +kernel
theorem dX0_hasPipe_16 : decode cX0_hasPipe 16 = .ok (.iconst 0, 1) := by decide +kernel
theorem dX0_hasPipe_17 : decode cX0_hasPipe 17 = .ok (.ireturn, 1) := by decide +kernel
set_option maxRecDepth 20000 in
theorem ggX0_frozenCells_X2_frozenWithin : GoodIn wsX0_frozenCells wsX2_frozenWithin := goodIn_r _ [7, 8, 9, 10, 6, 11, 12, 28, 29, 30, 31, 32, 33] (by decide +kernel) (by decide +kernel)
set_option maxRecDepth 20000 in
theorem gX0_frozenCells_X2_frozenWithin : GoodIn wsX0_frozenCells (wsV RX0 72 RX2 yX2_frozenWithin wsX2_frozenWithin) := goodIn_app (goodIn_of _ (by decide +kernel)) ggX0_frozenCells_X2_frozenWithin
theorem dX0_frozenCells_0 : decode cX0_frozenCells 0 = .ok (.iconst 0, 1) := by decide +kernel
theorem dX0_frozenCells_1 : decode cX0_frozenCells 1 = .ok (.istore_n 1, 1) := by decide +kernel
theorem dX0_frozenCells_2 : decode cX0_frozenCells 2 = .ok (.iconst 0, 1) := by decide +kernel
theorem dX0_frozenCells_3 : decode cX0_frozenCells 3 = .ok (.istore_n 2, 1) := by decide +kernel
theorem dX0_frozenCells_4 : decode cX0_frozenCells 4 = .ok (.iload_n 2, 1) := by decide +kernel
theorem dX0_frozenCells_5 : decode cX0_frozenCells 5 = .ok (.aload_n 0, 1) := by decide +kernel
theorem dX0_frozenCells_6 : decode cX0_frozenCells 6 = .ok (.getfield 43, 3) := by decide +kernel
theorem dX0_frozenCells_9 : decode cX0_frozenCells 9 = .ok (.if_icmp .ge 23, 3) := by decide +kernel
theorem dX0_frozenCells_12 : decode cX0_frozenCells 12 = .ok (.iload_n 1, 1) := by decide +kernel
theorem dX0_frozenCells_13 : decode cX0_frozenCells 13 = .ok (.aload_n 0, 1) := by decide +kernel
theorem dX0_frozenCells_14 : decode cX0_frozenCells 14 = .ok (.getfield 17, 3) := by decide +kernel
theorem dX0_frozenCells_17 : decode cX0_frozenCells 17 = .ok (.iload_n 2, 1) := by decide +kernel
theorem dX0_frozenCells_18 : decode cX0_frozenCells 18 = .ok (.aaload, 1) := by decide +kernel
theorem dX0_frozenCells_19 : decode cX0_frozenCells 19 = .ok (.bipush 30, 2) := by decide +kernel
theorem dX0_frozenCells_21 : decode cX0_frozenCells 21 = .ok (.invokevirtual 72, 3) := by decide +kernel
theorem dX0_frozenCells_24 : decode cX0_frozenCells 24 = .ok (.iadd, 1) := by decide +kernel
theorem dX0_frozenCells_25 : decode cX0_frozenCells 25 = .ok (.istore_n 1, 1) := by decide +kernel
theorem dX0_frozenCells_26 : decode cX0_frozenCells 26 = .ok (.iinc 2 1, 3) := by decide +kernel
theorem dX0_frozenCells_29 : decode cX0_frozenCells 29 = .ok (.goto (-25), 3) := by decide +kernel
theorem dX0_frozenCells_32 : decode cX0_frozenCells 32 = .ok (.iload_n 1, 1) := by decide +kernel
theorem dX0_frozenCells_33 : decode cX0_frozenCells 33 = .ok (.ireturn, 1) := by decide +kernel
set_option maxRecDepth 20000 in
theorem ggX0_layersOfAll_X2_layersWithin : GoodIn wsX0_layersOfAll wsX2_layersWithin := goodIn_r _ [7, 8, 9, 10, 6, 11, 12, 13, 14, 15, 16, 32, 33, 34, 35, 36, 37] (by decide +kernel) (by decide +kernel)
set_option maxRecDepth 20000 in
theorem gX0_layersOfAll_X2_layersWithin : GoodIn wsX0_layersOfAll (wsV RX0 76 RX2 yX2_layersWithin wsX2_layersWithin) := goodIn_app (goodIn_of _ (by decide +kernel)) ggX0_layersOfAll_X2_layersWithin
theorem dX0_layersOfAll_0 : decode cX0_layersOfAll 0 = .ok (.iconst 0, 1) := by decide +kernel
theorem dX0_layersOfAll_1 : decode cX0_layersOfAll 1 = .ok (.istore_n 1, 1) := by decide +kernel
theorem dX0_layersOfAll_2 : decode cX0_layersOfAll 2 = .ok (.iconst 0, 1) := by decide +kernel
theorem dX0_layersOfAll_3 : decode cX0_layersOfAll 3 = .ok (.istore_n 2, 1) := by decide +kernel
theorem dX0_layersOfAll_4 : decode cX0_layersOfAll 4 = .ok (.iload_n 2, 1) := by decide +kernel
theorem dX0_layersOfAll_5 : decode cX0_layersOfAll 5 = .ok (.aload_n 0, 1) := by decide +kernel
theorem dX0_layersOfAll_6 : decode cX0_layersOfAll 6 = .ok (.getfield 43, 3) := by decide +kernel
theorem dX0_layersOfAll_9 : decode cX0_layersOfAll 9 = .ok (.if_icmp .ge 23, 3) := by decide +kernel
theorem dX0_layersOfAll_12 : decode cX0_layersOfAll 12 = .ok (.iload_n 1, 1) := by decide +kernel
theorem dX0_layersOfAll_13 : decode cX0_layersOfAll 13 = .ok (.aload_n 0, 1) := by decide +kernel
theorem dX0_layersOfAll_14 : decode cX0_layersOfAll 14 = .ok (.getfield 17, 3) := by decide +kernel
theorem dX0_layersOfAll_17 : decode cX0_layersOfAll 17 = .ok (.iload_n 2, 1) := by decide +kernel
theorem dX0_layersOfAll_18 : decode cX0_layersOfAll 18 = .ok (.aaload, 1) := by decide +kernel
theorem dX0_layersOfAll_19 : decode cX0_layersOfAll 19 = .ok (.bipush 30, 2) := by decide +kernel
theorem dX0_layersOfAll_21 : decode cX0_layersOfAll 21 = .ok (.invokevirtual 76, 3) := by decide +kernel
theorem dX0_layersOfAll_24 : decode cX0_layersOfAll 24 = .ok (.iadd, 1) := by decide +kernel
theorem dX0_layersOfAll_25 : decode cX0_layersOfAll 25 = .ok (.istore_n 1, 1) := by decide +kernel
theorem dX0_layersOfAll_26 : decode cX0_layersOfAll 26 = .ok (.iinc 2 1, 3) := by decide +kernel
theorem dX0_layersOfAll_29 : decode cX0_layersOfAll 29 = .ok (.goto (-25), 3) := by decide +kernel
theorem dX0_layersOfAll_32 : decode cX0_layersOfAll 32 = .ok (.iload_n 1, 1) := by decide +kernel
theorem dX0_layersOfAll_33 : decode cX0_layersOfAll 33 = .ok (.ireturn, 1) := by decide +kernel
theorem dX0_heavesOfAll_0 : decode cX0_heavesOfAll 0 = .ok (.iconst 0, 1) := by decide +kernel
theorem dX0_heavesOfAll_1 : decode cX0_heavesOfAll 1 = .ok (.istore_n 1, 1) := by decide +kernel
theorem dX0_heavesOfAll_2 : decode cX0_heavesOfAll 2 = .ok (.iconst 0, 1) := by decide +kernel
theorem dX0_heavesOfAll_3 : decode cX0_heavesOfAll 3 = .ok (.istore_n 2, 1) := by decide +kernel
theorem dX0_heavesOfAll_4 : decode cX0_heavesOfAll 4 = .ok (.iload_n 2, 1) := by decide +kernel
theorem dX0_heavesOfAll_5 : decode cX0_heavesOfAll 5 = .ok (.aload_n 0, 1) := by decide +kernel
theorem dX0_heavesOfAll_6 : decode cX0_heavesOfAll 6 = .ok (.getfield 50, 3) := by decide +kernel
theorem dX0_heavesOfAll_9 : decode cX0_heavesOfAll 9 = .ok (.if_icmp .ge 18, 3) := by decide +kernel
theorem dX0_heavesOfAll_12 : decode cX0_heavesOfAll 12 = .ok (.iload_n 1, 1) := by decide +kernel
theorem dX0_heavesOfAll_13 : decode cX0_heavesOfAll 13 = .ok (.aload_n 0, 1) := by decide +kernel
theorem dX0_heavesOfAll_14 : decode cX0_heavesOfAll 14 = .ok (.getfield 33, 3) := by decide +kernel
theorem dX0_heavesOfAll_17 : decode cX0_heavesOfAll 17 = .ok (.iload_n 2, 1) := by decide +kernel
theorem dX0_heavesOfAll_18 : decode cX0_heavesOfAll 18 = .ok (.iaload, 1) := by decide +kernel
theorem dX0_heavesOfAll_19 : decode cX0_heavesOfAll 19 = .ok (.iadd, 1) := by decide +kernel
theorem dX0_heavesOfAll_20 : decode cX0_heavesOfAll 20 = .ok (.istore_n 1, 1) := by decide +kernel
theorem dX0_heavesOfAll_21 : decode cX0_heavesOfAll 21 = .ok (.iinc 2 1, 3) := by decide +kernel
theorem dX0_heavesOfAll_24 : decode cX0_heavesOfAll 24 = .ok (.goto (-20), 3) := by decide +kernel
theorem dX0_heavesOfAll_27 : decode cX0_heavesOfAll 27 = .ok (.iload_n 1, 1) := by decide +kernel
theorem dX0_heavesOfAll_28 : decode cX0_heavesOfAll 28 = .ok (.ireturn, 1) := by decide +kernel
theorem dX0_greatestSumNow_0 : decode cX0_greatestSumNow 0 = .ok (.iconst 0, 1) := by decide +kernel
theorem dX0_greatestSumNow_1 : decode cX0_greatestSumNow 1 = .ok (.istore_n 1, 1) := by decide +kernel
theorem dX0_greatestSumNow_2 : decode cX0_greatestSumNow 2 = .ok (.iconst 0, 1) := by decide +kernel
theorem dX0_greatestSumNow_3 : decode cX0_greatestSumNow 3 = .ok (.istore_n 2, 1) := by decide +kernel
theorem dX0_greatestSumNow_4 : decode cX0_greatestSumNow 4 = .ok (.iload_n 2, 1) := by decide +kernel
theorem dX0_greatestSumNow_5 : decode cX0_greatestSumNow 5 = .ok (.aload_n 0, 1) := by decide +kernel
theorem dX0_greatestSumNow_6 : decode cX0_greatestSumNow 6 = .ok (.getfield 43, 3) := by decide +kernel
theorem dX0_greatestSumNow_9 : decode cX0_greatestSumNow 9 = .ok (.if_icmp .ge 23, 3) := by decide +kernel
theorem dX0_greatestSumNow_12 : decode cX0_greatestSumNow 12 = .ok (.iload_n 1, 1) := by decide +kernel
theorem dX0_greatestSumNow_13 : decode cX0_greatestSumNow 13 = .ok (.aload_n 0, 1) := by decide +kernel
theorem dX0_greatestSumNow_14 : decode cX0_greatestSumNow 14 = .ok (.getfield 17, 3) := by decide +kernel
theorem dX0_greatestSumNow_17 : decode cX0_greatestSumNow 17 = .ok (.iload_n 2, 1) := by decide +kernel
theorem dX0_greatestSumNow_18 : decode cX0_greatestSumNow 18 = .ok (.aaload, 1) := by decide +kernel
theorem dX0_greatestSumNow_19 : decode cX0_greatestSumNow 19 = .ok (.getfield 79, 3) := by decide +kernel
theorem dX0_greatestSumNow_22 : decode cX0_greatestSumNow 22 = .ok (.invokestatic 82, 3) := by decide +kernel
theorem dX0_greatestSumNow_25 : decode cX0_greatestSumNow 25 = .ok (.istore_n 1, 1) := by decide +kernel
theorem dX0_greatestSumNow_26 : decode cX0_greatestSumNow 26 = .ok (.iinc 2 1, 3) := by decide +kernel
theorem dX0_greatestSumNow_29 : decode cX0_greatestSumNow 29 = .ok (.goto (-25), 3) := by decide +kernel
theorem dX0_greatestSumNow_32 : decode cX0_greatestSumNow 32 = .ok (.iload_n 1, 1) := by decide +kernel
theorem dX0_greatestSumNow_33 : decode cX0_greatestSumNow 33 = .ok (.ireturn, 1) := by decide +kernel
set_option maxRecDepth 20000 in
theorem ggX0_nextAgeKey_X2_isFrozen : GoodIn wsX0_nextAgeKey wsX2_isFrozen := goodIn_r _ [9, 10, 26, 27, 28, 29, 30, 31] (by decide +kernel) (by decide +kernel)
set_option maxRecDepth 20000 in
theorem gX0_nextAgeKey_X2_isFrozen : GoodIn wsX0_nextAgeKey (wsV RX0 92 RX2 yX2_isFrozen wsX2_isFrozen) := goodIn_app (goodIn_of _ (by decide +kernel)) ggX0_nextAgeKey_X2_isFrozen
theorem dX0_nextAgeKey_0 : decode cX0_nextAgeKey 0 = .ok (.ldc 88, 2) := by decide +kernel
theorem dX0_nextAgeKey_2 : decode cX0_nextAgeKey 2 = .ok (.istore_n 2, 1) := by decide +kernel
theorem dX0_nextAgeKey_3 : decode cX0_nextAgeKey 3 = .ok (.iconst 0, 1) := by decide +kernel
theorem dX0_nextAgeKey_4 : decode cX0_nextAgeKey 4 = .ok (.istore_n 3, 1) := by decide +kernel
theorem dX0_nextAgeKey_5 : decode cX0_nextAgeKey 5 = .ok (.iload_n 3, 1) := by decide +kernel
theorem dX0_nextAgeKey_6 : decode cX0_nextAgeKey 6 = .ok (.aload_n 0, 1) := by decide +kernel
theorem dX0_nextAgeKey_7 : decode cX0_nextAgeKey 7 = .ok (.getfield 43, 3) := by decide +kernel
theorem dX0_nextAgeKey_10 : decode cX0_nextAgeKey 10 = .ok (.if_icmp .ge 80, 3) := by decide +kernel
theorem dX0_nextAgeKey_13 : decode cX0_nextAgeKey 13 = .ok (.iconst 0, 1) := by decide +kernel
theorem dX0_nextAgeKey_14 : decode cX0_nextAgeKey 14 = .ok (.istore 4, 2) := by decide +kernel
theorem dX0_nextAgeKey_16 : decode cX0_nextAgeKey 16 = .ok (.iload 4, 2) := by decide +kernel
theorem dX0_nextAgeKey_18 : decode cX0_nextAgeKey 18 = .ok (.bipush 30, 2) := by decide +kernel
theorem dX0_nextAgeKey_20 : decode cX0_nextAgeKey 20 = .ok (.if_icmp .ge 64, 3) := by decide +kernel
theorem dX0_nextAgeKey_23 : decode cX0_nextAgeKey 23 = .ok (.sipush 1000, 3) := by decide +kernel
theorem dX0_nextAgeKey_26 : decode cX0_nextAgeKey 26 = .ok (.aload_n 0, 1) := by decide +kernel
theorem dX0_nextAgeKey_27 : decode cX0_nextAgeKey 27 = .ok (.getfield 17, 3) := by decide +kernel
theorem dX0_nextAgeKey_30 : decode cX0_nextAgeKey 30 = .ok (.iload_n 3, 1) := by decide +kernel
theorem dX0_nextAgeKey_31 : decode cX0_nextAgeKey 31 = .ok (.aaload, 1) := by decide +kernel
theorem dX0_nextAgeKey_32 : decode cX0_nextAgeKey 32 = .ok (.getfield 89, 3) := by decide +kernel
theorem dX0_nextAgeKey_35 : decode cX0_nextAgeKey 35 = .ok (.iload 4, 2) := by decide +kernel
theorem dX0_nextAgeKey_37 : decode cX0_nextAgeKey 37 = .ok (.iaload, 1) := by decide +kernel
theorem dX0_nextAgeKey_38 : decode cX0_nextAgeKey 38 = .ok (.imul, 1) := by decide +kernel
theorem dX0_nextAgeKey_39 : decode cX0_nextAgeKey 39 = .ok (.bipush 100, 2) := by decide +kernel
theorem dX0_nextAgeKey_41 : decode cX0_nextAgeKey 41 = .ok (.iload_n 3, 1) := by decide +kernel
theorem dX0_nextAgeKey_42 : decode cX0_nextAgeKey 42 = .ok (.imul, 1) := by decide +kernel
theorem dX0_nextAgeKey_43 : decode cX0_nextAgeKey 43 = .ok (.iadd, 1) := by decide +kernel
theorem dX0_nextAgeKey_44 : decode cX0_nextAgeKey 44 = .ok (.iload 4, 2) := by decide +kernel
theorem dX0_nextAgeKey_46 : decode cX0_nextAgeKey 46 = .ok (.iadd, 1) := by decide +kernel
theorem dX0_nextAgeKey_47 : decode cX0_nextAgeKey 47 = .ok (.istore 5, 2) := by decide +kernel
theorem dX0_nextAgeKey_49 : decode cX0_nextAgeKey 49 = .ok (.aload_n 0, 1) := by decide +kernel
theorem dX0_nextAgeKey_50 : decode cX0_nextAgeKey 50 = .ok (.getfield 17, 3) := by decide +kernel
theorem dX0_nextAgeKey_53 : decode cX0_nextAgeKey 53 = .ok (.iload_n 3, 1) := by decide +kernel
theorem dX0_nextAgeKey_54 : decode cX0_nextAgeKey 54 = .ok (.aaload, 1) := by decide +kernel
theorem dX0_nextAgeKey_55 : decode cX0_nextAgeKey 55 = .ok (.iload 4, 2) := by decide +kernel
theorem dX0_nextAgeKey_57 : decode cX0_nextAgeKey 57 = .ok (.invokevirtual 92, 3) := by decide +kernel
theorem dX0_nextAgeKey_60 : decode cX0_nextAgeKey 60 = .ok (.ifCond .eq 18, 3) := by decide +kernel
theorem dX0_nextAgeKey_63 : decode cX0_nextAgeKey 63 = .ok (.iload 5, 2) := by decide +kernel
theorem dX0_nextAgeKey_65 : decode cX0_nextAgeKey 65 = .ok (.iload_n 1, 1) := by decide +kernel
theorem dX0_nextAgeKey_66 : decode cX0_nextAgeKey 66 = .ok (.if_icmp .le 12, 3) := by decide +kernel
theorem dX0_nextAgeKey_69 : decode cX0_nextAgeKey 69 = .ok (.iload 5, 2) := by decide +kernel
theorem dX0_nextAgeKey_71 : decode cX0_nextAgeKey 71 = .ok (.iload_n 2, 1) := by decide +kernel
theorem dX0_nextAgeKey_72 : decode cX0_nextAgeKey 72 = .ok (.if_icmp .ge 6, 3) := by decide +kernel
theorem dX0_nextAgeKey_75 : decode cX0_nextAgeKey 75 = .ok (.iload 5, 2) := by decide +kernel
theorem dX0_nextAgeKey_77 : decode cX0_nextAgeKey 77 = .ok (.istore_n 2, 1) := by decide +kernel
theorem dX0_nextAgeKey_78 : decode cX0_nextAgeKey 78 = .ok (.iinc 4 1, 3) := by decide +kernel
theorem dX0_nextAgeKey_81 : decode cX0_nextAgeKey 81 = .ok (.goto (-65), 3) := by decide +kernel
theorem dX0_nextAgeKey_84 : decode cX0_nextAgeKey 84 = .ok (.iinc 3 1, 3) := by decide +kernel
theorem dX0_nextAgeKey_87 : decode cX0_nextAgeKey 87 = .ok (.goto (-82), 3) := by decide +kernel
theorem dX0_nextAgeKey_90 : decode cX0_nextAgeKey 90 = .ok (.iload_n 2, 1) := by decide +kernel
theorem dX0_nextAgeKey_91 : decode cX0_nextAgeKey 91 = .ok (.ireturn, 1) := by decide +kernel
set_option maxRecDepth 20000 in
theorem ggX0_numberOf_X0_frozenCells : GoodIn wsX0_numberOf wsX0_frozenCells := goodIn_r _ [12, 1, 13, 14, 15, 16, 17, 18, 19, 20, 21, 22, 23, 41, 42, 43, 44, 45, 46, 47, 48, 49, 50, 51, 52, 53, 54, 55, 56, 57, 58, 59, 60, 61] (by decide +kernel) (by decide +kernel)
set_option maxRecDepth 20000 in
theorem gX0_numberOf_X0_frozenCells : GoodIn wsX0_numberOf (wsV RX0 96 RX0 yX0_frozenCells wsX0_frozenCells) := goodIn_app (goodIn_of _ (by decide +kernel)) ggX0_numberOf_X0_frozenCells
set_option maxRecDepth 20000 in
theorem ggX0_numberOf_X0_layersOfAll : GoodIn wsX0_numberOf wsX0_layersOfAll := goodIn_r _ [27, 1, 13, 28, 29, 30, 17, 31, 32, 33, 34, 35, 19, 20, 21, 22, 23, 41, 42, 43, 44, 45, 46, 47, 48, 49, 50, 51, 52, 53, 54, 55, 56, 57, 58, 59, 60, 61] (by decide +kernel) (by decide +kernel)
set_option maxRecDepth 20000 in
theorem gX0_numberOf_X0_layersOfAll : GoodIn wsX0_numberOf (wsV RX0 100 RX0 yX0_layersOfAll wsX0_layersOfAll) := goodIn_app (goodIn_of _ (by decide +kernel)) ggX0_numberOf_X0_layersOfAll
set_option maxRecDepth 20000 in
theorem ggX0_numberOf_X0_heavesOfAll : GoodIn wsX0_numberOf wsX0_heavesOfAll := goodIn_r _ [39, 3, 40, 41, 42, 43, 44, 45, 46, 47, 48, 49, 50, 51, 52, 53, 54, 55] (by decide +kernel) (by decide +kernel)
set_option maxRecDepth 20000 in
theorem gX0_numberOf_X0_heavesOfAll : GoodIn wsX0_numberOf (wsV RX0 103 RX0 yX0_heavesOfAll wsX0_heavesOfAll) := goodIn_app (goodIn_of _ (by decide +kernel)) ggX0_numberOf_X0_heavesOfAll
theorem dX0_numberOf_0 : decode cX0_numberOf 0 = .ok (.iload_n 1, 1) := by decide +kernel
theorem dX0_numberOf_1 : decode cX0_numberOf 1 = .ok (.tableswitch 118 0 10 #[59, 64, 69, 74, 79, 84, 89, 94, 99, 104, 111], 59) := by decide +kernel
theorem dX0_numberOf_60 : decode cX0_numberOf 60 = .ok (.aload_n 0, 1) := by decide +kernel
theorem dX0_numberOf_61 : decode cX0_numberOf 61 = .ok (.getfield 43, 3) := by decide +kernel
theorem dX0_numberOf_64 : decode cX0_numberOf 64 = .ok (.ireturn, 1) := by decide +kernel
theorem dX0_numberOf_65 : decode cX0_numberOf 65 = .ok (.aload_n 0, 1) := by decide +kernel
theorem dX0_numberOf_66 : decode cX0_numberOf 66 = .ok (.getfield 47, 3) := by decide +kernel
theorem dX0_numberOf_69 : decode cX0_numberOf 69 = .ok (.ireturn, 1) := by decide +kernel
theorem dX0_numberOf_70 : decode cX0_numberOf 70 = .ok (.aload_n 0, 1) := by decide +kernel
theorem dX0_numberOf_71 : decode cX0_numberOf 71 = .ok (.getfield 50, 3) := by decide +kernel
theorem dX0_numberOf_74 : decode cX0_numberOf 74 = .ok (.ireturn, 1) := by decide +kernel
theorem dX0_numberOf_75 : decode cX0_numberOf 75 = .ok (.aload_n 0, 1) := by decide +kernel
theorem dX0_numberOf_76 : decode cX0_numberOf 76 = .ok (.getfield 53, 3) := by decide +kernel
theorem dX0_numberOf_79 : decode cX0_numberOf 79 = .ok (.ireturn, 1) := by decide +kernel
theorem dX0_numberOf_80 : decode cX0_numberOf 80 = .ok (.aload_n 0, 1) := by decide +kernel
theorem dX0_numberOf_81 : decode cX0_numberOf 81 = .ok (.invokevirtual 96, 3) := by decide +kernel
theorem dX0_numberOf_84 : decode cX0_numberOf 84 = .ok (.ireturn, 1) := by decide +kernel
theorem dX0_numberOf_85 : decode cX0_numberOf 85 = .ok (.aload_n 0, 1) := by decide +kernel
theorem dX0_numberOf_86 : decode cX0_numberOf 86 = .ok (.invokevirtual 100, 3) := by decide +kernel
theorem dX0_numberOf_89 : decode cX0_numberOf 89 = .ok (.ireturn, 1) := by decide +kernel
theorem dX0_numberOf_90 : decode cX0_numberOf 90 = .ok (.aload_n 0, 1) := by decide +kernel
theorem dX0_numberOf_91 : decode cX0_numberOf 91 = .ok (.getfield 56, 3) := by decide +kernel
theorem dX0_numberOf_94 : decode cX0_numberOf 94 = .ok (.ireturn, 1) := by decide +kernel
theorem dX0_numberOf_95 : decode cX0_numberOf 95 = .ok (.aload_n 0, 1) := by decide +kernel
theorem dX0_numberOf_96 : decode cX0_numberOf 96 = .ok (.getfield 59, 3) := by decide +kernel
theorem dX0_numberOf_99 : decode cX0_numberOf 99 = .ok (.ireturn, 1) := by decide +kernel
theorem dX0_numberOf_100 : decode cX0_numberOf 100 = .ok (.aload_n 0, 1) := by decide +kernel
theorem dX0_numberOf_101 : decode cX0_numberOf 101 = .ok (.invokevirtual 103, 3) := by decide +kernel
theorem dX0_numberOf_104 : decode cX0_numberOf 104 = .ok (.ireturn, 1) := by decide +kernel
theorem dX0_numberOf_105 : decode cX0_numberOf 105 = .ok (.aload_n 0, 1) := by decide +kernel
theorem dX0_numberOf_106 : decode cX0_numberOf 106 = .ok (.getfield 11, 3) := by decide +kernel
theorem dX0_numberOf_109 : decode cX0_numberOf 109 = .ok (.iconst 0, 1) := by decide +kernel
theorem dX0_numberOf_110 : decode cX0_numberOf 110 = .ok (.iaload, 1) := by decide +kernel
theorem dX0_numberOf_111 : decode cX0_numberOf 111 = .ok (.ireturn, 1) := by decide +kernel
theorem dX0_numberOf_112 : decode cX0_numberOf 112 = .ok (.aload_n 0, 1) := by decide +kernel
theorem dX0_numberOf_113 : decode cX0_numberOf 113 = .ok (.getfield 11, 3) := by decide +kernel
theorem dX0_numberOf_116 : decode cX0_numberOf 116 = .ok (.iconst 1, 1) := by decide +kernel
theorem dX0_numberOf_117 : decode cX0_numberOf 117 = .ok (.iaload, 1) := by decide +kernel
theorem dX0_numberOf_118 : decode cX0_numberOf 118 = .ok (.ireturn, 1) := by decide +kernel
theorem dX0_numberOf_119 : decode cX0_numberOf 119 = .ok (.aload_n 0, 1) := by decide +kernel
theorem dX0_numberOf_120 : decode cX0_numberOf 120 = .ok (.getfield 11, 3) := by decide +kernel
theorem dX0_numberOf_123 : decode cX0_numberOf 123 = .ok (.iconst 2, 1) := by decide +kernel
theorem dX0_numberOf_124 : decode cX0_numberOf 124 = .ok (.iaload, 1) := by decide +kernel
theorem dX0_numberOf_125 : decode cX0_numberOf 125 = .ok (.ireturn, 1) := by decide +kernel
set_option maxRecDepth 20000 in
theorem ggX0_numberOfTube_X2_frozenWithin : GoodIn wsX0_numberOfTube wsX2_frozenWithin := goodIn_r _ [8, 9, 10, 11, 7, 12, 13, 41, 42, 43, 44, 45, 46] (by decide +kernel) (by decide +kernel)
set_option maxRecDepth 20000 in
theorem gX0_numberOfTube_X2_frozenWithin : GoodIn wsX0_numberOfTube (wsV RX0 72 RX2 yX2_frozenWithin wsX2_frozenWithin) := goodIn_app (goodIn_of _ (by decide +kernel)) ggX0_numberOfTube_X2_frozenWithin
set_option maxRecDepth 20000 in
theorem ggX0_numberOfTube_X2_layersWithin : GoodIn wsX0_numberOfTube wsX2_layersWithin := goodIn_r _ [17, 18, 19, 20, 7, 21, 9, 10, 11, 12, 13, 41, 42, 43, 44, 45, 46] (by decide +kernel) (by decide +kernel)
set_option maxRecDepth 20000 in
theorem gX0_numberOfTube_X2_layersWithin : GoodIn wsX0_numberOfTube (wsV RX0 76 RX2 yX2_layersWithin wsX2_layersWithin) := goodIn_app (goodIn_of _ (by decide +kernel)) ggX0_numberOfTube_X2_layersWithin
set_option maxRecDepth 20000 in
theorem ggX0_numberOfTube_X2_lowestWithin : GoodIn wsX0_numberOfTube wsX2_lowestWithin := goodIn_r _ [25, 9, 10, 11, 7, 12, 13, 41, 42, 43, 44, 45, 46] (by decide +kernel) (by decide +kernel)
set_option maxRecDepth 20000 in
theorem gX0_numberOfTube_X2_lowestWithin : GoodIn wsX0_numberOfTube (wsV RX0 106 RX2 yX2_lowestWithin wsX2_lowestWithin) := goodIn_app (goodIn_of _ (by decide +kernel)) ggX0_numberOfTube_X2_lowestWithin
theorem dX0_numberOfTube_0 : decode cX0_numberOfTube 0 = .ok (.aload_n 0, 1) := by decide +kernel
theorem dX0_numberOfTube_1 : decode cX0_numberOfTube 1 = .ok (.getfield 24, 3) := by decide +kernel
theorem dX0_numberOfTube_4 : decode cX0_numberOfTube 4 = .ok (.iload_n 1, 1) := by decide +kernel
theorem dX0_numberOfTube_5 : decode cX0_numberOfTube 5 = .ok (.iaload, 1) := by decide +kernel
theorem dX0_numberOfTube_6 : decode cX0_numberOfTube 6 = .ok (.istore_n 3, 1) := by decide +kernel
theorem dX0_numberOfTube_7 : decode cX0_numberOfTube 7 = .ok (.aload_n 0, 1) := by decide +kernel
theorem dX0_numberOfTube_8 : decode cX0_numberOfTube 8 = .ok (.getfield 17, 3) := by decide +kernel
theorem dX0_numberOfTube_11 : decode cX0_numberOfTube 11 = .ok (.aload_n 0, 1) := by decide +kernel
theorem dX0_numberOfTube_12 : decode cX0_numberOfTube 12 = .ok (.getfield 21, 3) := by decide +kernel
theorem dX0_numberOfTube_15 : decode cX0_numberOfTube 15 = .ok (.iload_n 1, 1) := by decide +kernel
theorem dX0_numberOfTube_16 : decode cX0_numberOfTube 16 = .ok (.iaload, 1) := by decide +kernel
theorem dX0_numberOfTube_17 : decode cX0_numberOfTube 17 = .ok (.aaload, 1) := by decide +kernel
theorem dX0_numberOfTube_18 : decode cX0_numberOfTube 18 = .ok (.astore 4, 2) := by decide +kernel
theorem dX0_numberOfTube_20 : decode cX0_numberOfTube 20 = .ok (.iload_n 2, 1) := by decide +kernel
theorem dX0_numberOfTube_21 : decode cX0_numberOfTube 21 = .ok (.tableswitch 65 0 4 #[35, 42, 44, 51, 58], 35) := by decide +kernel
theorem dX0_numberOfTube_56 : decode cX0_numberOfTube 56 = .ok (.aload_n 0, 1) := by decide +kernel
theorem dX0_numberOfTube_57 : decode cX0_numberOfTube 57 = .ok (.getfield 21, 3) := by decide +kernel
theorem dX0_numberOfTube_60 : decode cX0_numberOfTube 60 = .ok (.iload_n 1, 1) := by decide +kernel
theorem dX0_numberOfTube_61 : decode cX0_numberOfTube 61 = .ok (.iaload, 1) := by decide +kernel
theorem dX0_numberOfTube_62 : decode cX0_numberOfTube 62 = .ok (.ireturn, 1) := by decide +kernel
theorem dX0_numberOfTube_63 : decode cX0_numberOfTube 63 = .ok (.iload_n 3, 1) := by decide +kernel
theorem dX0_numberOfTube_64 : decode cX0_numberOfTube 64 = .ok (.ireturn, 1) := by decide +kernel
theorem dX0_numberOfTube_65 : decode cX0_numberOfTube 65 = .ok (.aload 4, 2) := by decide +kernel
theorem dX0_numberOfTube_67 : decode cX0_numberOfTube 67 = .ok (.iload_n 3, 1) := by decide +kernel
theorem dX0_numberOfTube_68 : decode cX0_numberOfTube 68 = .ok (.invokevirtual 72, 3) := by decide +kernel
theorem dX0_numberOfTube_71 : decode cX0_numberOfTube 71 = .ok (.ireturn, 1) := by decide +kernel
theorem dX0_numberOfTube_72 : decode cX0_numberOfTube 72 = .ok (.aload 4, 2) := by decide +kernel
theorem dX0_numberOfTube_74 : decode cX0_numberOfTube 74 = .ok (.iload_n 3, 1) := by decide +kernel
theorem dX0_numberOfTube_75 : decode cX0_numberOfTube 75 = .ok (.invokevirtual 76, 3) := by decide +kernel
theorem dX0_numberOfTube_78 : decode cX0_numberOfTube 78 = .ok (.ireturn, 1) := by decide +kernel
theorem dX0_numberOfTube_79 : decode cX0_numberOfTube 79 = .ok (.aload 4, 2) := by decide +kernel
theorem dX0_numberOfTube_81 : decode cX0_numberOfTube 81 = .ok (.iload_n 3, 1) := by decide +kernel
theorem dX0_numberOfTube_82 : decode cX0_numberOfTube 82 = .ok (.invokevirtual 106, 3) := by decide +kernel
theorem dX0_numberOfTube_85 : decode cX0_numberOfTube 85 = .ok (.ireturn, 1) := by decide +kernel
theorem dX0_numberOfTube_86 : decode cX0_numberOfTube 86 = .ok (.aload 4, 2) := by decide +kernel
theorem dX0_numberOfTube_88 : decode cX0_numberOfTube 88 = .ok (.bipush 30, 2) := by decide +kernel
theorem dX0_numberOfTube_90 : decode cX0_numberOfTube 90 = .ok (.invokevirtual 106, 3) := by decide +kernel
theorem dX0_numberOfTube_93 : decode cX0_numberOfTube 93 = .ok (.iload_n 3, 1) := by decide +kernel
theorem dX0_numberOfTube_94 : decode cX0_numberOfTube 94 = .ok (.if_icmp .lt 7, 3) := by decide +kernel
theorem dX0_numberOfTube_97 : decode cX0_numberOfTube 97 = .ok (.iconst 1, 1) := by decide +kernel
theorem dX0_numberOfTube_98 : decode cX0_numberOfTube 98 = .ok (.goto 4, 3) := by decide +kernel
theorem dX0_numberOfTube_101 : decode cX0_numberOfTube 101 = .ok (.iconst 0, 1) := by decide +kernel
theorem dX0_numberOfTube_102 : decode cX0_numberOfTube 102 = .ok (.ireturn, 1) := by decide +kernel
theorem dX0_numberOfPipe_0 : decode cX0_numberOfPipe 0 = .ok (.iload_n 2, 1) := by decide +kernel
theorem dX0_numberOfPipe_1 : decode cX0_numberOfPipe 1 = .ok (.tableswitch 59 0 3 #[31, 38, 45, 52], 31) := by decide +kernel
theorem dX0_numberOfPipe_32 : decode cX0_numberOfPipe 32 = .ok (.aload_n 0, 1) := by decide +kernel
theorem dX0_numberOfPipe_33 : decode cX0_numberOfPipe 33 = .ok (.getfield 27, 3) := by decide +kernel
theorem dX0_numberOfPipe_36 : decode cX0_numberOfPipe 36 = .ok (.iload_n 1, 1) := by decide +kernel
theorem dX0_numberOfPipe_37 : decode cX0_numberOfPipe 37 = .ok (.iaload, 1) := by decide +kernel
theorem dX0_numberOfPipe_38 : decode cX0_numberOfPipe 38 = .ok (.ireturn, 1) := by decide +kernel
theorem dX0_numberOfPipe_39 : decode cX0_numberOfPipe 39 = .ok (.aload_n 0, 1) := by decide +kernel
theorem dX0_numberOfPipe_40 : decode cX0_numberOfPipe 40 = .ok (.getfield 30, 3) := by decide +kernel
theorem dX0_numberOfPipe_43 : decode cX0_numberOfPipe 43 = .ok (.iload_n 1, 1) := by decide +kernel
theorem dX0_numberOfPipe_44 : decode cX0_numberOfPipe 44 = .ok (.iaload, 1) := by decide +kernel
theorem dX0_numberOfPipe_45 : decode cX0_numberOfPipe 45 = .ok (.ireturn, 1) := by decide +kernel
theorem dX0_numberOfPipe_46 : decode cX0_numberOfPipe 46 = .ok (.aload_n 0, 1) := by decide +kernel
theorem dX0_numberOfPipe_47 : decode cX0_numberOfPipe 47 = .ok (.getfield 33, 3) := by decide +kernel
theorem dX0_numberOfPipe_50 : decode cX0_numberOfPipe 50 = .ok (.iload_n 1, 1) := by decide +kernel
theorem dX0_numberOfPipe_51 : decode cX0_numberOfPipe 51 = .ok (.iaload, 1) := by decide +kernel
theorem dX0_numberOfPipe_52 : decode cX0_numberOfPipe 52 = .ok (.ireturn, 1) := by decide +kernel
theorem dX0_numberOfPipe_53 : decode cX0_numberOfPipe 53 = .ok (.aload_n 0, 1) := by decide +kernel
theorem dX0_numberOfPipe_54 : decode cX0_numberOfPipe 54 = .ok (.getfield 36, 3) := by decide +kernel
theorem dX0_numberOfPipe_57 : decode cX0_numberOfPipe 57 = .ok (.iload_n 1, 1) := by decide +kernel
theorem dX0_numberOfPipe_58 : decode cX0_numberOfPipe 58 = .ok (.iaload, 1) := by decide +kernel
theorem dX0_numberOfPipe_59 : decode cX0_numberOfPipe 59 = .ok (.ireturn, 1) := by decide +kernel
theorem dX0_numberOfPipe_60 : decode cX0_numberOfPipe 60 = .ok (.aload_n 0, 1) := by decide +kernel
theorem dX0_numberOfPipe_61 : decode cX0_numberOfPipe 61 = .ok (.getfield 39, 3) := by decide +kernel
theorem dX0_numberOfPipe_64 : decode cX0_numberOfPipe 64 = .ok (.iload_n 1, 1) := by decide +kernel
theorem dX0_numberOfPipe_65 : decode cX0_numberOfPipe 65 = .ok (.iaload, 1) := by decide +kernel
theorem dX0_numberOfPipe_66 : decode cX0_numberOfPipe 66 = .ok (.ireturn, 1) := by decide +kernel
set_option maxRecDepth 20000 in
theorem ggX0_faultOf_X0_faultOfTube : GoodIn wsX0_faultOf wsX0_faultOfTube := goodIn_r _ [6, 7, 8, 9, 10, 5, 11, 1, 37, 38, 39, 40, 41, 42, 43, 44, 45, 46, 47, 48, 49, 50, 51] (by decide +kernel) (by decide +kernel)
set_option maxRecDepth 20000 in
theorem gX0_faultOf_X0_faultOfTube : GoodIn wsX0_faultOf (wsV RX0 109 RX0 yX0_faultOfTube wsX0_faultOfTube) := goodIn_app (goodIn_of _ (by decide +kernel)) ggX0_faultOf_X0_faultOfTube
set_option maxRecDepth 20000 in
theorem ggX0_faultOf_X0_faultOfPipe : GoodIn wsX0_faultOf wsX0_faultOfPipe := goodIn_r _ [15, 16, 17, 8, 9, 10, 5, 11, 1, 18, 19, 20, 21, 22, 23, 37, 38, 39, 40, 41, 42, 43, 44, 45, 46, 47, 48, 49, 50, 51, 52, 53, 54, 55, 56, 57] (by decide +kernel) (by decide +kernel)
set_option maxRecDepth 20000 in
theorem gX0_faultOf_X0_faultOfPipe : GoodIn wsX0_faultOf (wsV RX0 112 RX0 yX0_faultOfPipe wsX0_faultOfPipe) := goodIn_app (goodIn_of _ (by decide +kernel)) ggX0_faultOf_X0_faultOfPipe
set_option maxRecDepth 20000 in
theorem ggX0_faultOf_X0_faultOfFence : GoodIn wsX0_faultOf wsX0_faultOfFence := goodIn_r _ [27, 8, 9, 10, 5, 11, 1, 37, 38, 39, 40, 41, 42, 43, 44, 45, 46, 47, 48, 49, 50, 51] (by decide +kernel) (by decide +kernel)
set_option maxRecDepth 20000 in
theorem gX0_faultOf_X0_faultOfFence : GoodIn wsX0_faultOf (wsV RX0 115 RX0 yX0_faultOfFence wsX0_faultOfFence) := goodIn_app (goodIn_of _ (by decide +kernel)) ggX0_faultOf_X0_faultOfFence
set_option maxRecDepth 20000 in
theorem ggX0_faultOf_X0_hasSite : GoodIn wsX0_faultOf wsX0_hasSite := goodIn_r _ [11, 1, 37, 38, 39, 40, 41, 42, 43, 44, 45, 46, 47, 48, 49, 50, 51] (by decide +kernel) (by decide +kernel)
set_option maxRecDepth 20000 in
theorem gX0_faultOf_X0_hasSite : GoodIn wsX0_faultOf (wsV RX0 118 RX0 yX0_hasSite wsX0_hasSite) := goodIn_app (goodIn_of _ (by decide +kernel)) ggX0_faultOf_X0_hasSite
set_option maxRecDepth 20000 in
theorem ggX0_faultOf_X0_faultOfDays : GoodIn wsX0_faultOf wsX0_faultOfDays := goodIn_r _ [31, 32, 37, 38, 39, 40, 41, 42, 43, 44, 45, 46, 47, 48, 49, 50, 51] (by decide +kernel) (by decide +kernel)
set_option maxRecDepth 20000 in
theorem gX0_faultOf_X0_faultOfDays : GoodIn wsX0_faultOf (wsV RX0 121 RX0 yX0_faultOfDays wsX0_faultOfDays) := goodIn_app (goodIn_of _ (by decide +kernel)) ggX0_faultOf_X0_faultOfDays
set_option maxRecDepth 20000 in
theorem ggX0_faultOf_X0_faultOfSetting : GoodIn wsX0_faultOf wsX0_faultOfSetting := goodIn_r _ [36] (by decide +kernel) (by decide +kernel)
set_option maxRecDepth 20000 in
theorem gX0_faultOf_X0_faultOfSetting : GoodIn wsX0_faultOf (wsV RX0 125 RX0 yX0_faultOfSetting wsX0_faultOfSetting) := goodIn_app (goodIn_of _ (by decide +kernel)) ggX0_faultOf_X0_faultOfSetting
theorem dX0_faultOf_0 : decode cX0_faultOf 0 = .ok (.iload_n 1, 1) := by decide +kernel
theorem dX0_faultOf_1 : decode cX0_faultOf 1 = .ok (.tableswitch 166 100 120 #[148, 157, 127, 166, 166, 166, 166, 166, 166, 166, 166, 166, 120, 166, 166, 99, 113, 166, 166, 164, 134], 99) := by decide +kernel
theorem dX0_faultOf_100 : decode cX0_faultOf 100 = .ok (.aload_n 0, 1) := by decide +kernel
theorem dX0_faultOf_101 : decode cX0_faultOf 101 = .ok (.getfield 43, 3) := by decide +kernel
theorem dX0_faultOf_104 : decode cX0_faultOf 104 = .ok (.iconst 4, 1) := by decide +kernel
theorem dX0_faultOf_105 : decode cX0_faultOf 105 = .ok (.if_icmp .ge 7, 3) := by decide +kernel
theorem dX0_faultOf_108 : decode cX0_faultOf 108 = .ok (.iconst 0, 1) := by decide +kernel
theorem dX0_faultOf_109 : decode cX0_faultOf 109 = .ok (.goto 4, 3) := by decide +kernel
theorem dX0_faultOf_112 : decode cX0_faultOf 112 = .ok (.iconst 3, 1) := by decide +kernel
theorem dX0_faultOf_113 : decode cX0_faultOf 113 = .ok (.ireturn, 1) := by decide +kernel
theorem dX0_faultOf_114 : decode cX0_faultOf 114 = .ok (.aload_n 0, 1) := by decide +kernel
theorem dX0_faultOf_115 : decode cX0_faultOf 115 = .ok (.iload_n 2, 1) := by decide +kernel
theorem dX0_faultOf_116 : decode cX0_faultOf 116 = .ok (.iload_n 3, 1) := by decide +kernel
theorem dX0_faultOf_117 : decode cX0_faultOf 117 = .ok (.invokevirtual 109, 3) := by decide +kernel
theorem dX0_faultOf_120 : decode cX0_faultOf 120 = .ok (.ireturn, 1) := by decide +kernel
theorem dX0_faultOf_121 : decode cX0_faultOf 121 = .ok (.aload_n 0, 1) := by decide +kernel
theorem dX0_faultOf_122 : decode cX0_faultOf 122 = .ok (.iload_n 2, 1) := by decide +kernel
theorem dX0_faultOf_123 : decode cX0_faultOf 123 = .ok (.iload_n 3, 1) := by decide +kernel
theorem dX0_faultOf_124 : decode cX0_faultOf 124 = .ok (.invokevirtual 112, 3) := by decide +kernel
theorem dX0_faultOf_127 : decode cX0_faultOf 127 = .ok (.ireturn, 1) := by decide +kernel
theorem dX0_faultOf_128 : decode cX0_faultOf 128 = .ok (.aload_n 0, 1) := by decide +kernel
theorem dX0_faultOf_129 : decode cX0_faultOf 129 = .ok (.iload_n 2, 1) := by decide +kernel
theorem dX0_faultOf_130 : decode cX0_faultOf 130 = .ok (.iload_n 3, 1) := by decide +kernel
theorem dX0_faultOf_131 : decode cX0_faultOf 131 = .ok (.invokevirtual 115, 3) := by decide +kernel
theorem dX0_faultOf_134 : decode cX0_faultOf 134 = .ok (.ireturn, 1) := by decide +kernel
theorem dX0_faultOf_135 : decode cX0_faultOf 135 = .ok (.aload_n 0, 1) := by decide +kernel
theorem dX0_faultOf_136 : decode cX0_faultOf 136 = .ok (.iload_n 2, 1) := by decide +kernel
theorem dX0_faultOf_137 : decode cX0_faultOf 137 = .ok (.invokevirtual 118, 3) := by decide +kernel
theorem dX0_faultOf_140 : decode cX0_faultOf 140 = .ok (.ifCond .eq 7, 3) := by decide +kernel
theorem dX0_faultOf_143 : decode cX0_faultOf 143 = .ok (.iconst 0, 1) := by decide +kernel
theorem dX0_faultOf_144 : decode cX0_faultOf 144 = .ok (.goto 4, 3) := by decide +kernel
theorem dX0_faultOf_147 : decode cX0_faultOf 147 = .ok (.iconst 1, 1) := by decide +kernel
theorem dX0_faultOf_148 : decode cX0_faultOf 148 = .ok (.ireturn, 1) := by decide +kernel
theorem dX0_faultOf_149 : decode cX0_faultOf 149 = .ok (.aload_n 0, 1) := by decide +kernel
theorem dX0_faultOf_150 : decode cX0_faultOf 150 = .ok (.iload_n 2, 1) := by decide +kernel
theorem dX0_faultOf_151 : decode cX0_faultOf 151 = .ok (.iload_n 3, 1) := by decide +kernel
theorem dX0_faultOf_152 : decode cX0_faultOf 152 = .ok (.iload 4, 2) := by decide +kernel
theorem dX0_faultOf_154 : decode cX0_faultOf 154 = .ok (.invokevirtual 121, 3) := by decide +kernel
theorem dX0_faultOf_157 : decode cX0_faultOf 157 = .ok (.ireturn, 1) := by decide +kernel
theorem dX0_faultOf_158 : decode cX0_faultOf 158 = .ok (.aload_n 0, 1) := by decide +kernel
theorem dX0_faultOf_159 : decode cX0_faultOf 159 = .ok (.iload_n 2, 1) := by decide +kernel
theorem dX0_faultOf_160 : decode cX0_faultOf 160 = .ok (.iload_n 3, 1) := by decide +kernel
theorem dX0_faultOf_161 : decode cX0_faultOf 161 = .ok (.invokevirtual 125, 3) := by decide +kernel
theorem dX0_faultOf_164 : decode cX0_faultOf 164 = .ok (.ireturn, 1) := by decide +kernel
theorem dX0_faultOf_165 : decode cX0_faultOf 165 = .ok (.iconst 0, 1) := by decide +kernel
theorem dX0_faultOf_166 : decode cX0_faultOf 166 = .ok (.ireturn, 1) := by decide +kernel
theorem dX0_faultOf_167 : decode cX0_faultOf 167 = .ok (.iconst 2, 1) := by decide +kernel
theorem dX0_faultOf_168 : decode cX0_faultOf 168 = .ok (.ireturn, 1) := by decide +kernel
set_option maxRecDepth 20000 in
theorem ggX0_faultOfTube_X0_hasSite : GoodIn wsX0_faultOfTube wsX0_hasSite := goodIn_r _ [6, 7, 8, 9, 10, 11, 12, 13, 14, 15, 16, 17, 18, 19, 20, 21, 22] (by decide +kernel) (by decide +kernel)
set_option maxRecDepth 20000 in
theorem gX0_faultOfTube_X0_hasSite : GoodIn wsX0_faultOfTube (wsV RX0 118 RX0 yX0_hasSite wsX0_hasSite) := goodIn_app (goodIn_of _ (by decide +kernel)) ggX0_faultOfTube_X0_hasSite
theorem dX0_faultOfTube_0 : decode cX0_faultOfTube 0 = .ok (.aload_n 0, 1) := by decide +kernel
theorem dX0_faultOfTube_1 : decode cX0_faultOfTube 1 = .ok (.iload_n 1, 1) := by decide +kernel
theorem dX0_faultOfTube_2 : decode cX0_faultOfTube 2 = .ok (.invokevirtual 118, 3) := by decide +kernel
theorem dX0_faultOfTube_5 : decode cX0_faultOfTube 5 = .ok (.ifCond .ne 5, 3) := by decide +kernel
theorem dX0_faultOfTube_8 : decode cX0_faultOfTube 8 = .ok (.iconst 1, 1) := by decide +kernel
theorem dX0_faultOfTube_9 : decode cX0_faultOfTube 9 = .ok (.ireturn, 1) := by decide +kernel
theorem dX0_faultOfTube_10 : decode cX0_faultOfTube 10 = .ok (.iload_n 2, 1) := by decide +kernel
theorem dX0_faultOfTube_11 : decode cX0_faultOfTube 11 = .ok (.iconst 1, 1) := by decide +kernel
theorem dX0_faultOfTube_12 : decode cX0_faultOfTube 12 = .ok (.if_icmp .lt 9, 3) := by decide +kernel
theorem dX0_faultOfTube_15 : decode cX0_faultOfTube 15 = .ok (.iload_n 2, 1) := by decide +kernel
theorem dX0_faultOfTube_16 : decode cX0_faultOfTube 16 = .ok (.bipush 30, 2) := by decide +kernel
theorem dX0_faultOfTube_18 : decode cX0_faultOfTube 18 = .ok (.if_icmp .le 5, 3) := by decide +kernel
theorem dX0_faultOfTube_21 : decode cX0_faultOfTube 21 = .ok (.iconst 2, 1) := by decide +kernel
theorem dX0_faultOfTube_22 : decode cX0_faultOfTube 22 = .ok (.ireturn, 1) := by decide +kernel
theorem dX0_faultOfTube_23 : decode cX0_faultOfTube 23 = .ok (.aload_n 0, 1) := by decide +kernel
theorem dX0_faultOfTube_24 : decode cX0_faultOfTube 24 = .ok (.getfield 47, 3) := by decide +kernel
theorem dX0_faultOfTube_27 : decode cX0_faultOfTube 27 = .ok (.bipush 8, 2) := by decide +kernel
theorem dX0_faultOfTube_29 : decode cX0_faultOfTube 29 = .ok (.if_icmp .ge 7, 3) := by decide +kernel
theorem dX0_faultOfTube_32 : decode cX0_faultOfTube 32 = .ok (.iconst 0, 1) := by decide +kernel
theorem dX0_faultOfTube_33 : decode cX0_faultOfTube 33 = .ok (.goto 4, 3) := by decide +kernel
theorem dX0_faultOfTube_36 : decode cX0_faultOfTube 36 = .ok (.iconst 3, 1) := by decide +kernel
theorem dX0_faultOfTube_37 : decode cX0_faultOfTube 37 = .ok (.ireturn, 1) := by decide +kernel
set_option maxRecDepth 20000 in
theorem ggX0_faultOfPipe_X0_hasSite : GoodIn wsX0_faultOfPipe wsX0_hasSite := goodIn_r _ [7, 8, 15, 16, 17, 18, 19, 20, 21, 22, 23, 24, 25, 26, 27, 28, 29] (by decide +kernel) (by decide +kernel)
set_option maxRecDepth 20000 in
theorem gX0_faultOfPipe_X0_hasSite : GoodIn wsX0_faultOfPipe (wsV RX0 118 RX0 yX0_hasSite wsX0_hasSite) := goodIn_app (goodIn_of _ (by decide +kernel)) ggX0_faultOfPipe_X0_hasSite
set_option maxRecDepth 20000 in
theorem ggX0_faultOfPipe_X2_isFrozen : GoodIn wsX0_faultOfPipe wsX2_isFrozen := goodIn_r _ [13, 14, 30, 31, 32, 33, 34, 35] (by decide +kernel) (by decide +kernel)
set_option maxRecDepth 20000 in
theorem gX0_faultOfPipe_X2_isFrozen : GoodIn wsX0_faultOfPipe (wsV RX0 92 RX2 yX2_isFrozen wsX2_isFrozen) := goodIn_app (goodIn_of _ (by decide +kernel)) ggX0_faultOfPipe_X2_isFrozen
theorem dX0_faultOfPipe_0 : decode cX0_faultOfPipe 0 = .ok (.aload_n 0, 1) := by decide +kernel
theorem dX0_faultOfPipe_1 : decode cX0_faultOfPipe 1 = .ok (.iload_n 1, 1) := by decide +kernel
theorem dX0_faultOfPipe_2 : decode cX0_faultOfPipe 2 = .ok (.invokevirtual 118, 3) := by decide +kernel
theorem dX0_faultOfPipe_5 : decode cX0_faultOfPipe 5 = .ok (.ifCond .eq 13, 3) := by decide +kernel
theorem dX0_faultOfPipe_8 : decode cX0_faultOfPipe 8 = .ok (.iload_n 2, 1) := by decide +kernel
theorem dX0_faultOfPipe_9 : decode cX0_faultOfPipe 9 = .ok (.ifCond .lt 9, 3) := by decide +kernel
theorem dX0_faultOfPipe_12 : decode cX0_faultOfPipe 12 = .ok (.iload_n 2, 1) := by decide +kernel
theorem dX0_faultOfPipe_13 : decode cX0_faultOfPipe 13 = .ok (.bipush 30, 2) := by decide +kernel
theorem dX0_faultOfPipe_15 : decode cX0_faultOfPipe 15 = .ok (.if_icmp .lt 5, 3) := by decide +kernel
theorem dX0_faultOfPipe_18 : decode cX0_faultOfPipe 18 = .ok (.iconst 1, 1) := by decide +kernel
theorem dX0_faultOfPipe_19 : decode cX0_faultOfPipe 19 = .ok (.ireturn, 1) := by decide +kernel
theorem dX0_faultOfPipe_20 : decode cX0_faultOfPipe 20 = .ok (.aload_n 0, 1) := by decide +kernel
theorem dX0_faultOfPipe_21 : decode cX0_faultOfPipe 21 = .ok (.getfield 50, 3) := by decide +kernel
theorem dX0_faultOfPipe_24 : decode cX0_faultOfPipe 24 = .ok (.bipush 8, 2) := by decide +kernel
theorem dX0_faultOfPipe_26 : decode cX0_faultOfPipe 26 = .ok (.if_icmp .ge 20, 3) := by decide +kernel
theorem dX0_faultOfPipe_29 : decode cX0_faultOfPipe 29 = .ok (.aload_n 0, 1) := by decide +kernel
theorem dX0_faultOfPipe_30 : decode cX0_faultOfPipe 30 = .ok (.getfield 17, 3) := by decide +kernel
theorem dX0_faultOfPipe_33 : decode cX0_faultOfPipe 33 = .ok (.iload_n 1, 1) := by decide +kernel
theorem dX0_faultOfPipe_34 : decode cX0_faultOfPipe 34 = .ok (.aaload, 1) := by decide +kernel
theorem dX0_faultOfPipe_35 : decode cX0_faultOfPipe 35 = .ok (.iload_n 2, 1) := by decide +kernel
theorem dX0_faultOfPipe_36 : decode cX0_faultOfPipe 36 = .ok (.invokevirtual 92, 3) := by decide +kernel
theorem dX0_faultOfPipe_39 : decode cX0_faultOfPipe 39 = .ok (.ifCond .ne 7, 3) := by decide +kernel
theorem dX0_faultOfPipe_42 : decode cX0_faultOfPipe 42 = .ok (.iconst 0, 1) := by decide +kernel
theorem dX0_faultOfPipe_43 : decode cX0_faultOfPipe 43 = .ok (.goto 4, 3) := by decide +kernel
theorem dX0_faultOfPipe_46 : decode cX0_faultOfPipe 46 = .ok (.iconst 3, 1) := by decide +kernel
theorem dX0_faultOfPipe_47 : decode cX0_faultOfPipe 47 = .ok (.ireturn, 1) := by decide +kernel
set_option maxRecDepth 20000 in
theorem ggX0_faultOfFence_X0_hasSite : GoodIn wsX0_faultOfFence wsX0_hasSite := goodIn_r _ [5, 6, 7, 8, 9, 10, 11, 12, 13, 14, 15, 16, 17, 18, 19, 20, 21] (by decide +kernel) (by decide +kernel)
set_option maxRecDepth 20000 in
theorem gX0_faultOfFence_X0_hasSite : GoodIn wsX0_faultOfFence (wsV RX0 118 RX0 yX0_hasSite wsX0_hasSite) := goodIn_app (goodIn_of _ (by decide +kernel)) ggX0_faultOfFence_X0_hasSite
theorem dX0_faultOfFence_0 : decode cX0_faultOfFence 0 = .ok (.aload_n 0, 1) := by decide +kernel
theorem dX0_faultOfFence_1 : decode cX0_faultOfFence 1 = .ok (.iload_n 1, 1) := by decide +kernel
theorem dX0_faultOfFence_2 : decode cX0_faultOfFence 2 = .ok (.invokevirtual 118, 3) := by decide +kernel
theorem dX0_faultOfFence_5 : decode cX0_faultOfFence 5 = .ok (.ifCond .ne 5, 3) := by decide +kernel
theorem dX0_faultOfFence_8 : decode cX0_faultOfFence 8 = .ok (.iconst 1, 1) := by decide +kernel
theorem dX0_faultOfFence_9 : decode cX0_faultOfFence 9 = .ok (.ireturn, 1) := by decide +kernel
theorem dX0_faultOfFence_10 : decode cX0_faultOfFence 10 = .ok (.iload_n 2, 1) := by decide +kernel
theorem dX0_faultOfFence_11 : decode cX0_faultOfFence 11 = .ok (.ifCond .lt 13, 3) := by decide +kernel
theorem dX0_faultOfFence_14 : decode cX0_faultOfFence 14 = .ok (.iload_n 2, 1) := by decide +kernel
theorem dX0_faultOfFence_15 : decode cX0_faultOfFence 15 = .ok (.bipush 20, 2) := by decide +kernel
theorem dX0_faultOfFence_17 : decode cX0_faultOfFence 17 = .ok (.if_icmp .gt 7, 3) := by decide +kernel
theorem dX0_faultOfFence_20 : decode cX0_faultOfFence 20 = .ok (.iconst 0, 1) := by decide +kernel
theorem dX0_faultOfFence_21 : decode cX0_faultOfFence 21 = .ok (.goto 4, 3) := by decide +kernel
theorem dX0_faultOfFence_24 : decode cX0_faultOfFence 24 = .ok (.iconst 2, 1) := by decide +kernel
theorem dX0_faultOfFence_25 : decode cX0_faultOfFence 25 = .ok (.ireturn, 1) := by decide +kernel
theorem dX0_faultOfDays_0 : decode cX0_faultOfDays 0 = .ok (.iload_n 1, 1) := by decide +kernel
theorem dX0_faultOfDays_1 : decode cX0_faultOfDays 1 = .ok (.bipush (-30), 2) := by decide +kernel
theorem dX0_faultOfDays_3 : decode cX0_faultOfDays 3 = .ok (.if_icmp .lt 30, 3) := by decide +kernel
theorem dX0_faultOfDays_6 : decode cX0_faultOfDays 6 = .ok (.iload_n 1, 1) := by decide +kernel
theorem dX0_faultOfDays_7 : decode cX0_faultOfDays 7 = .ok (.bipush 30, 2) := by decide +kernel
theorem dX0_faultOfDays_9 : decode cX0_faultOfDays 9 = .ok (.if_icmp .gt 24, 3) := by decide +kernel
theorem dX0_faultOfDays_12 : decode cX0_faultOfDays 12 = .ok (.iload_n 2, 1) := by decide +kernel
theorem dX0_faultOfDays_13 : decode cX0_faultOfDays 13 = .ok (.ifCond .lt 20, 3) := by decide +kernel
theorem dX0_faultOfDays_16 : decode cX0_faultOfDays 16 = .ok (.iload_n 2, 1) := by decide +kernel
theorem dX0_faultOfDays_17 : decode cX0_faultOfDays 17 = .ok (.bipush 30, 2) := by decide +kernel
theorem dX0_faultOfDays_19 : decode cX0_faultOfDays 19 = .ok (.if_icmp .gt 14, 3) := by decide +kernel
theorem dX0_faultOfDays_22 : decode cX0_faultOfDays 22 = .ok (.iload_n 3, 1) := by decide +kernel
theorem dX0_faultOfDays_23 : decode cX0_faultOfDays 23 = .ok (.iconst 1, 1) := by decide +kernel
theorem dX0_faultOfDays_24 : decode cX0_faultOfDays 24 = .ok (.if_icmp .lt 9, 3) := by decide +kernel
theorem dX0_faultOfDays_27 : decode cX0_faultOfDays 27 = .ok (.iload_n 3, 1) := by decide +kernel
theorem dX0_faultOfDays_28 : decode cX0_faultOfDays 28 = .ok (.bipush 60, 2) := by decide +kernel
theorem dX0_faultOfDays_30 : decode cX0_faultOfDays 30 = .ok (.if_icmp .le 5, 3) := by decide +kernel
theorem dX0_faultOfDays_33 : decode cX0_faultOfDays 33 = .ok (.iconst 2, 1) := by decide +kernel
theorem dX0_faultOfDays_34 : decode cX0_faultOfDays 34 = .ok (.ireturn, 1) := by decide +kernel
theorem dX0_faultOfDays_35 : decode cX0_faultOfDays 35 = .ok (.aload_n 0, 1) := by decide +kernel
theorem dX0_faultOfDays_36 : decode cX0_faultOfDays 36 = .ok (.getfield 53, 3) := by decide +kernel
theorem dX0_faultOfDays_39 : decode cX0_faultOfDays 39 = .ok (.iload_n 3, 1) := by decide +kernel
theorem dX0_faultOfDays_40 : decode cX0_faultOfDays 40 = .ok (.iadd, 1) := by decide +kernel
theorem dX0_faultOfDays_41 : decode cX0_faultOfDays 41 = .ok (.sipush 9999, 3) := by decide +kernel
theorem dX0_faultOfDays_44 : decode cX0_faultOfDays 44 = .ok (.if_icmp .gt 7, 3) := by decide +kernel
theorem dX0_faultOfDays_47 : decode cX0_faultOfDays 47 = .ok (.iconst 0, 1) := by decide +kernel
theorem dX0_faultOfDays_48 : decode cX0_faultOfDays 48 = .ok (.goto 4, 3) := by decide +kernel
theorem dX0_faultOfDays_51 : decode cX0_faultOfDays 51 = .ok (.iconst 3, 1) := by decide +kernel
theorem dX0_faultOfDays_52 : decode cX0_faultOfDays 52 = .ok (.ireturn, 1) := by decide +kernel
theorem dX0_faultOfSetting_0 : decode cX0_faultOfSetting 0 = .ok (.iload_n 1, 1) := by decide +kernel
theorem dX0_faultOfSetting_1 : decode cX0_faultOfSetting 1 = .ok (.ifCond .lt 8, 3) := by decide +kernel
theorem dX0_faultOfSetting_4 : decode cX0_faultOfSetting 4 = .ok (.iload_n 1, 1) := by decide +kernel
theorem dX0_faultOfSetting_5 : decode cX0_faultOfSetting 5 = .ok (.iconst 3, 1) := by decide +kernel
theorem dX0_faultOfSetting_6 : decode cX0_faultOfSetting 6 = .ok (.if_icmp .lt 5, 3) := by decide +kernel
theorem dX0_faultOfSetting_9 : decode cX0_faultOfSetting 9 = .ok (.iconst 2, 1) := by decide +kernel
theorem dX0_faultOfSetting_10 : decode cX0_faultOfSetting 10 = .ok (.ireturn, 1) := by decide +kernel
theorem dX0_faultOfSetting_11 : decode cX0_faultOfSetting 11 = .ok (.iload_n 2, 1) := by decide +kernel
theorem dX0_faultOfSetting_12 : decode cX0_faultOfSetting 12 = .ok (.getstatic 128, 3) := by decide +kernel
theorem dX0_faultOfSetting_15 : decode cX0_faultOfSetting 15 = .ok (.iload_n 1, 1) := by decide +kernel
theorem dX0_faultOfSetting_16 : decode cX0_faultOfSetting 16 = .ok (.iaload, 1) := by decide +kernel
theorem dX0_faultOfSetting_17 : decode cX0_faultOfSetting 17 = .ok (.if_icmp .lt 16, 3) := by decide +kernel
theorem dX0_faultOfSetting_20 : decode cX0_faultOfSetting 20 = .ok (.iload_n 2, 1) := by decide +kernel
theorem dX0_faultOfSetting_21 : decode cX0_faultOfSetting 21 = .ok (.getstatic 131, 3) := by decide +kernel
theorem dX0_faultOfSetting_24 : decode cX0_faultOfSetting 24 = .ok (.iload_n 1, 1) := by decide +kernel
theorem dX0_faultOfSetting_25 : decode cX0_faultOfSetting 25 = .ok (.iaload, 1) := by decide +kernel
theorem dX0_faultOfSetting_26 : decode cX0_faultOfSetting 26 = .ok (.if_icmp .gt 7, 3) := by decide +kernel
theorem dX0_faultOfSetting_29 : decode cX0_faultOfSetting 29 = .ok (.iconst 0, 1) := by decide +kernel
theorem dX0_faultOfSetting_30 : decode cX0_faultOfSetting 30 = .ok (.goto 4, 3) := by decide +kernel
theorem dX0_faultOfSetting_33 : decode cX0_faultOfSetting 33 = .ok (.iconst 2, 1) := by decide +kernel
theorem dX0_faultOfSetting_34 : decode cX0_faultOfSetting 34 = .ok (.ireturn, 1) := by decide +kernel
set_option maxRecDepth 20000 in
theorem ggX0_perform_X0_faultOf : GoodIn wsX0_perform wsX0_faultOf := goodIn_r _ [6, 1, 7, 8, 9, 5, 10, 11, 12, 13, 14, 15, 16, 17, 18, 19, 20, 21, 22, 23, 24, 25, 26, 27, 28, 29, 30, 31, 32, 33, 34, 35, 36, 37, 38, 39, 40, 134, 135, 136, 137, 138, 139, 140, 141, 142, 143, 144, 145, 146, 147, 148, 149, 150, 151, 152, 153, 154] (by decide +kernel) (by decide +kernel)
set_option maxRecDepth 20000 in
theorem gX0_perform_X0_faultOf : GoodIn wsX0_perform (wsV RX0 134 RX0 yX0_faultOf wsX0_faultOf) := goodIn_app (goodIn_of _ (by decide +kernel)) ggX0_perform_X0_faultOf
set_option maxRecDepth 20000 in
theorem ggX0_perform_X0_addTube : GoodIn wsX0_perform wsX0_addTube := goodIn_r _ [44, 45, 11, 46, 134, 135, 136, 137, 138, 139, 140, 141, 142, 143, 144, 145, 146, 147, 148] (by decide +kernel) (by decide +kernel)
set_option maxRecDepth 20000 in
theorem gX0_perform_X0_addTube : GoodIn wsX0_perform (wsV RX0 138 RX0 yX0_addTube wsX0_addTube) := goodIn_app (goodIn_of _ (by decide +kernel)) ggX0_perform_X0_addTube
set_option maxRecDepth 20000 in
theorem ggX0_perform_X0_addPipe : GoodIn wsX0_perform wsX0_addPipe := goodIn_r _ [50, 51, 20, 52, 134, 135, 136, 137, 138, 139, 140, 141, 142, 143, 144, 145, 146, 147, 148] (by decide +kernel) (by decide +kernel)
set_option maxRecDepth 20000 in
theorem gX0_perform_X0_addPipe : GoodIn wsX0_perform (wsV RX0 141 RX0 yX0_addPipe wsX0_addPipe) := goodIn_app (goodIn_of _ (by decide +kernel)) ggX0_perform_X0_addPipe
set_option maxRecDepth 20000 in
theorem ggX0_perform_X0_buildFence : GoodIn wsX0_perform wsX0_buildFence := goodIn_r _ [56, 21, 57, 134, 135, 136, 137, 138, 139, 140, 141, 142, 143, 144, 145, 146, 147, 148, 149, 150, 151, 152, 153, 154] (by decide +kernel) (by decide +kernel)
set_option maxRecDepth 20000 in
theorem gX0_perform_X0_buildFence : GoodIn wsX0_perform (wsV RX0 144 RX0 yX0_buildFence wsX0_buildFence) := goodIn_app (goodIn_of _ (by decide +kernel)) ggX0_perform_X0_buildFence
set_option maxRecDepth 20000 in
theorem ggX0_perform_X0_clearSnow : GoodIn wsX0_perform wsX0_clearSnow := goodIn_r _ [61, 21, 62, 134, 135, 136, 137, 138, 139, 140, 141, 142, 143, 144, 145, 146, 147, 148, 149, 150, 151, 152, 153, 154] (by decide +kernel) (by decide +kernel)
set_option maxRecDepth 20000 in
theorem gX0_perform_X0_clearSnow : GoodIn wsX0_perform (wsV RX0 147 RX0 yX0_clearSnow wsX0_clearSnow) := goodIn_app (goodIn_of _ (by decide +kernel)) ggX0_perform_X0_clearSnow
set_option maxRecDepth 20000 in
theorem ggX0_perform_X0_passDays : GoodIn wsX0_perform wsX0_passDays := goodIn_r _ [66, 36, 1, 67, 68, 69, 5, 70, 21, 71, 72, 73, 74, 75, 76, 25, 77, 78, 79, 80, 81, 82, 83, 84, 85, 86, 87, 88, 89, 90, 22, 23, 24, 26, 27, 91, 92, 93, 94, 95, 20, 51, 52, 96, 97, 98, 99, 100, 101, 102, 103, 104, 105, 106, 107, 108, 109, 110, 111, 112, 113, 114, 115, 116, 117, 118, 134, 135, 136, 137, 138, 139, 140, 141, 142, 143, 144, 145, 146, 147, 148, 149, 150, 151, 152, 153, 154] (by decide +kernel) (by decide +kernel)
set_option maxRecDepth 20000 in
theorem gX0_perform_X0_passDays : GoodIn wsX0_perform (wsV RX0 150 RX0 yX0_passDays wsX0_passDays) := goodIn_app (goodIn_of _ (by decide +kernel)) ggX0_perform_X0_passDays
set_option maxRecDepth 20000 in
theorem ggX0_perform_X0_changeSetting : GoodIn wsX0_perform wsX0_changeSetting := goodIn_r _ [122, 71, 134, 135, 136, 137, 138, 139, 140, 141, 142, 143, 144, 145, 146, 147, 148] (by decide +kernel) (by decide +kernel)
set_option maxRecDepth 20000 in
theorem gX0_perform_X0_changeSetting : GoodIn wsX0_perform (wsV RX0 153 RX0 yX0_changeSetting wsX0_changeSetting) := goodIn_app (goodIn_of _ (by decide +kernel)) ggX0_perform_X0_changeSetting
set_option maxRecDepth 20000 in
theorem ggX0_perform_X0_beginWinter : GoodIn wsX0_perform wsX0_beginWinter := goodIn_r _ [126, 127, 98, 99, 82, 100, 128, 1, 21, 129, 130, 131, 132, 5, 133, 134, 135, 136, 137, 138, 139, 140, 141, 142, 143, 144, 145, 146, 147, 148, 149, 150, 151, 152, 153, 154] (by decide +kernel) (by decide +kernel)
set_option maxRecDepth 20000 in
theorem gX0_perform_X0_beginWinter : GoodIn wsX0_perform (wsV RX0 156 RX0 yX0_beginWinter wsX0_beginWinter) := goodIn_app (goodIn_of _ (by decide +kernel)) ggX0_perform_X0_beginWinter
theorem dX0_perform_0 : decode cX0_perform 0 = .ok (.aload_n 0, 1) := by decide +kernel
theorem dX0_perform_1 : decode cX0_perform 1 = .ok (.iload_n 1, 1) := by decide +kernel
theorem dX0_perform_2 : decode cX0_perform 2 = .ok (.iload_n 2, 1) := by decide +kernel
theorem dX0_perform_3 : decode cX0_perform 3 = .ok (.iload_n 3, 1) := by decide +kernel
theorem dX0_perform_4 : decode cX0_perform 4 = .ok (.iload 4, 2) := by decide +kernel
theorem dX0_perform_6 : decode cX0_perform 6 = .ok (.invokevirtual 134, 3) := by decide +kernel
theorem dX0_perform_9 : decode cX0_perform 9 = .ok (.ifCond .eq 5, 3) := by decide +kernel
theorem dX0_perform_12 : decode cX0_perform 12 = .ok (.iconst (-1), 1) := by decide +kernel
theorem dX0_perform_13 : decode cX0_perform 13 = .ok (.ireturn, 1) := by decide +kernel
theorem dX0_perform_14 : decode cX0_perform 14 = .ok (.iload_n 1, 1) := by decide +kernel
theorem dX0_perform_15 : decode cX0_perform 15 = .ok (.tableswitch 157 100 120 #[136, 145, 123, 157, 157, 157, 157, 157, 157, 157, 157, 157, 116, 157, 157, 97, 109, 157, 157, 152, 130], 97) := by decide +kernel
theorem dX0_perform_112 : decode cX0_perform 112 = .ok (.aload_n 0, 1) := by decide +kernel
theorem dX0_perform_113 : decode cX0_perform 113 = .ok (.dup, 1) := by decide +kernel
theorem dX0_perform_114 : decode cX0_perform 114 = .ok (.getfield 43, 3) := by decide +kernel
theorem dX0_perform_117 : decode cX0_perform 117 = .ok (.dup_x1, 1) := by decide +kernel
theorem dX0_perform_118 : decode cX0_perform 118 = .ok (.iconst 1, 1) := by decide +kernel
theorem dX0_perform_119 : decode cX0_perform 119 = .ok (.iadd, 1) := by decide +kernel
theorem dX0_perform_120 : decode cX0_perform 120 = .ok (.putfield 43, 3) := by decide +kernel
theorem dX0_perform_123 : decode cX0_perform 123 = .ok (.ireturn, 1) := by decide +kernel
theorem dX0_perform_124 : decode cX0_perform 124 = .ok (.aload_n 0, 1) := by decide +kernel
theorem dX0_perform_125 : decode cX0_perform 125 = .ok (.iload_n 2, 1) := by decide +kernel
theorem dX0_perform_126 : decode cX0_perform 126 = .ok (.iload_n 3, 1) := by decide +kernel
theorem dX0_perform_127 : decode cX0_perform 127 = .ok (.invokevirtual 138, 3) := by decide +kernel
theorem dX0_perform_130 : decode cX0_perform 130 = .ok (.ireturn, 1) := by decide +kernel
theorem dX0_perform_131 : decode cX0_perform 131 = .ok (.aload_n 0, 1) := by decide +kernel
theorem dX0_perform_132 : decode cX0_perform 132 = .ok (.iload_n 2, 1) := by decide +kernel
theorem dX0_perform_133 : decode cX0_perform 133 = .ok (.iload_n 3, 1) := by decide +kernel
theorem dX0_perform_134 : decode cX0_perform 134 = .ok (.invokevirtual 141, 3) := by decide +kernel
theorem dX0_perform_137 : decode cX0_perform 137 = .ok (.ireturn, 1) := by decide +kernel
theorem dX0_perform_138 : decode cX0_perform 138 = .ok (.aload_n 0, 1) := by decide +kernel
theorem dX0_perform_139 : decode cX0_perform 139 = .ok (.iload_n 2, 1) := by decide +kernel
theorem dX0_perform_140 : decode cX0_perform 140 = .ok (.iload_n 3, 1) := by decide +kernel
theorem dX0_perform_141 : decode cX0_perform 141 = .ok (.invokevirtual 144, 3) := by decide +kernel
theorem dX0_perform_144 : decode cX0_perform 144 = .ok (.ireturn, 1) := by decide +kernel
theorem dX0_perform_145 : decode cX0_perform 145 = .ok (.aload_n 0, 1) := by decide +kernel
theorem dX0_perform_146 : decode cX0_perform 146 = .ok (.iload_n 2, 1) := by decide +kernel
theorem dX0_perform_147 : decode cX0_perform 147 = .ok (.invokevirtual 147, 3) := by decide +kernel
theorem dX0_perform_150 : decode cX0_perform 150 = .ok (.ireturn, 1) := by decide +kernel
theorem dX0_perform_151 : decode cX0_perform 151 = .ok (.aload_n 0, 1) := by decide +kernel
theorem dX0_perform_152 : decode cX0_perform 152 = .ok (.iload_n 2, 1) := by decide +kernel
theorem dX0_perform_153 : decode cX0_perform 153 = .ok (.iload_n 3, 1) := by decide +kernel
theorem dX0_perform_154 : decode cX0_perform 154 = .ok (.iload 4, 2) := by decide +kernel
theorem dX0_perform_156 : decode cX0_perform 156 = .ok (.invokevirtual 150, 3) := by decide +kernel
theorem dX0_perform_159 : decode cX0_perform 159 = .ok (.ireturn, 1) := by decide +kernel
theorem dX0_perform_160 : decode cX0_perform 160 = .ok (.aload_n 0, 1) := by decide +kernel
theorem dX0_perform_161 : decode cX0_perform 161 = .ok (.iload_n 2, 1) := by decide +kernel
theorem dX0_perform_162 : decode cX0_perform 162 = .ok (.iload_n 3, 1) := by decide +kernel
theorem dX0_perform_163 : decode cX0_perform 163 = .ok (.invokevirtual 153, 3) := by decide +kernel
theorem dX0_perform_166 : decode cX0_perform 166 = .ok (.ireturn, 1) := by decide +kernel
theorem dX0_perform_167 : decode cX0_perform 167 = .ok (.aload_n 0, 1) := by decide +kernel
theorem dX0_perform_168 : decode cX0_perform 168 = .ok (.invokevirtual 156, 3) := by decide +kernel
theorem dX0_perform_171 : decode cX0_perform 171 = .ok (.ireturn, 1) := by decide +kernel
theorem dX0_perform_172 : decode cX0_perform 172 = .ok (.iconst (-1), 1) := by decide +kernel
theorem dX0_perform_173 : decode cX0_perform 173 = .ok (.ireturn, 1) := by decide +kernel
theorem dX0_addTube_0 : decode cX0_addTube 0 = .ok (.aload_n 0, 1) := by decide +kernel
theorem dX0_addTube_1 : decode cX0_addTube 1 = .ok (.getfield 21, 3) := by decide +kernel
theorem dX0_addTube_4 : decode cX0_addTube 4 = .ok (.aload_n 0, 1) := by decide +kernel
theorem dX0_addTube_5 : decode cX0_addTube 5 = .ok (.getfield 47, 3) := by decide +kernel
theorem dX0_addTube_8 : decode cX0_addTube 8 = .ok (.iload_n 1, 1) := by decide +kernel
theorem dX0_addTube_9 : decode cX0_addTube 9 = .ok (.iastore, 1) := by decide +kernel
theorem dX0_addTube_10 : decode cX0_addTube 10 = .ok (.aload_n 0, 1) := by decide +kernel
theorem dX0_addTube_11 : decode cX0_addTube 11 = .ok (.getfield 24, 3) := by decide +kernel
theorem dX0_addTube_14 : decode cX0_addTube 14 = .ok (.aload_n 0, 1) := by decide +kernel
theorem dX0_addTube_15 : decode cX0_addTube 15 = .ok (.getfield 47, 3) := by decide +kernel
theorem dX0_addTube_18 : decode cX0_addTube 18 = .ok (.iload_n 2, 1) := by decide +kernel
theorem dX0_addTube_19 : decode cX0_addTube 19 = .ok (.iastore, 1) := by decide +kernel
theorem dX0_addTube_20 : decode cX0_addTube 20 = .ok (.aload_n 0, 1) := by decide +kernel
theorem dX0_addTube_21 : decode cX0_addTube 21 = .ok (.dup, 1) := by decide +kernel
theorem dX0_addTube_22 : decode cX0_addTube 22 = .ok (.getfield 47, 3) := by decide +kernel
theorem dX0_addTube_25 : decode cX0_addTube 25 = .ok (.dup_x1, 1) := by decide +kernel
theorem dX0_addTube_26 : decode cX0_addTube 26 = .ok (.iconst 1, 1) := by decide +kernel
theorem dX0_addTube_27 : decode cX0_addTube 27 = .ok (.iadd, 1) := by decide +kernel
theorem dX0_addTube_28 : decode cX0_addTube 28 = .ok (.putfield 47, 3) := by decide +kernel
theorem dX0_addTube_31 : decode cX0_addTube 31 = .ok (.ireturn, 1) := by decide +kernel
theorem dX0_addPipe_0 : decode cX0_addPipe 0 = .ok (.aload_n 0, 1) := by decide +kernel
theorem dX0_addPipe_1 : decode cX0_addPipe 1 = .ok (.getfield 27, 3) := by decide +kernel
theorem dX0_addPipe_4 : decode cX0_addPipe 4 = .ok (.aload_n 0, 1) := by decide +kernel
theorem dX0_addPipe_5 : decode cX0_addPipe 5 = .ok (.getfield 50, 3) := by decide +kernel
theorem dX0_addPipe_8 : decode cX0_addPipe 8 = .ok (.iload_n 1, 1) := by decide +kernel
theorem dX0_addPipe_9 : decode cX0_addPipe 9 = .ok (.iastore, 1) := by decide +kernel
theorem dX0_addPipe_10 : decode cX0_addPipe 10 = .ok (.aload_n 0, 1) := by decide +kernel
theorem dX0_addPipe_11 : decode cX0_addPipe 11 = .ok (.getfield 30, 3) := by decide +kernel
theorem dX0_addPipe_14 : decode cX0_addPipe 14 = .ok (.aload_n 0, 1) := by decide +kernel
theorem dX0_addPipe_15 : decode cX0_addPipe 15 = .ok (.getfield 50, 3) := by decide +kernel
theorem dX0_addPipe_18 : decode cX0_addPipe 18 = .ok (.iload_n 2, 1) := by decide +kernel
theorem dX0_addPipe_19 : decode cX0_addPipe 19 = .ok (.iastore, 1) := by decide +kernel
theorem dX0_addPipe_20 : decode cX0_addPipe 20 = .ok (.aload_n 0, 1) := by decide +kernel
theorem dX0_addPipe_21 : decode cX0_addPipe 21 = .ok (.dup, 1) := by decide +kernel
theorem dX0_addPipe_22 : decode cX0_addPipe 22 = .ok (.getfield 50, 3) := by decide +kernel
theorem dX0_addPipe_25 : decode cX0_addPipe 25 = .ok (.dup_x1, 1) := by decide +kernel
theorem dX0_addPipe_26 : decode cX0_addPipe 26 = .ok (.iconst 1, 1) := by decide +kernel
theorem dX0_addPipe_27 : decode cX0_addPipe 27 = .ok (.iadd, 1) := by decide +kernel
theorem dX0_addPipe_28 : decode cX0_addPipe 28 = .ok (.putfield 50, 3) := by decide +kernel
theorem dX0_addPipe_31 : decode cX0_addPipe 31 = .ok (.ireturn, 1) := by decide +kernel
theorem dX0_buildFence_0 : decode cX0_buildFence 0 = .ok (.aload_n 0, 1) := by decide +kernel
theorem dX0_buildFence_1 : decode cX0_buildFence 1 = .ok (.getfield 17, 3) := by decide +kernel
theorem dX0_buildFence_4 : decode cX0_buildFence 4 = .ok (.iload_n 1, 1) := by decide +kernel
theorem dX0_buildFence_5 : decode cX0_buildFence 5 = .ok (.aaload, 1) := by decide +kernel
theorem dX0_buildFence_6 : decode cX0_buildFence 6 = .ok (.getfield 159, 3) := by decide +kernel
theorem dX0_buildFence_9 : decode cX0_buildFence 9 = .ok (.istore_n 3, 1) := by decide +kernel
theorem dX0_buildFence_10 : decode cX0_buildFence 10 = .ok (.aload_n 0, 1) := by decide +kernel
theorem dX0_buildFence_11 : decode cX0_buildFence 11 = .ok (.getfield 17, 3) := by decide +kernel
theorem dX0_buildFence_14 : decode cX0_buildFence 14 = .ok (.iload_n 1, 1) := by decide +kernel
theorem dX0_buildFence_15 : decode cX0_buildFence 15 = .ok (.aaload, 1) := by decide +kernel
theorem dX0_buildFence_16 : decode cX0_buildFence 16 = .ok (.iload_n 2, 1) := by decide +kernel
theorem dX0_buildFence_17 : decode cX0_buildFence 17 = .ok (.putfield 159, 3) := by decide +kernel
theorem dX0_buildFence_20 : decode cX0_buildFence 20 = .ok (.iload_n 3, 1) := by decide +kernel
theorem dX0_buildFence_21 : decode cX0_buildFence 21 = .ok (.ireturn, 1) := by decide +kernel
theorem dX0_clearSnow_0 : decode cX0_clearSnow 0 = .ok (.aload_n 0, 1) := by decide +kernel
theorem dX0_clearSnow_1 : decode cX0_clearSnow 1 = .ok (.getfield 17, 3) := by decide +kernel
theorem dX0_clearSnow_4 : decode cX0_clearSnow 4 = .ok (.iload_n 1, 1) := by decide +kernel
theorem dX0_clearSnow_5 : decode cX0_clearSnow 5 = .ok (.aaload, 1) := by decide +kernel
theorem dX0_clearSnow_6 : decode cX0_clearSnow 6 = .ok (.getfield 162, 3) := by decide +kernel
theorem dX0_clearSnow_9 : decode cX0_clearSnow 9 = .ok (.istore_n 2, 1) := by decide +kernel
theorem dX0_clearSnow_10 : decode cX0_clearSnow 10 = .ok (.aload_n 0, 1) := by decide +kernel
theorem dX0_clearSnow_11 : decode cX0_clearSnow 11 = .ok (.getfield 17, 3) := by decide +kernel
theorem dX0_clearSnow_14 : decode cX0_clearSnow 14 = .ok (.iload_n 1, 1) := by decide +kernel
theorem dX0_clearSnow_15 : decode cX0_clearSnow 15 = .ok (.aaload, 1) := by decide +kernel
theorem dX0_clearSnow_16 : decode cX0_clearSnow 16 = .ok (.iconst 0, 1) := by decide +kernel
theorem dX0_clearSnow_17 : decode cX0_clearSnow 17 = .ok (.putfield 162, 3) := by decide +kernel
theorem dX0_clearSnow_20 : decode cX0_clearSnow 20 = .ok (.iload_n 2, 1) := by decide +kernel
theorem dX0_clearSnow_21 : decode cX0_clearSnow 21 = .ok (.ireturn, 1) := by decide +kernel
theorem dX0_changeSetting_0 : decode cX0_changeSetting 0 = .ok (.aload_n 0, 1) := by decide +kernel
theorem dX0_changeSetting_1 : decode cX0_changeSetting 1 = .ok (.getfield 11, 3) := by decide +kernel
theorem dX0_changeSetting_4 : decode cX0_changeSetting 4 = .ok (.iload_n 1, 1) := by decide +kernel
theorem dX0_changeSetting_5 : decode cX0_changeSetting 5 = .ok (.iaload, 1) := by decide +kernel
theorem dX0_changeSetting_6 : decode cX0_changeSetting 6 = .ok (.istore_n 3, 1) := by decide +kernel
theorem dX0_changeSetting_7 : decode cX0_changeSetting 7 = .ok (.aload_n 0, 1) := by decide +kernel
theorem dX0_changeSetting_8 : decode cX0_changeSetting 8 = .ok (.getfield 11, 3) := by decide +kernel
theorem dX0_changeSetting_11 : decode cX0_changeSetting 11 = .ok (.iload_n 1, 1) := by decide +kernel
theorem dX0_changeSetting_12 : decode cX0_changeSetting 12 = .ok (.iload_n 2, 1) := by decide +kernel
theorem dX0_changeSetting_13 : decode cX0_changeSetting 13 = .ok (.iastore, 1) := by decide +kernel
theorem dX0_changeSetting_14 : decode cX0_changeSetting 14 = .ok (.iload_n 3, 1) := by decide +kernel
theorem dX0_changeSetting_15 : decode cX0_changeSetting 15 = .ok (.ireturn, 1) := by decide +kernel
set_option maxRecDepth 20000 in
theorem ggX0_beginWinter_X0_greatestSumNow : GoodIn wsX0_beginWinter wsX0_greatestSumNow := goodIn_r _ [14, 7, 8, 9, 2, 3, 4, 5, 15, 16, 17, 18, 19, 20, 21, 22, 23, 24, 25, 26, 27, 28, 29, 30, 31, 32, 33, 34, 35] (by decide +kernel) (by decide +kernel)
set_option maxRecDepth 20000 in
theorem gX0_beginWinter_X0_greatestSumNow : GoodIn wsX0_beginWinter (wsV RX0 165 RX0 yX0_greatestSumNow wsX0_greatestSumNow) := goodIn_app (goodIn_of _ (by decide +kernel)) ggX0_beginWinter_X0_greatestSumNow
theorem dX0_beginWinter_0 : decode cX0_beginWinter 0 = .ok (.aload_n 0, 1) := by decide +kernel
theorem dX0_beginWinter_1 : decode cX0_beginWinter 1 = .ok (.invokevirtual 165, 3) := by decide +kernel
theorem dX0_beginWinter_4 : decode cX0_beginWinter 4 = .ok (.istore_n 1, 1) := by decide +kernel
theorem dX0_beginWinter_5 : decode cX0_beginWinter 5 = .ok (.aload_n 0, 1) := by decide +kernel
theorem dX0_beginWinter_6 : decode cX0_beginWinter 6 = .ok (.aload_n 0, 1) := by decide +kernel
theorem dX0_beginWinter_7 : decode cX0_beginWinter 7 = .ok (.getfield 59, 3) := by decide +kernel
theorem dX0_beginWinter_10 : decode cX0_beginWinter 10 = .ok (.iload_n 1, 1) := by decide +kernel
theorem dX0_beginWinter_11 : decode cX0_beginWinter 11 = .ok (.invokestatic 82, 3) := by decide +kernel
theorem dX0_beginWinter_14 : decode cX0_beginWinter 14 = .ok (.putfield 59, 3) := by decide +kernel
theorem dX0_beginWinter_17 : decode cX0_beginWinter 17 = .ok (.aload_n 0, 1) := by decide +kernel
theorem dX0_beginWinter_18 : decode cX0_beginWinter 18 = .ok (.dup, 1) := by decide +kernel
theorem dX0_beginWinter_19 : decode cX0_beginWinter 19 = .ok (.getfield 56, 3) := by decide +kernel
theorem dX0_beginWinter_22 : decode cX0_beginWinter 22 = .ok (.iconst 1, 1) := by decide +kernel
theorem dX0_beginWinter_23 : decode cX0_beginWinter 23 = .ok (.iadd, 1) := by decide +kernel
theorem dX0_beginWinter_24 : decode cX0_beginWinter 24 = .ok (.putfield 56, 3) := by decide +kernel
theorem dX0_beginWinter_27 : decode cX0_beginWinter 27 = .ok (.iconst 0, 1) := by decide +kernel
theorem dX0_beginWinter_28 : decode cX0_beginWinter 28 = .ok (.istore_n 2, 1) := by decide +kernel
theorem dX0_beginWinter_29 : decode cX0_beginWinter 29 = .ok (.iload_n 2, 1) := by decide +kernel
theorem dX0_beginWinter_30 : decode cX0_beginWinter 30 = .ok (.aload_n 0, 1) := by decide +kernel
theorem dX0_beginWinter_31 : decode cX0_beginWinter 31 = .ok (.getfield 43, 3) := by decide +kernel
theorem dX0_beginWinter_34 : decode cX0_beginWinter 34 = .ok (.if_icmp .ge 19, 3) := by decide +kernel
theorem dX0_beginWinter_37 : decode cX0_beginWinter 37 = .ok (.aload_n 0, 1) := by decide +kernel
theorem dX0_beginWinter_38 : decode cX0_beginWinter 38 = .ok (.getfield 17, 3) := by decide +kernel
theorem dX0_beginWinter_41 : decode cX0_beginWinter 41 = .ok (.iload_n 2, 1) := by decide +kernel
theorem dX0_beginWinter_42 : decode cX0_beginWinter 42 = .ok (.aaload, 1) := by decide +kernel
theorem dX0_beginWinter_43 : decode cX0_beginWinter 43 = .ok (.iconst 0, 1) := by decide +kernel
theorem dX0_beginWinter_44 : decode cX0_beginWinter 44 = .ok (.putfield 79, 3) := by decide +kernel
theorem dX0_beginWinter_47 : decode cX0_beginWinter 47 = .ok (.iinc 2 1, 3) := by decide +kernel
theorem dX0_beginWinter_50 : decode cX0_beginWinter 50 = .ok (.goto (-21), 3) := by decide +kernel
theorem dX0_beginWinter_53 : decode cX0_beginWinter 53 = .ok (.iload_n 1, 1) := by decide +kernel
theorem dX0_beginWinter_54 : decode cX0_beginWinter 54 = .ok (.ireturn, 1) := by decide +kernel
set_option maxRecDepth 20000 in
theorem ggX0_passDays_X0_passDay : GoodIn wsX0_passDays wsX0_passDay := goodIn_r _ [7, 8, 9, 10, 11, 1, 12, 13, 14, 15, 16, 17, 18, 19, 20, 21, 22, 23, 24, 25, 26, 27, 28, 29, 30, 31, 32, 33, 34, 35, 36, 37, 6, 38, 39, 40, 41, 42, 43, 44, 45, 46, 47, 48, 49, 50, 51, 52, 53, 54, 55, 56, 57, 66, 67, 68, 69, 70, 71, 72, 73, 74, 75, 76, 77, 78, 79, 80, 81, 82, 83, 84, 85, 86] (by decide +kernel) (by decide +kernel)
set_option maxRecDepth 20000 in
theorem gX0_passDays_X0_passDay : GoodIn wsX0_passDays (wsV RX0 168 RX0 yX0_passDay wsX0_passDay) := goodIn_app (goodIn_of _ (by decide +kernel)) ggX0_passDays_X0_passDay
set_option maxRecDepth 20000 in
theorem ggX0_passDays_X0_frozenCells : GoodIn wsX0_passDays wsX0_frozenCells := goodIn_r _ [61, 2, 8, 62, 63, 64, 15, 65, 57, 31, 32, 33, 34, 66, 67, 68, 69, 70, 71, 72, 73, 74, 75, 76, 77, 78, 79, 80, 81, 82, 83, 84, 85, 86] (by decide +kernel) (by decide +kernel)
set_option maxRecDepth 20000 in
theorem gX0_passDays_X0_frozenCells : GoodIn wsX0_passDays (wsV RX0 96 RX0 yX0_frozenCells wsX0_frozenCells) := goodIn_app (goodIn_of _ (by decide +kernel)) ggX0_passDays_X0_frozenCells
theorem dX0_passDays_0 : decode cX0_passDays 0 = .ok (.iconst 0, 1) := by decide +kernel
theorem dX0_passDays_1 : decode cX0_passDays 1 = .ok (.istore 4, 2) := by decide +kernel
theorem dX0_passDays_3 : decode cX0_passDays 3 = .ok (.iload 4, 2) := by decide +kernel
theorem dX0_passDays_5 : decode cX0_passDays 5 = .ok (.iload_n 3, 1) := by decide +kernel
theorem dX0_passDays_6 : decode cX0_passDays 6 = .ok (.if_icmp .ge 45, 3) := by decide +kernel
theorem dX0_passDays_9 : decode cX0_passDays 9 = .ok (.aload_n 0, 1) := by decide +kernel
theorem dX0_passDays_10 : decode cX0_passDays 10 = .ok (.dup, 1) := by decide +kernel
theorem dX0_passDays_11 : decode cX0_passDays 11 = .ok (.getfield 53, 3) := by decide +kernel
theorem dX0_passDays_14 : decode cX0_passDays 14 = .ok (.iconst 1, 1) := by decide +kernel
theorem dX0_passDays_15 : decode cX0_passDays 15 = .ok (.iadd, 1) := by decide +kernel
theorem dX0_passDays_16 : decode cX0_passDays 16 = .ok (.putfield 53, 3) := by decide +kernel
theorem dX0_passDays_19 : decode cX0_passDays 19 = .ok (.iconst 0, 1) := by decide +kernel
theorem dX0_passDays_20 : decode cX0_passDays 20 = .ok (.istore 5, 2) := by decide +kernel
theorem dX0_passDays_22 : decode cX0_passDays 22 = .ok (.iload 5, 2) := by decide +kernel
theorem dX0_passDays_24 : decode cX0_passDays 24 = .ok (.aload_n 0, 1) := by decide +kernel
theorem dX0_passDays_25 : decode cX0_passDays 25 = .ok (.getfield 43, 3) := by decide +kernel
theorem dX0_passDays_28 : decode cX0_passDays 28 = .ok (.if_icmp .ge 17, 3) := by decide +kernel
theorem dX0_passDays_31 : decode cX0_passDays 31 = .ok (.aload_n 0, 1) := by decide +kernel
theorem dX0_passDays_32 : decode cX0_passDays 32 = .ok (.iload 5, 2) := by decide +kernel
theorem dX0_passDays_34 : decode cX0_passDays 34 = .ok (.iload_n 1, 1) := by decide +kernel
theorem dX0_passDays_35 : decode cX0_passDays 35 = .ok (.iload_n 2, 1) := by decide +kernel
theorem dX0_passDays_36 : decode cX0_passDays 36 = .ok (.invokevirtual 168, 3) := by decide +kernel
theorem dX0_passDays_39 : decode cX0_passDays 39 = .ok (.iinc 5 1, 3) := by decide +kernel
theorem dX0_passDays_42 : decode cX0_passDays 42 = .ok (.goto (-20), 3) := by decide +kernel
theorem dX0_passDays_45 : decode cX0_passDays 45 = .ok (.iinc 4 1, 3) := by decide +kernel
theorem dX0_passDays_48 : decode cX0_passDays 48 = .ok (.goto (-45), 3) := by decide +kernel
theorem dX0_passDays_51 : decode cX0_passDays 51 = .ok (.aload_n 0, 1) := by decide +kernel
theorem dX0_passDays_52 : decode cX0_passDays 52 = .ok (.invokevirtual 96, 3) := by decide +kernel
theorem dX0_passDays_55 : decode cX0_passDays 55 = .ok (.ireturn, 1) := by decide +kernel
set_option maxRecDepth 20000 in
theorem ggX0_passDaysAt_X0_passDay : GoodIn wsX0_passDaysAt wsX0_passDay := goodIn_r _ [6, 7, 8, 9, 10, 1, 11, 12, 13, 14, 15, 16, 17, 18, 19, 20, 21, 22, 23, 24, 25, 26, 27, 28, 29, 30, 31, 32, 33, 34, 35, 36, 5, 37, 38, 39, 40, 41, 42, 43, 44, 45, 46, 47, 48, 49, 50, 51, 52, 53, 54, 55, 56, 57, 58, 59, 60, 61, 62, 63, 64, 65, 66, 67, 68, 69, 70, 71, 72, 73, 74, 75, 76, 77] (by decide +kernel) (by decide +kernel)
set_option maxRecDepth 20000 in
theorem gX0_passDaysAt_X0_passDay : GoodIn wsX0_passDaysAt (wsV RX0 168 RX0 yX0_passDay wsX0_passDay) := goodIn_app (goodIn_of _ (by decide +kernel)) ggX0_passDaysAt_X0_passDay
theorem dX0_passDaysAt_0 : decode cX0_passDaysAt 0 = .ok (.iconst 0, 1) := by decide +kernel
theorem dX0_passDaysAt_1 : decode cX0_passDaysAt 1 = .ok (.istore 5, 2) := by decide +kernel
theorem dX0_passDaysAt_3 : decode cX0_passDaysAt 3 = .ok (.iload 5, 2) := by decide +kernel
theorem dX0_passDaysAt_5 : decode cX0_passDaysAt 5 = .ok (.iload 4, 2) := by decide +kernel
theorem dX0_passDaysAt_7 : decode cX0_passDaysAt 7 = .ok (.if_icmp .ge 26, 3) := by decide +kernel
theorem dX0_passDaysAt_10 : decode cX0_passDaysAt 10 = .ok (.aload_n 0, 1) := by decide +kernel
theorem dX0_passDaysAt_11 : decode cX0_passDaysAt 11 = .ok (.dup, 1) := by decide +kernel
theorem dX0_passDaysAt_12 : decode cX0_passDaysAt 12 = .ok (.getfield 53, 3) := by decide +kernel
theorem dX0_passDaysAt_15 : decode cX0_passDaysAt 15 = .ok (.iconst 1, 1) := by decide +kernel
theorem dX0_passDaysAt_16 : decode cX0_passDaysAt 16 = .ok (.iadd, 1) := by decide +kernel
theorem dX0_passDaysAt_17 : decode cX0_passDaysAt 17 = .ok (.putfield 53, 3) := by decide +kernel
theorem dX0_passDaysAt_20 : decode cX0_passDaysAt 20 = .ok (.aload_n 0, 1) := by decide +kernel
theorem dX0_passDaysAt_21 : decode cX0_passDaysAt 21 = .ok (.iload_n 1, 1) := by decide +kernel
theorem dX0_passDaysAt_22 : decode cX0_passDaysAt 22 = .ok (.iload_n 2, 1) := by decide +kernel
theorem dX0_passDaysAt_23 : decode cX0_passDaysAt 23 = .ok (.iload_n 3, 1) := by decide +kernel
theorem dX0_passDaysAt_24 : decode cX0_passDaysAt 24 = .ok (.invokevirtual 168, 3) := by decide +kernel
theorem dX0_passDaysAt_27 : decode cX0_passDaysAt 27 = .ok (.iinc 5 1, 3) := by decide +kernel
theorem dX0_passDaysAt_30 : decode cX0_passDaysAt 30 = .ok (.goto (-27), 3) := by decide +kernel
theorem dX0_passDaysAt_33 : decode cX0_passDaysAt 33 = .ok (.return_, 1) := by decide +kernel
set_option maxRecDepth 20000 in
theorem ggX0_passDay_X2_takeSnow : GoodIn wsX0_passDay wsX2_takeSnow := goodIn_r _ [10, 11, 12, 13, 14, 15, 16, 68, 69, 70, 71, 72, 73] (by decide +kernel) (by decide +kernel)
set_option maxRecDepth 20000 in
theorem gX0_passDay_X2_takeSnow : GoodIn wsX0_passDay (wsV RX0 172 RX2 yX2_takeSnow wsX2_takeSnow) := goodIn_app (goodIn_of _ (by decide +kernel)) ggX0_passDay_X2_takeSnow
set_option maxRecDepth 20000 in
theorem ggX0_passDay_X2_takeTemperature : GoodIn wsX0_passDay wsX2_takeTemperature := goodIn_r _ [20, 11, 13, 14, 15, 16, 21, 22, 23, 68, 69, 70, 71, 72, 73] (by decide +kernel) (by decide +kernel)
set_option maxRecDepth 20000 in
theorem gX0_passDay_X2_takeTemperature : GoodIn wsX0_passDay (wsV RX0 176 RX2 yX2_takeTemperature wsX2_takeTemperature) := goodIn_app (goodIn_of _ (by decide +kernel)) ggX0_passDay_X2_takeTemperature
set_option maxRecDepth 20000 in
theorem ggX0_passDay_X2_isFrozen : GoodIn wsX0_passDay wsX2_isFrozen := goodIn_r _ [27, 28, 68, 69, 70, 71, 72, 73] (by decide +kernel) (by decide +kernel)
set_option maxRecDepth 20000 in
theorem gX0_passDay_X2_isFrozen : GoodIn wsX0_passDay (wsV RX0 92 RX2 yX2_isFrozen wsX2_isFrozen) := goodIn_app (goodIn_of _ (by decide +kernel)) ggX0_passDay_X2_isFrozen
set_option maxRecDepth 20000 in
theorem ggX0_passDay_X0_freeze : GoodIn wsX0_passDay wsX0_freeze := goodIn_r _ [33, 1, 34, 5, 35, 36, 37, 38, 2, 39, 40, 41, 15, 42, 43, 53, 54, 55, 56, 57, 58, 59, 60, 61, 62, 63, 64, 65, 66, 67, 68, 69, 70, 71, 72, 73] (by decide +kernel) (by decide +kernel)
set_option maxRecDepth 20000 in
theorem gX0_passDay_X0_freeze : GoodIn wsX0_passDay (wsV RX0 183 RX0 yX0_freeze wsX0_freeze) := goodIn_app (goodIn_of _ (by decide +kernel)) ggX0_passDay_X0_freeze
set_option maxRecDepth 20000 in
theorem ggX0_passDay_X0_thaw : GoodIn wsX0_passDay wsX0_thaw := goodIn_r _ [47, 1, 34, 35, 36, 37, 38, 53, 54, 55, 56, 57, 58, 59, 60, 61, 62, 63, 64, 65, 66, 67, 68, 69, 70, 71, 72, 73] (by decide +kernel) (by decide +kernel)
set_option maxRecDepth 20000 in
theorem gX0_passDay_X0_thaw : GoodIn wsX0_passDay (wsV RX0 189 RX0 yX0_thaw wsX0_thaw) := goodIn_app (goodIn_of _ (by decide +kernel)) ggX0_passDay_X0_thaw
set_option maxRecDepth 20000 in
theorem ggX0_passDay_X2_lowestWithin : GoodIn wsX0_passDay wsX2_lowestWithin := goodIn_r _ [51, 52, 25, 26, 9, 27, 28, 68, 69, 70, 71, 72, 73] (by decide +kernel) (by decide +kernel)
set_option maxRecDepth 20000 in
theorem gX0_passDay_X2_lowestWithin : GoodIn wsX0_passDay (wsV RX0 106 RX2 yX2_lowestWithin wsX2_lowestWithin) := goodIn_app (goodIn_of _ (by decide +kernel)) ggX0_passDay_X2_lowestWithin
theorem dX0_passDay_0 : decode cX0_passDay 0 = .ok (.aload_n 0, 1) := by decide +kernel
theorem dX0_passDay_1 : decode cX0_passDay 1 = .ok (.getfield 17, 3) := by decide +kernel
theorem dX0_passDay_4 : decode cX0_passDay 4 = .ok (.iload_n 1, 1) := by decide +kernel
theorem dX0_passDay_5 : decode cX0_passDay 5 = .ok (.aaload, 1) := by decide +kernel
theorem dX0_passDay_6 : decode cX0_passDay 6 = .ok (.astore 4, 2) := by decide +kernel
theorem dX0_passDay_8 : decode cX0_passDay 8 = .ok (.aload 4, 2) := by decide +kernel
theorem dX0_passDay_10 : decode cX0_passDay 10 = .ok (.iload_n 3, 1) := by decide +kernel
theorem dX0_passDay_11 : decode cX0_passDay 11 = .ok (.invokevirtual 172, 3) := by decide +kernel
theorem dX0_passDay_14 : decode cX0_passDay 14 = .ok (.aload 4, 2) := by decide +kernel
theorem dX0_passDay_16 : decode cX0_passDay 16 = .ok (.iload_n 2, 1) := by decide +kernel
theorem dX0_passDay_17 : decode cX0_passDay 17 = .ok (.aload_n 0, 1) := by decide +kernel
theorem dX0_passDay_18 : decode cX0_passDay 18 = .ok (.getfield 11, 3) := by decide +kernel
theorem dX0_passDay_21 : decode cX0_passDay 21 = .ok (.iconst 1, 1) := by decide +kernel
theorem dX0_passDay_22 : decode cX0_passDay 22 = .ok (.iaload, 1) := by decide +kernel
theorem dX0_passDay_23 : decode cX0_passDay 23 = .ok (.invokevirtual 176, 3) := by decide +kernel
theorem dX0_passDay_26 : decode cX0_passDay 26 = .ok (.iconst 0, 1) := by decide +kernel
theorem dX0_passDay_27 : decode cX0_passDay 27 = .ok (.istore 5, 2) := by decide +kernel
theorem dX0_passDay_29 : decode cX0_passDay 29 = .ok (.iload 5, 2) := by decide +kernel
theorem dX0_passDay_31 : decode cX0_passDay 31 = .ok (.bipush 30, 2) := by decide +kernel
theorem dX0_passDay_33 : decode cX0_passDay 33 = .ok (.if_icmp .ge 52, 3) := by decide +kernel
theorem dX0_passDay_36 : decode cX0_passDay 36 = .ok (.aload 4, 2) := by decide +kernel
theorem dX0_passDay_38 : decode cX0_passDay 38 = .ok (.getfield 180, 3) := by decide +kernel
theorem dX0_passDay_41 : decode cX0_passDay 41 = .ok (.iconst 4, 1) := by decide +kernel
theorem dX0_passDay_42 : decode cX0_passDay 42 = .ok (.iload 5, 2) := by decide +kernel
theorem dX0_passDay_44 : decode cX0_passDay 44 = .ok (.iadd, 1) := by decide +kernel
theorem dX0_passDay_45 : decode cX0_passDay 45 = .ok (.if_icmp .lt 40, 3) := by decide +kernel
theorem dX0_passDay_48 : decode cX0_passDay 48 = .ok (.aload 4, 2) := by decide +kernel
theorem dX0_passDay_50 : decode cX0_passDay 50 = .ok (.iload 5, 2) := by decide +kernel
theorem dX0_passDay_52 : decode cX0_passDay 52 = .ok (.invokevirtual 92, 3) := by decide +kernel
theorem dX0_passDay_55 : decode cX0_passDay 55 = .ok (.ifCond .ne 24, 3) := by decide +kernel
theorem dX0_passDay_58 : decode cX0_passDay 58 = .ok (.aload 4, 2) := by decide +kernel
theorem dX0_passDay_60 : decode cX0_passDay 60 = .ok (.dup, 1) := by decide +kernel
theorem dX0_passDay_61 : decode cX0_passDay 61 = .ok (.getfield 180, 3) := by decide +kernel
theorem dX0_passDay_64 : decode cX0_passDay 64 = .ok (.iconst 4, 1) := by decide +kernel
theorem dX0_passDay_65 : decode cX0_passDay 65 = .ok (.iload 5, 2) := by decide +kernel
theorem dX0_passDay_67 : decode cX0_passDay 67 = .ok (.iadd, 1) := by decide +kernel
theorem dX0_passDay_68 : decode cX0_passDay 68 = .ok (.isub, 1) := by decide +kernel
theorem dX0_passDay_69 : decode cX0_passDay 69 = .ok (.putfield 180, 3) := by decide +kernel
theorem dX0_passDay_72 : decode cX0_passDay 72 = .ok (.aload_n 0, 1) := by decide +kernel
theorem dX0_passDay_73 : decode cX0_passDay 73 = .ok (.iload_n 1, 1) := by decide +kernel
theorem dX0_passDay_74 : decode cX0_passDay 74 = .ok (.iload 5, 2) := by decide +kernel
theorem dX0_passDay_76 : decode cX0_passDay 76 = .ok (.invokevirtual 183, 3) := by decide +kernel
theorem dX0_passDay_79 : decode cX0_passDay 79 = .ok (.iinc 5 1, 3) := by decide +kernel
theorem dX0_passDay_82 : decode cX0_passDay 82 = .ok (.goto (-53), 3) := by decide +kernel
theorem dX0_passDay_85 : decode cX0_passDay 85 = .ok (.iconst 0, 1) := by decide +kernel
theorem dX0_passDay_86 : decode cX0_passDay 86 = .ok (.istore 5, 2) := by decide +kernel
theorem dX0_passDay_88 : decode cX0_passDay 88 = .ok (.iload 5, 2) := by decide +kernel
theorem dX0_passDay_90 : decode cX0_passDay 90 = .ok (.bipush 30, 2) := by decide +kernel
theorem dX0_passDay_92 : decode cX0_passDay 92 = .ok (.if_icmp .ge 52, 3) := by decide +kernel
theorem dX0_passDay_95 : decode cX0_passDay 95 = .ok (.aload 4, 2) := by decide +kernel
theorem dX0_passDay_97 : decode cX0_passDay 97 = .ok (.getfield 186, 3) := by decide +kernel
theorem dX0_passDay_100 : decode cX0_passDay 100 = .ok (.iconst 3, 1) := by decide +kernel
theorem dX0_passDay_101 : decode cX0_passDay 101 = .ok (.iload 5, 2) := by decide +kernel
theorem dX0_passDay_103 : decode cX0_passDay 103 = .ok (.iadd, 1) := by decide +kernel
theorem dX0_passDay_104 : decode cX0_passDay 104 = .ok (.if_icmp .lt 40, 3) := by decide +kernel
theorem dX0_passDay_107 : decode cX0_passDay 107 = .ok (.aload 4, 2) := by decide +kernel
theorem dX0_passDay_109 : decode cX0_passDay 109 = .ok (.iload 5, 2) := by decide +kernel
theorem dX0_passDay_111 : decode cX0_passDay 111 = .ok (.invokevirtual 92, 3) := by decide +kernel
theorem dX0_passDay_114 : decode cX0_passDay 114 = .ok (.ifCond .eq 24, 3) := by decide +kernel
theorem dX0_passDay_117 : decode cX0_passDay 117 = .ok (.aload 4, 2) := by decide +kernel
theorem dX0_passDay_119 : decode cX0_passDay 119 = .ok (.dup, 1) := by decide +kernel
theorem dX0_passDay_120 : decode cX0_passDay 120 = .ok (.getfield 186, 3) := by decide +kernel
theorem dX0_passDay_123 : decode cX0_passDay 123 = .ok (.iconst 3, 1) := by decide +kernel
theorem dX0_passDay_124 : decode cX0_passDay 124 = .ok (.iload 5, 2) := by decide +kernel
theorem dX0_passDay_126 : decode cX0_passDay 126 = .ok (.iadd, 1) := by decide +kernel
theorem dX0_passDay_127 : decode cX0_passDay 127 = .ok (.isub, 1) := by decide +kernel
theorem dX0_passDay_128 : decode cX0_passDay 128 = .ok (.putfield 186, 3) := by decide +kernel
theorem dX0_passDay_131 : decode cX0_passDay 131 = .ok (.aload_n 0, 1) := by decide +kernel
theorem dX0_passDay_132 : decode cX0_passDay 132 = .ok (.iload_n 1, 1) := by decide +kernel
theorem dX0_passDay_133 : decode cX0_passDay 133 = .ok (.iload 5, 2) := by decide +kernel
theorem dX0_passDay_135 : decode cX0_passDay 135 = .ok (.invokevirtual 189, 3) := by decide +kernel
theorem dX0_passDay_138 : decode cX0_passDay 138 = .ok (.iinc 5 1, 3) := by decide +kernel
theorem dX0_passDay_141 : decode cX0_passDay 141 = .ok (.goto (-53), 3) := by decide +kernel
theorem dX0_passDay_144 : decode cX0_passDay 144 = .ok (.aload_n 0, 1) := by decide +kernel
theorem dX0_passDay_145 : decode cX0_passDay 145 = .ok (.getfield 11, 3) := by decide +kernel
theorem dX0_passDay_148 : decode cX0_passDay 148 = .ok (.iconst 0, 1) := by decide +kernel
theorem dX0_passDay_149 : decode cX0_passDay 149 = .ok (.iaload, 1) := by decide +kernel
theorem dX0_passDay_150 : decode cX0_passDay 150 = .ok (.istore 5, 2) := by decide +kernel
theorem dX0_passDay_152 : decode cX0_passDay 152 = .ok (.aload 4, 2) := by decide +kernel
theorem dX0_passDay_154 : decode cX0_passDay 154 = .ok (.bipush 30, 2) := by decide +kernel
theorem dX0_passDay_156 : decode cX0_passDay 156 = .ok (.invokevirtual 106, 3) := by decide +kernel
theorem dX0_passDay_159 : decode cX0_passDay 159 = .ok (.istore 6, 2) := by decide +kernel
theorem dX0_passDay_161 : decode cX0_passDay 161 = .ok (.iload 5, 2) := by decide +kernel
theorem dX0_passDay_163 : decode cX0_passDay 163 = .ok (.ifCond .le 26, 3) := by decide +kernel
theorem dX0_passDay_166 : decode cX0_passDay 166 = .ok (.aload_n 0, 1) := by decide +kernel
theorem dX0_passDay_167 : decode cX0_passDay 167 = .ok (.getfield 53, 3) := by decide +kernel
theorem dX0_passDay_170 : decode cX0_passDay 170 = .ok (.iload 5, 2) := by decide +kernel
theorem dX0_passDay_172 : decode cX0_passDay 172 = .ok (.irem, 1) := by decide +kernel
theorem dX0_passDay_173 : decode cX0_passDay 173 = .ok (.ifCond .ne 16, 3) := by decide +kernel
theorem dX0_passDay_176 : decode cX0_passDay 176 = .ok (.iload 6, 2) := by decide +kernel
theorem dX0_passDay_178 : decode cX0_passDay 178 = .ok (.iconst (-1), 1) := by decide +kernel
theorem dX0_passDay_179 : decode cX0_passDay 179 = .ok (.if_icmp .eq 10, 3) := by decide +kernel
theorem dX0_passDay_182 : decode cX0_passDay 182 = .ok (.aload_n 0, 1) := by decide +kernel
theorem dX0_passDay_183 : decode cX0_passDay 183 = .ok (.iload_n 1, 1) := by decide +kernel
theorem dX0_passDay_184 : decode cX0_passDay 184 = .ok (.iload 6, 2) := by decide +kernel
theorem dX0_passDay_186 : decode cX0_passDay 186 = .ok (.invokevirtual 189, 3) := by decide +kernel
theorem dX0_passDay_189 : decode cX0_passDay 189 = .ok (.return_, 1) := by decide +kernel
theorem dX0_freeze_0 : decode cX0_freeze 0 = .ok (.aload_n 0, 1) := by decide +kernel
theorem dX0_freeze_1 : decode cX0_freeze 1 = .ok (.getfield 17, 3) := by decide +kernel
theorem dX0_freeze_4 : decode cX0_freeze 4 = .ok (.iload_n 1, 1) := by decide +kernel
theorem dX0_freeze_5 : decode cX0_freeze 5 = .ok (.aaload, 1) := by decide +kernel
theorem dX0_freeze_6 : decode cX0_freeze 6 = .ok (.getfield 89, 3) := by decide +kernel
theorem dX0_freeze_9 : decode cX0_freeze 9 = .ok (.iload_n 2, 1) := by decide +kernel
theorem dX0_freeze_10 : decode cX0_freeze 10 = .ok (.aload_n 0, 1) := by decide +kernel
theorem dX0_freeze_11 : decode cX0_freeze 11 = .ok (.getfield 53, 3) := by decide +kernel
theorem dX0_freeze_14 : decode cX0_freeze 14 = .ok (.iastore, 1) := by decide +kernel
theorem dX0_freeze_15 : decode cX0_freeze 15 = .ok (.iconst 0, 1) := by decide +kernel
theorem dX0_freeze_16 : decode cX0_freeze 16 = .ok (.istore_n 3, 1) := by decide +kernel
theorem dX0_freeze_17 : decode cX0_freeze 17 = .ok (.iload_n 3, 1) := by decide +kernel
theorem dX0_freeze_18 : decode cX0_freeze 18 = .ok (.aload_n 0, 1) := by decide +kernel
theorem dX0_freeze_19 : decode cX0_freeze 19 = .ok (.getfield 50, 3) := by decide +kernel
theorem dX0_freeze_22 : decode cX0_freeze 22 = .ok (.if_icmp .ge 75, 3) := by decide +kernel
theorem dX0_freeze_25 : decode cX0_freeze 25 = .ok (.aload_n 0, 1) := by decide +kernel
theorem dX0_freeze_26 : decode cX0_freeze 26 = .ok (.getfield 27, 3) := by decide +kernel
theorem dX0_freeze_29 : decode cX0_freeze 29 = .ok (.iload_n 3, 1) := by decide +kernel
theorem dX0_freeze_30 : decode cX0_freeze 30 = .ok (.iaload, 1) := by decide +kernel
theorem dX0_freeze_31 : decode cX0_freeze 31 = .ok (.iload_n 1, 1) := by decide +kernel
theorem dX0_freeze_32 : decode cX0_freeze 32 = .ok (.if_icmp .ne 59, 3) := by decide +kernel
theorem dX0_freeze_35 : decode cX0_freeze 35 = .ok (.aload_n 0, 1) := by decide +kernel
theorem dX0_freeze_36 : decode cX0_freeze 36 = .ok (.getfield 30, 3) := by decide +kernel
theorem dX0_freeze_39 : decode cX0_freeze 39 = .ok (.iload_n 3, 1) := by decide +kernel
theorem dX0_freeze_40 : decode cX0_freeze 40 = .ok (.iaload, 1) := by decide +kernel
theorem dX0_freeze_41 : decode cX0_freeze 41 = .ok (.iload_n 2, 1) := by decide +kernel
theorem dX0_freeze_42 : decode cX0_freeze 42 = .ok (.if_icmp .ne 49, 3) := by decide +kernel
theorem dX0_freeze_45 : decode cX0_freeze 45 = .ok (.aload_n 0, 1) := by decide +kernel
theorem dX0_freeze_46 : decode cX0_freeze 46 = .ok (.getfield 33, 3) := by decide +kernel
theorem dX0_freeze_49 : decode cX0_freeze 49 = .ok (.iload_n 3, 1) := by decide +kernel
theorem dX0_freeze_50 : decode cX0_freeze 50 = .ok (.dup2, 1) := by decide +kernel
theorem dX0_freeze_51 : decode cX0_freeze 51 = .ok (.iaload, 1) := by decide +kernel
theorem dX0_freeze_52 : decode cX0_freeze 52 = .ok (.aload_n 0, 1) := by decide +kernel
theorem dX0_freeze_53 : decode cX0_freeze 53 = .ok (.getfield 11, 3) := by decide +kernel
theorem dX0_freeze_56 : decode cX0_freeze 56 = .ok (.iconst 2, 1) := by decide +kernel
theorem dX0_freeze_57 : decode cX0_freeze 57 = .ok (.iaload, 1) := by decide +kernel
theorem dX0_freeze_58 : decode cX0_freeze 58 = .ok (.iadd, 1) := by decide +kernel
theorem dX0_freeze_59 : decode cX0_freeze 59 = .ok (.iastore, 1) := by decide +kernel
theorem dX0_freeze_60 : decode cX0_freeze 60 = .ok (.aload_n 0, 1) := by decide +kernel
theorem dX0_freeze_61 : decode cX0_freeze 61 = .ok (.getfield 36, 3) := by decide +kernel
theorem dX0_freeze_64 : decode cX0_freeze 64 = .ok (.iload_n 3, 1) := by decide +kernel
theorem dX0_freeze_65 : decode cX0_freeze 65 = .ok (.aload_n 0, 1) := by decide +kernel
theorem dX0_freeze_66 : decode cX0_freeze 66 = .ok (.getfield 36, 3) := by decide +kernel
theorem dX0_freeze_69 : decode cX0_freeze 69 = .ok (.iload_n 3, 1) := by decide +kernel
theorem dX0_freeze_70 : decode cX0_freeze 70 = .ok (.iaload, 1) := by decide +kernel
theorem dX0_freeze_71 : decode cX0_freeze 71 = .ok (.aload_n 0, 1) := by decide +kernel
theorem dX0_freeze_72 : decode cX0_freeze 72 = .ok (.getfield 33, 3) := by decide +kernel
theorem dX0_freeze_75 : decode cX0_freeze 75 = .ok (.iload_n 3, 1) := by decide +kernel
theorem dX0_freeze_76 : decode cX0_freeze 76 = .ok (.iaload, 1) := by decide +kernel
theorem dX0_freeze_77 : decode cX0_freeze 77 = .ok (.invokestatic 82, 3) := by decide +kernel
theorem dX0_freeze_80 : decode cX0_freeze 80 = .ok (.iastore, 1) := by decide +kernel
theorem dX0_freeze_81 : decode cX0_freeze 81 = .ok (.aload_n 0, 1) := by decide +kernel
theorem dX0_freeze_82 : decode cX0_freeze 82 = .ok (.getfield 39, 3) := by decide +kernel
theorem dX0_freeze_85 : decode cX0_freeze 85 = .ok (.iload_n 3, 1) := by decide +kernel
theorem dX0_freeze_86 : decode cX0_freeze 86 = .ok (.dup2, 1) := by decide +kernel
theorem dX0_freeze_87 : decode cX0_freeze 87 = .ok (.iaload, 1) := by decide +kernel
theorem dX0_freeze_88 : decode cX0_freeze 88 = .ok (.iconst 1, 1) := by decide +kernel
theorem dX0_freeze_89 : decode cX0_freeze 89 = .ok (.iadd, 1) := by decide +kernel
theorem dX0_freeze_90 : decode cX0_freeze 90 = .ok (.iastore, 1) := by decide +kernel
theorem dX0_freeze_91 : decode cX0_freeze 91 = .ok (.iinc 3 1, 3) := by decide +kernel
theorem dX0_freeze_94 : decode cX0_freeze 94 = .ok (.goto (-77), 3) := by decide +kernel
theorem dX0_freeze_97 : decode cX0_freeze 97 = .ok (.return_, 1) := by decide +kernel
theorem dX0_thaw_0 : decode cX0_thaw 0 = .ok (.aload_n 0, 1) := by decide +kernel
theorem dX0_thaw_1 : decode cX0_thaw 1 = .ok (.getfield 17, 3) := by decide +kernel
theorem dX0_thaw_4 : decode cX0_thaw 4 = .ok (.iload_n 1, 1) := by decide +kernel
theorem dX0_thaw_5 : decode cX0_thaw 5 = .ok (.aaload, 1) := by decide +kernel
theorem dX0_thaw_6 : decode cX0_thaw 6 = .ok (.getfield 89, 3) := by decide +kernel
theorem dX0_thaw_9 : decode cX0_thaw 9 = .ok (.iload_n 2, 1) := by decide +kernel
theorem dX0_thaw_10 : decode cX0_thaw 10 = .ok (.iconst (-1), 1) := by decide +kernel
theorem dX0_thaw_11 : decode cX0_thaw 11 = .ok (.iastore, 1) := by decide +kernel
theorem dX0_thaw_12 : decode cX0_thaw 12 = .ok (.iconst 0, 1) := by decide +kernel
theorem dX0_thaw_13 : decode cX0_thaw 13 = .ok (.istore_n 3, 1) := by decide +kernel
theorem dX0_thaw_14 : decode cX0_thaw 14 = .ok (.iload_n 3, 1) := by decide +kernel
theorem dX0_thaw_15 : decode cX0_thaw 15 = .ok (.aload_n 0, 1) := by decide +kernel
theorem dX0_thaw_16 : decode cX0_thaw 16 = .ok (.getfield 50, 3) := by decide +kernel
theorem dX0_thaw_19 : decode cX0_thaw 19 = .ok (.if_icmp .ge 46, 3) := by decide +kernel
theorem dX0_thaw_22 : decode cX0_thaw 22 = .ok (.aload_n 0, 1) := by decide +kernel
theorem dX0_thaw_23 : decode cX0_thaw 23 = .ok (.getfield 27, 3) := by decide +kernel
theorem dX0_thaw_26 : decode cX0_thaw 26 = .ok (.iload_n 3, 1) := by decide +kernel
theorem dX0_thaw_27 : decode cX0_thaw 27 = .ok (.iaload, 1) := by decide +kernel
theorem dX0_thaw_28 : decode cX0_thaw 28 = .ok (.iload_n 1, 1) := by decide +kernel
theorem dX0_thaw_29 : decode cX0_thaw 29 = .ok (.if_icmp .ne 30, 3) := by decide +kernel
theorem dX0_thaw_32 : decode cX0_thaw 32 = .ok (.aload_n 0, 1) := by decide +kernel
theorem dX0_thaw_33 : decode cX0_thaw 33 = .ok (.getfield 30, 3) := by decide +kernel
theorem dX0_thaw_36 : decode cX0_thaw 36 = .ok (.iload_n 3, 1) := by decide +kernel
theorem dX0_thaw_37 : decode cX0_thaw 37 = .ok (.iaload, 1) := by decide +kernel
theorem dX0_thaw_38 : decode cX0_thaw 38 = .ok (.iload_n 2, 1) := by decide +kernel
theorem dX0_thaw_39 : decode cX0_thaw 39 = .ok (.if_icmp .ne 20, 3) := by decide +kernel
theorem dX0_thaw_42 : decode cX0_thaw 42 = .ok (.aload_n 0, 1) := by decide +kernel
theorem dX0_thaw_43 : decode cX0_thaw 43 = .ok (.getfield 33, 3) := by decide +kernel
theorem dX0_thaw_46 : decode cX0_thaw 46 = .ok (.iload_n 3, 1) := by decide +kernel
theorem dX0_thaw_47 : decode cX0_thaw 47 = .ok (.dup2, 1) := by decide +kernel
theorem dX0_thaw_48 : decode cX0_thaw 48 = .ok (.iaload, 1) := by decide +kernel
theorem dX0_thaw_49 : decode cX0_thaw 49 = .ok (.aload_n 0, 1) := by decide +kernel
theorem dX0_thaw_50 : decode cX0_thaw 50 = .ok (.getfield 33, 3) := by decide +kernel
theorem dX0_thaw_53 : decode cX0_thaw 53 = .ok (.iload_n 3, 1) := by decide +kernel
theorem dX0_thaw_54 : decode cX0_thaw 54 = .ok (.iaload, 1) := by decide +kernel
theorem dX0_thaw_55 : decode cX0_thaw 55 = .ok (.iconst 2, 1) := by decide +kernel
theorem dX0_thaw_56 : decode cX0_thaw 56 = .ok (.idiv, 1) := by decide +kernel
theorem dX0_thaw_57 : decode cX0_thaw 57 = .ok (.isub, 1) := by decide +kernel
theorem dX0_thaw_58 : decode cX0_thaw 58 = .ok (.iastore, 1) := by decide +kernel
theorem dX0_thaw_59 : decode cX0_thaw 59 = .ok (.iinc 3 1, 3) := by decide +kernel
theorem dX0_thaw_62 : decode cX0_thaw 62 = .ok (.goto (-48), 3) := by decide +kernel
theorem dX0_thaw_65 : decode cX0_thaw 65 = .ok (.return_, 1) := by decide +kernel
set_option maxRecDepth 20000 in
theorem ggX1_init_X0_init : GoodIn wsX1_init wsX0_init := goodIn_r _ [10, 11, 2, 3, 12, 13, 14, 15, 16, 17, 18, 19, 20, 21, 22, 23, 24, 25, 26, 27, 28, 29, 30, 31, 32, 33, 37, 38, 39, 40, 41, 42, 43, 44, 45, 46, 47, 48, 49, 50, 51, 52, 53, 54, 55, 56, 57] (by decide +kernel) (by decide +kernel)
set_option maxRecDepth 20000 in
theorem gX1_init_X0_init : GoodIn wsX1_init (wsX0_init) := ggX1_init_X0_init
theorem dX1_init_0 : decode cX1_init 0 = .ok (.aload_n 0, 1) := by decide +kernel
theorem dX1_init_1 : decode cX1_init 1 = .ok (.invokespecial 3, 3) := by decide +kernel
theorem dX1_init_4 : decode cX1_init 4 = .ok (.aload_n 0, 1) := by decide +kernel
theorem dX1_init_5 : decode cX1_init 5 = .ok (.bipush 14, 2) := by decide +kernel
theorem dX1_init_7 : decode cX1_init 7 = .ok (.anewarray 9, 3) := by decide +kernel
theorem dX1_init_10 : decode cX1_init 10 = .ok (.putfield 11, 3) := by decide +kernel
theorem dX1_init_13 : decode cX1_init 13 = .ok (.iconst 0, 1) := by decide +kernel
theorem dX1_init_14 : decode cX1_init 14 = .ok (.istore_n 1, 1) := by decide +kernel
theorem dX1_init_15 : decode cX1_init 15 = .ok (.iload_n 1, 1) := by decide +kernel
theorem dX1_init_16 : decode cX1_init 16 = .ok (.bipush 14, 2) := by decide +kernel
theorem dX1_init_18 : decode cX1_init 18 = .ok (.if_icmp .ge 22, 3) := by decide +kernel
theorem dX1_init_21 : decode cX1_init 21 = .ok (.aload_n 0, 1) := by decide +kernel
theorem dX1_init_22 : decode cX1_init 22 = .ok (.getfield 11, 3) := by decide +kernel
theorem dX1_init_25 : decode cX1_init 25 = .ok (.iload_n 1, 1) := by decide +kernel
theorem dX1_init_26 : decode cX1_init 26 = .ok (.new 9, 3) := by decide +kernel
theorem dX1_init_29 : decode cX1_init 29 = .ok (.dup, 1) := by decide +kernel
theorem dX1_init_30 : decode cX1_init 30 = .ok (.invokespecial 17, 3) := by decide +kernel
theorem dX1_init_33 : decode cX1_init 33 = .ok (.aastore, 1) := by decide +kernel
theorem dX1_init_34 : decode cX1_init 34 = .ok (.iinc 1 1, 3) := by decide +kernel
theorem dX1_init_37 : decode cX1_init 37 = .ok (.goto (-22), 3) := by decide +kernel
theorem dX1_init_40 : decode cX1_init 40 = .ok (.return_, 1) := by decide +kernel
set_option maxRecDepth 20000 in
theorem ggX1_remember_X0_copyFrom : GoodIn wsX1_remember wsX0_copyFrom := goodIn_r _ [8, 9, 10, 11, 12, 13, 14, 15, 16, 17, 18, 19, 20, 21, 22, 23, 24, 25, 26, 27, 28, 29, 30, 31, 32, 33, 34, 35, 36, 37, 38, 39, 43, 44, 45, 46, 47, 48, 49, 50, 51, 52, 53, 54, 55, 56, 57, 58, 59, 60, 61, 62, 63] (by decide +kernel) (by decide +kernel)
set_option maxRecDepth 20000 in
theorem gX1_remember_X0_copyFrom : GoodIn wsX1_remember (wsV RX1 25 RX0 yX0_copyFrom wsX0_copyFrom) := goodIn_app (goodIn_of _ (by decide +kernel)) ggX1_remember_X0_copyFrom
theorem dX1_remember_0 : decode cX1_remember 0 = .ok (.aload_n 0, 1) := by decide +kernel
theorem dX1_remember_1 : decode cX1_remember 1 = .ok (.getfield 11, 3) := by decide +kernel
theorem dX1_remember_4 : decode cX1_remember 4 = .ok (.aload_n 0, 1) := by decide +kernel
theorem dX1_remember_5 : decode cX1_remember 5 = .ok (.getfield 18, 3) := by decide +kernel
theorem dX1_remember_8 : decode cX1_remember 8 = .ok (.aload_n 0, 1) := by decide +kernel
theorem dX1_remember_9 : decode cX1_remember 9 = .ok (.getfield 22, 3) := by decide +kernel
theorem dX1_remember_12 : decode cX1_remember 12 = .ok (.iadd, 1) := by decide +kernel
theorem dX1_remember_13 : decode cX1_remember 13 = .ok (.bipush 14, 2) := by decide +kernel
theorem dX1_remember_15 : decode cX1_remember 15 = .ok (.irem, 1) := by decide +kernel
theorem dX1_remember_16 : decode cX1_remember 16 = .ok (.aaload, 1) := by decide +kernel
theorem dX1_remember_17 : decode cX1_remember 17 = .ok (.aload_n 1, 1) := by decide +kernel
theorem dX1_remember_18 : decode cX1_remember 18 = .ok (.invokevirtual 25, 3) := by decide +kernel
theorem dX1_remember_21 : decode cX1_remember 21 = .ok (.aload_n 0, 1) := by decide +kernel
theorem dX1_remember_22 : decode cX1_remember 22 = .ok (.getfield 22, 3) := by decide +kernel
theorem dX1_remember_25 : decode cX1_remember 25 = .ok (.bipush 14, 2) := by decide +kernel
theorem dX1_remember_27 : decode cX1_remember 27 = .ok (.if_icmp .ge 16, 3) := by decide +kernel
theorem dX1_remember_30 : decode cX1_remember 30 = .ok (.aload_n 0, 1) := by decide +kernel
theorem dX1_remember_31 : decode cX1_remember 31 = .ok (.dup, 1) := by decide +kernel
theorem dX1_remember_32 : decode cX1_remember 32 = .ok (.getfield 22, 3) := by decide +kernel
theorem dX1_remember_35 : decode cX1_remember 35 = .ok (.iconst 1, 1) := by decide +kernel
theorem dX1_remember_36 : decode cX1_remember 36 = .ok (.iadd, 1) := by decide +kernel
theorem dX1_remember_37 : decode cX1_remember 37 = .ok (.putfield 22, 3) := by decide +kernel
theorem dX1_remember_40 : decode cX1_remember 40 = .ok (.goto 16, 3) := by decide +kernel
theorem dX1_remember_43 : decode cX1_remember 43 = .ok (.aload_n 0, 1) := by decide +kernel
theorem dX1_remember_44 : decode cX1_remember 44 = .ok (.aload_n 0, 1) := by decide +kernel
theorem dX1_remember_45 : decode cX1_remember 45 = .ok (.getfield 18, 3) := by decide +kernel
theorem dX1_remember_48 : decode cX1_remember 48 = .ok (.iconst 1, 1) := by decide +kernel
theorem dX1_remember_49 : decode cX1_remember 49 = .ok (.iadd, 1) := by decide +kernel
theorem dX1_remember_50 : decode cX1_remember 50 = .ok (.bipush 14, 2) := by decide +kernel
theorem dX1_remember_52 : decode cX1_remember 52 = .ok (.irem, 1) := by decide +kernel
theorem dX1_remember_53 : decode cX1_remember 53 = .ok (.putfield 18, 3) := by decide +kernel
theorem dX1_remember_56 : decode cX1_remember 56 = .ok (.return_, 1) := by decide +kernel
set_option maxRecDepth 20000 in
theorem ggX1_takeBack_X0_copyFrom : GoodIn wsX1_takeBack wsX0_copyFrom := goodIn_r _ [8, 9, 10, 11, 12, 13, 14, 15, 16, 17, 18, 19, 20, 21, 22, 23, 24, 25, 26, 27, 28, 29, 30, 31, 32, 33, 34, 35, 36, 37, 38, 39, 43, 44, 45, 46, 47, 48, 49, 50, 51, 52, 53, 54, 55, 56, 57, 58, 59, 60, 61, 62, 63] (by decide +kernel) (by decide +kernel)
set_option maxRecDepth 20000 in
theorem gX1_takeBack_X0_copyFrom : GoodIn wsX1_takeBack (wsV RX1 25 RX0 yX0_copyFrom wsX0_copyFrom) := goodIn_app (goodIn_of _ (by decide +kernel)) ggX1_takeBack_X0_copyFrom
theorem dX1_takeBack_0 : decode cX1_takeBack 0 = .ok (.aload_n 0, 1) := by decide +kernel
theorem dX1_takeBack_1 : decode cX1_takeBack 1 = .ok (.getfield 22, 3) := by decide +kernel
theorem dX1_takeBack_4 : decode cX1_takeBack 4 = .ok (.ifCond .le 34, 3) := by decide +kernel
theorem dX1_takeBack_7 : decode cX1_takeBack 7 = .ok (.aload_n 0, 1) := by decide +kernel
theorem dX1_takeBack_8 : decode cX1_takeBack 8 = .ok (.dup, 1) := by decide +kernel
theorem dX1_takeBack_9 : decode cX1_takeBack 9 = .ok (.getfield 22, 3) := by decide +kernel
theorem dX1_takeBack_12 : decode cX1_takeBack 12 = .ok (.iconst 1, 1) := by decide +kernel
theorem dX1_takeBack_13 : decode cX1_takeBack 13 = .ok (.isub, 1) := by decide +kernel
theorem dX1_takeBack_14 : decode cX1_takeBack 14 = .ok (.putfield 22, 3) := by decide +kernel
theorem dX1_takeBack_17 : decode cX1_takeBack 17 = .ok (.aload_n 1, 1) := by decide +kernel
theorem dX1_takeBack_18 : decode cX1_takeBack 18 = .ok (.aload_n 0, 1) := by decide +kernel
theorem dX1_takeBack_19 : decode cX1_takeBack 19 = .ok (.getfield 11, 3) := by decide +kernel
theorem dX1_takeBack_22 : decode cX1_takeBack 22 = .ok (.aload_n 0, 1) := by decide +kernel
theorem dX1_takeBack_23 : decode cX1_takeBack 23 = .ok (.getfield 18, 3) := by decide +kernel
theorem dX1_takeBack_26 : decode cX1_takeBack 26 = .ok (.aload_n 0, 1) := by decide +kernel
theorem dX1_takeBack_27 : decode cX1_takeBack 27 = .ok (.getfield 22, 3) := by decide +kernel
theorem dX1_takeBack_30 : decode cX1_takeBack 30 = .ok (.iadd, 1) := by decide +kernel
theorem dX1_takeBack_31 : decode cX1_takeBack 31 = .ok (.bipush 14, 2) := by decide +kernel
theorem dX1_takeBack_33 : decode cX1_takeBack 33 = .ok (.irem, 1) := by decide +kernel
theorem dX1_takeBack_34 : decode cX1_takeBack 34 = .ok (.aaload, 1) := by decide +kernel
theorem dX1_takeBack_35 : decode cX1_takeBack 35 = .ok (.invokevirtual 25, 3) := by decide +kernel
theorem dX1_takeBack_38 : decode cX1_takeBack 38 = .ok (.return_, 1) := by decide +kernel
theorem dX1_forgetAll_0 : decode cX1_forgetAll 0 = .ok (.aload_n 0, 1) := by decide +kernel
theorem dX1_forgetAll_1 : decode cX1_forgetAll 1 = .ok (.iconst 0, 1) := by decide +kernel
theorem dX1_forgetAll_2 : decode cX1_forgetAll 2 = .ok (.putfield 22, 3) := by decide +kernel
theorem dX1_forgetAll_5 : decode cX1_forgetAll 5 = .ok (.aload_n 0, 1) := by decide +kernel
theorem dX1_forgetAll_6 : decode cX1_forgetAll 6 = .ok (.iconst 0, 1) := by decide +kernel
theorem dX1_forgetAll_7 : decode cX1_forgetAll 7 = .ok (.putfield 18, 3) := by decide +kernel
theorem dX1_forgetAll_10 : decode cX1_forgetAll 10 = .ok (.return_, 1) := by decide +kernel
set_option maxRecDepth 20000 in
theorem ggX2_init_J7_fill_53178 : GoodIn wsX2_init wsJ7_fill_53178 := goodIn_r _ [9] (by decide +kernel) (by decide +kernel)
set_option maxRecDepth 20000 in
theorem gX2_init_J7_fill_53178 : GoodIn wsX2_init (va_wsS RX2 15 yJ7_fill_53178 wsJ7_fill_53178) := goodIn_app (goodIn_of _ (by decide +kernel)) ggX2_init_J7_fill_53178
theorem dX2_init_0 : decode cX2_init 0 = .ok (.aload_n 0, 1) := by decide +kernel
theorem dX2_init_1 : decode cX2_init 1 = .ok (.invokespecial 3, 3) := by decide +kernel
theorem dX2_init_4 : decode cX2_init 4 = .ok (.aload_n 0, 1) := by decide +kernel
theorem dX2_init_5 : decode cX2_init 5 = .ok (.bipush 30, 2) := by decide +kernel
theorem dX2_init_7 : decode cX2_init 7 = .ok (.newarray .int, 2) := by decide +kernel
theorem dX2_init_9 : decode cX2_init 9 = .ok (.putfield 9, 3) := by decide +kernel
theorem dX2_init_12 : decode cX2_init 12 = .ok (.aload_n 0, 1) := by decide +kernel
theorem dX2_init_13 : decode cX2_init 13 = .ok (.getfield 9, 3) := by decide +kernel
theorem dX2_init_16 : decode cX2_init 16 = .ok (.iconst (-1), 1) := by decide +kernel
theorem dX2_init_17 : decode cX2_init 17 = .ok (.invokestatic 15, 3) := by decide +kernel
theorem dX2_init_20 : decode cX2_init 20 = .ok (.return_, 1) := by decide +kernel
theorem dX2_copyFrom_0 : decode cX2_copyFrom 0 = .ok (.aload_n 0, 1) := by decide +kernel
theorem dX2_copyFrom_1 : decode cX2_copyFrom 1 = .ok (.aload_n 1, 1) := by decide +kernel
theorem dX2_copyFrom_2 : decode cX2_copyFrom 2 = .ok (.getfield 21, 3) := by decide +kernel
theorem dX2_copyFrom_5 : decode cX2_copyFrom 5 = .ok (.putfield 21, 3) := by decide +kernel
theorem dX2_copyFrom_8 : decode cX2_copyFrom 8 = .ok (.aload_n 0, 1) := by decide +kernel
theorem dX2_copyFrom_9 : decode cX2_copyFrom 9 = .ok (.aload_n 1, 1) := by decide +kernel
theorem dX2_copyFrom_10 : decode cX2_copyFrom 10 = .ok (.getfield 25, 3) := by decide +kernel
theorem dX2_copyFrom_13 : decode cX2_copyFrom 13 = .ok (.putfield 25, 3) := by decide +kernel
theorem dX2_copyFrom_16 : decode cX2_copyFrom 16 = .ok (.aload_n 0, 1) := by decide +kernel
theorem dX2_copyFrom_17 : decode cX2_copyFrom 17 = .ok (.aload_n 1, 1) := by decide +kernel
theorem dX2_copyFrom_18 : decode cX2_copyFrom 18 = .ok (.getfield 28, 3) := by decide +kernel
theorem dX2_copyFrom_21 : decode cX2_copyFrom 21 = .ok (.putfield 28, 3) := by decide +kernel
theorem dX2_copyFrom_24 : decode cX2_copyFrom 24 = .ok (.aload_n 0, 1) := by decide +kernel
theorem dX2_copyFrom_25 : decode cX2_copyFrom 25 = .ok (.aload_n 1, 1) := by decide +kernel
theorem dX2_copyFrom_26 : decode cX2_copyFrom 26 = .ok (.getfield 31, 3) := by decide +kernel
theorem dX2_copyFrom_29 : decode cX2_copyFrom 29 = .ok (.putfield 31, 3) := by decide +kernel
theorem dX2_copyFrom_32 : decode cX2_copyFrom 32 = .ok (.aload_n 0, 1) := by decide +kernel
theorem dX2_copyFrom_33 : decode cX2_copyFrom 33 = .ok (.aload_n 1, 1) := by decide +kernel
theorem dX2_copyFrom_34 : decode cX2_copyFrom 34 = .ok (.getfield 34, 3) := by decide +kernel
theorem dX2_copyFrom_37 : decode cX2_copyFrom 37 = .ok (.putfield 34, 3) := by decide +kernel
theorem dX2_copyFrom_40 : decode cX2_copyFrom 40 = .ok (.aload_n 1, 1) := by decide +kernel
theorem dX2_copyFrom_41 : decode cX2_copyFrom 41 = .ok (.getfield 9, 3) := by decide +kernel
theorem dX2_copyFrom_44 : decode cX2_copyFrom 44 = .ok (.iconst 0, 1) := by decide +kernel
theorem dX2_copyFrom_45 : decode cX2_copyFrom 45 = .ok (.aload_n 0, 1) := by decide +kernel
theorem dX2_copyFrom_46 : decode cX2_copyFrom 46 = .ok (.getfield 9, 3) := by decide +kernel
theorem dX2_copyFrom_49 : decode cX2_copyFrom 49 = .ok (.iconst 0, 1) := by decide +kernel
theorem dX2_copyFrom_50 : decode cX2_copyFrom 50 = .ok (.bipush 30, 2) := by decide +kernel
theorem dX2_copyFrom_52 : decode cX2_copyFrom 52 = .ok (.invokestatic 37, 3) := by decide +kernel
theorem dX2_copyFrom_55 : decode cX2_copyFrom 55 = .ok (.return_, 1) := by decide +kernel
theorem dX2_isFrozen_0 : decode cX2_isFrozen 0 = .ok (.iload_n 1, 1) := by decide +kernel
theorem dX2_isFrozen_1 : decode cX2_isFrozen 1 = .ok (.ifCond .lt 23, 3) := by decide +kernel
theorem dX2_isFrozen_4 : decode cX2_isFrozen 4 = .ok (.iload_n 1, 1) := by decide +kernel
theorem dX2_isFrozen_5 : decode cX2_isFrozen 5 = .ok (.bipush 30, 2) := by decide +kernel
theorem dX2_isFrozen_7 : decode cX2_isFrozen 7 = .ok (.if_icmp .ge 17, 3) := by decide +kernel
theorem dX2_isFrozen_10 : decode cX2_isFrozen 10 = .ok (.aload_n 0, 1) := by decide +kernel
theorem dX2_isFrozen_11 : decode cX2_isFrozen 11 = .ok (.getfield 9, 3) := by decide +kernel
theorem dX2_isFrozen_14 : decode cX2_isFrozen 14 = .ok (.iload_n 1, 1) := by decide +kernel
theorem dX2_isFrozen_15 : decode cX2_isFrozen 15 = .ok (.iaload, 1) := by decide +kernel
theorem dX2_isFrozen_16 : decode cX2_isFrozen 16 = .ok (.iconst (-1), 1) := by decide +kernel
theorem dX2_isFrozen_17 : decode cX2_isFrozen 17 = .ok (.if_icmp .eq 7, 3) := by decide +kernel
theorem dX2_isFrozen_20 : decode cX2_isFrozen 20 = .ok (.iconst 1, 1) := by decide +kernel
theorem dX2_isFrozen_21 : decode cX2_isFrozen 21 = .ok (.goto 4, 3) := by decide +kernel
theorem dX2_isFrozen_24 : decode cX2_isFrozen 24 = .ok (.iconst 0, 1) := by decide +kernel
theorem dX2_isFrozen_25 : decode cX2_isFrozen 25 = .ok (.ireturn, 1) := by decide +kernel
set_option maxRecDepth 20000 in
theorem ggX2_frozenWithin_X2_isFrozen : GoodIn wsX2_frozenWithin wsX2_isFrozen := goodIn_r _ [5, 6, 7, 8, 9, 10, 11, 12] (by decide +kernel) (by decide +kernel)
set_option maxRecDepth 20000 in
theorem gX2_frozenWithin_X2_isFrozen : GoodIn wsX2_frozenWithin (wsV RX2 43 RX2 yX2_isFrozen wsX2_isFrozen) := goodIn_app (goodIn_of _ (by decide +kernel)) ggX2_frozenWithin_X2_isFrozen
theorem dX2_frozenWithin_0 : decode cX2_frozenWithin 0 = .ok (.iconst 0, 1) := by decide +kernel
theorem dX2_frozenWithin_1 : decode cX2_frozenWithin 1 = .ok (.istore_n 2, 1) := by decide +kernel
theorem dX2_frozenWithin_2 : decode cX2_frozenWithin 2 = .ok (.iconst 0, 1) := by decide +kernel
theorem dX2_frozenWithin_3 : decode cX2_frozenWithin 3 = .ok (.istore_n 3, 1) := by decide +kernel
theorem dX2_frozenWithin_4 : decode cX2_frozenWithin 4 = .ok (.iload_n 3, 1) := by decide +kernel
theorem dX2_frozenWithin_5 : decode cX2_frozenWithin 5 = .ok (.iload_n 1, 1) := by decide +kernel
theorem dX2_frozenWithin_6 : decode cX2_frozenWithin 6 = .ok (.if_icmp .ge 26, 3) := by decide +kernel
theorem dX2_frozenWithin_9 : decode cX2_frozenWithin 9 = .ok (.iload_n 3, 1) := by decide +kernel
theorem dX2_frozenWithin_10 : decode cX2_frozenWithin 10 = .ok (.bipush 30, 2) := by decide +kernel
theorem dX2_frozenWithin_12 : decode cX2_frozenWithin 12 = .ok (.if_icmp .ge 20, 3) := by decide +kernel
theorem dX2_frozenWithin_15 : decode cX2_frozenWithin 15 = .ok (.aload_n 0, 1) := by decide +kernel
theorem dX2_frozenWithin_16 : decode cX2_frozenWithin 16 = .ok (.iload_n 3, 1) := by decide +kernel
theorem dX2_frozenWithin_17 : decode cX2_frozenWithin 17 = .ok (.invokevirtual 43, 3) := by decide +kernel
theorem dX2_frozenWithin_20 : decode cX2_frozenWithin 20 = .ok (.ifCond .eq 6, 3) := by decide +kernel
theorem dX2_frozenWithin_23 : decode cX2_frozenWithin 23 = .ok (.iinc 2 1, 3) := by decide +kernel
theorem dX2_frozenWithin_26 : decode cX2_frozenWithin 26 = .ok (.iinc 3 1, 3) := by decide +kernel
theorem dX2_frozenWithin_29 : decode cX2_frozenWithin 29 = .ok (.goto (-25), 3) := by decide +kernel
theorem dX2_frozenWithin_32 : decode cX2_frozenWithin 32 = .ok (.iload_n 2, 1) := by decide +kernel
theorem dX2_frozenWithin_33 : decode cX2_frozenWithin 33 = .ok (.ireturn, 1) := by decide +kernel
set_option maxRecDepth 20000 in
theorem ggX2_layersWithin_X2_beginsLayer : GoodIn wsX2_layersWithin wsX2_beginsLayer := goodIn_r _ [5, 6, 7, 8, 4, 9, 10, 11, 12, 13, 14, 15, 16] (by decide +kernel) (by decide +kernel)
set_option maxRecDepth 20000 in
theorem gX2_layersWithin_X2_beginsLayer : GoodIn wsX2_layersWithin (wsV RX2 47 RX2 yX2_beginsLayer wsX2_beginsLayer) := goodIn_app (goodIn_of _ (by decide +kernel)) ggX2_layersWithin_X2_beginsLayer
theorem dX2_layersWithin_0 : decode cX2_layersWithin 0 = .ok (.iconst 0, 1) := by decide +kernel
theorem dX2_layersWithin_1 : decode cX2_layersWithin 1 = .ok (.istore_n 2, 1) := by decide +kernel
theorem dX2_layersWithin_2 : decode cX2_layersWithin 2 = .ok (.iconst 0, 1) := by decide +kernel
theorem dX2_layersWithin_3 : decode cX2_layersWithin 3 = .ok (.istore_n 3, 1) := by decide +kernel
theorem dX2_layersWithin_4 : decode cX2_layersWithin 4 = .ok (.iload_n 3, 1) := by decide +kernel
theorem dX2_layersWithin_5 : decode cX2_layersWithin 5 = .ok (.iload_n 1, 1) := by decide +kernel
theorem dX2_layersWithin_6 : decode cX2_layersWithin 6 = .ok (.if_icmp .ge 26, 3) := by decide +kernel
theorem dX2_layersWithin_9 : decode cX2_layersWithin 9 = .ok (.iload_n 3, 1) := by decide +kernel
theorem dX2_layersWithin_10 : decode cX2_layersWithin 10 = .ok (.bipush 30, 2) := by decide +kernel
theorem dX2_layersWithin_12 : decode cX2_layersWithin 12 = .ok (.if_icmp .ge 20, 3) := by decide +kernel
theorem dX2_layersWithin_15 : decode cX2_layersWithin 15 = .ok (.aload_n 0, 1) := by decide +kernel
theorem dX2_layersWithin_16 : decode cX2_layersWithin 16 = .ok (.iload_n 3, 1) := by decide +kernel
theorem dX2_layersWithin_17 : decode cX2_layersWithin 17 = .ok (.invokevirtual 47, 3) := by decide +kernel
theorem dX2_layersWithin_20 : decode cX2_layersWithin 20 = .ok (.ifCond .eq 6, 3) := by decide +kernel
theorem dX2_layersWithin_23 : decode cX2_layersWithin 23 = .ok (.iinc 2 1, 3) := by decide +kernel
theorem dX2_layersWithin_26 : decode cX2_layersWithin 26 = .ok (.iinc 3 1, 3) := by decide +kernel
theorem dX2_layersWithin_29 : decode cX2_layersWithin 29 = .ok (.goto (-25), 3) := by decide +kernel
theorem dX2_layersWithin_32 : decode cX2_layersWithin 32 = .ok (.iload_n 2, 1) := by decide +kernel
theorem dX2_layersWithin_33 : decode cX2_layersWithin 33 = .ok (.ireturn, 1) := by decide +kernel
set_option maxRecDepth 20000 in
theorem ggX2_lowestWithin_X2_isFrozen : GoodIn wsX2_lowestWithin wsX2_isFrozen := goodIn_r _ [5, 6, 7, 8, 9, 10, 11, 12] (by decide +kernel) (by decide +kernel)
set_option maxRecDepth 20000 in
theorem gX2_lowestWithin_X2_isFrozen : GoodIn wsX2_lowestWithin (wsV RX2 43 RX2 yX2_isFrozen wsX2_isFrozen) := goodIn_app (goodIn_of _ (by decide +kernel)) ggX2_lowestWithin_X2_isFrozen
theorem dX2_lowestWithin_0 : decode cX2_lowestWithin 0 = .ok (.iconst (-1), 1) := by decide +kernel
theorem dX2_lowestWithin_1 : decode cX2_lowestWithin 1 = .ok (.istore_n 2, 1) := by decide +kernel
theorem dX2_lowestWithin_2 : decode cX2_lowestWithin 2 = .ok (.iconst 0, 1) := by decide +kernel
theorem dX2_lowestWithin_3 : decode cX2_lowestWithin 3 = .ok (.istore_n 3, 1) := by decide +kernel
theorem dX2_lowestWithin_4 : decode cX2_lowestWithin 4 = .ok (.iload_n 3, 1) := by decide +kernel
theorem dX2_lowestWithin_5 : decode cX2_lowestWithin 5 = .ok (.iload_n 1, 1) := by decide +kernel
theorem dX2_lowestWithin_6 : decode cX2_lowestWithin 6 = .ok (.if_icmp .ge 25, 3) := by decide +kernel
theorem dX2_lowestWithin_9 : decode cX2_lowestWithin 9 = .ok (.iload_n 3, 1) := by decide +kernel
theorem dX2_lowestWithin_10 : decode cX2_lowestWithin 10 = .ok (.bipush 30, 2) := by decide +kernel
theorem dX2_lowestWithin_12 : decode cX2_lowestWithin 12 = .ok (.if_icmp .ge 19, 3) := by decide +kernel
theorem dX2_lowestWithin_15 : decode cX2_lowestWithin 15 = .ok (.aload_n 0, 1) := by decide +kernel
theorem dX2_lowestWithin_16 : decode cX2_lowestWithin 16 = .ok (.iload_n 3, 1) := by decide +kernel
theorem dX2_lowestWithin_17 : decode cX2_lowestWithin 17 = .ok (.invokevirtual 43, 3) := by decide +kernel
theorem dX2_lowestWithin_20 : decode cX2_lowestWithin 20 = .ok (.ifCond .eq 5, 3) := by decide +kernel
theorem dX2_lowestWithin_23 : decode cX2_lowestWithin 23 = .ok (.iload_n 3, 1) := by decide +kernel
theorem dX2_lowestWithin_24 : decode cX2_lowestWithin 24 = .ok (.istore_n 2, 1) := by decide +kernel
theorem dX2_lowestWithin_25 : decode cX2_lowestWithin 25 = .ok (.iinc 3 1, 3) := by decide +kernel
theorem dX2_lowestWithin_28 : decode cX2_lowestWithin 28 = .ok (.goto (-24), 3) := by decide +kernel
theorem dX2_lowestWithin_31 : decode cX2_lowestWithin 31 = .ok (.iload_n 2, 1) := by decide +kernel
theorem dX2_lowestWithin_32 : decode cX2_lowestWithin 32 = .ok (.ireturn, 1) := by decide +kernel
set_option maxRecDepth 20000 in
theorem ggX2_beginsLayer_X2_isFrozen : GoodIn wsX2_beginsLayer wsX2_isFrozen := goodIn_r _ [5, 6, 7, 8, 9, 10, 11, 12] (by decide +kernel) (by decide +kernel)
set_option maxRecDepth 20000 in
theorem gX2_beginsLayer_X2_isFrozen : GoodIn wsX2_beginsLayer (wsV RX2 43 RX2 yX2_isFrozen wsX2_isFrozen) := goodIn_app (goodIn_of _ (by decide +kernel)) ggX2_beginsLayer_X2_isFrozen
theorem dX2_beginsLayer_0 : decode cX2_beginsLayer 0 = .ok (.aload_n 0, 1) := by decide +kernel
theorem dX2_beginsLayer_1 : decode cX2_beginsLayer 1 = .ok (.iload_n 1, 1) := by decide +kernel
theorem dX2_beginsLayer_2 : decode cX2_beginsLayer 2 = .ok (.invokevirtual 43, 3) := by decide +kernel
theorem dX2_beginsLayer_5 : decode cX2_beginsLayer 5 = .ok (.ifCond .eq 17, 3) := by decide +kernel
theorem dX2_beginsLayer_8 : decode cX2_beginsLayer 8 = .ok (.aload_n 0, 1) := by decide +kernel
theorem dX2_beginsLayer_9 : decode cX2_beginsLayer 9 = .ok (.iload_n 1, 1) := by decide +kernel
theorem dX2_beginsLayer_10 : decode cX2_beginsLayer 10 = .ok (.iconst 1, 1) := by decide +kernel
theorem dX2_beginsLayer_11 : decode cX2_beginsLayer 11 = .ok (.isub, 1) := by decide +kernel
theorem dX2_beginsLayer_12 : decode cX2_beginsLayer 12 = .ok (.invokevirtual 43, 3) := by decide +kernel
theorem dX2_beginsLayer_15 : decode cX2_beginsLayer 15 = .ok (.ifCond .ne 7, 3) := by decide +kernel
theorem dX2_beginsLayer_18 : decode cX2_beginsLayer 18 = .ok (.iconst 1, 1) := by decide +kernel
theorem dX2_beginsLayer_19 : decode cX2_beginsLayer 19 = .ok (.goto 4, 3) := by decide +kernel
theorem dX2_beginsLayer_22 : decode cX2_beginsLayer 22 = .ok (.iconst 0, 1) := by decide +kernel
theorem dX2_beginsLayer_23 : decode cX2_beginsLayer 23 = .ok (.ireturn, 1) := by decide +kernel
set_option maxRecDepth 20000 in
theorem ggX2_layersAsTheyFroze_X2_isFrozen : GoodIn wsX2_layersAsTheyFroze wsX2_isFrozen := goodIn_r _ [5, 6, 11, 12, 13, 14, 15, 16] (by decide +kernel) (by decide +kernel)
set_option maxRecDepth 20000 in
theorem gX2_layersAsTheyFroze_X2_isFrozen : GoodIn wsX2_layersAsTheyFroze (wsV RX2 43 RX2 yX2_isFrozen wsX2_isFrozen) := goodIn_app (goodIn_of _ (by decide +kernel)) ggX2_layersAsTheyFroze_X2_isFrozen
set_option maxRecDepth 20000 in
theorem ggX2_layersAsTheyFroze_X2_frozeBefore : GoodIn wsX2_layersAsTheyFroze wsX2_frozeBefore := goodIn_r _ [10, 6, 1, 2, 3, 4, 5, 11, 12, 13, 14, 15, 16] (by decide +kernel) (by decide +kernel)
set_option maxRecDepth 20000 in
theorem gX2_layersAsTheyFroze_X2_frozeBefore : GoodIn wsX2_layersAsTheyFroze (wsV RX2 50 RX2 yX2_frozeBefore wsX2_frozeBefore) := goodIn_app (goodIn_of _ (by decide +kernel)) ggX2_layersAsTheyFroze_X2_frozeBefore
theorem dX2_layersAsTheyFroze_0 : decode cX2_layersAsTheyFroze 0 = .ok (.iconst 0, 1) := by decide +kernel
theorem dX2_layersAsTheyFroze_1 : decode cX2_layersAsTheyFroze 1 = .ok (.istore_n 1, 1) := by decide +kernel
theorem dX2_layersAsTheyFroze_2 : decode cX2_layersAsTheyFroze 2 = .ok (.iconst 0, 1) := by decide +kernel
theorem dX2_layersAsTheyFroze_3 : decode cX2_layersAsTheyFroze 3 = .ok (.istore_n 2, 1) := by decide +kernel
theorem dX2_layersAsTheyFroze_4 : decode cX2_layersAsTheyFroze 4 = .ok (.iload_n 2, 1) := by decide +kernel
theorem dX2_layersAsTheyFroze_5 : decode cX2_layersAsTheyFroze 5 = .ok (.bipush 30, 2) := by decide +kernel
theorem dX2_layersAsTheyFroze_7 : decode cX2_layersAsTheyFroze 7 = .ok (.if_icmp .ge 55, 3) := by decide +kernel
theorem dX2_layersAsTheyFroze_10 : decode cX2_layersAsTheyFroze 10 = .ok (.aload_n 0, 1) := by decide +kernel
theorem dX2_layersAsTheyFroze_11 : decode cX2_layersAsTheyFroze 11 = .ok (.iload_n 2, 1) := by decide +kernel
theorem dX2_layersAsTheyFroze_12 : decode cX2_layersAsTheyFroze 12 = .ok (.invokevirtual 43, 3) := by decide +kernel
theorem dX2_layersAsTheyFroze_15 : decode cX2_layersAsTheyFroze 15 = .ok (.ifCond .eq 41, 3) := by decide +kernel
theorem dX2_layersAsTheyFroze_18 : decode cX2_layersAsTheyFroze 18 = .ok (.iload_n 1, 1) := by decide +kernel
theorem dX2_layersAsTheyFroze_19 : decode cX2_layersAsTheyFroze 19 = .ok (.iconst 1, 1) := by decide +kernel
theorem dX2_layersAsTheyFroze_20 : decode cX2_layersAsTheyFroze 20 = .ok (.aload_n 0, 1) := by decide +kernel
theorem dX2_layersAsTheyFroze_21 : decode cX2_layersAsTheyFroze 21 = .ok (.iload_n 2, 1) := by decide +kernel
theorem dX2_layersAsTheyFroze_22 : decode cX2_layersAsTheyFroze 22 = .ok (.iconst 1, 1) := by decide +kernel
theorem dX2_layersAsTheyFroze_23 : decode cX2_layersAsTheyFroze 23 = .ok (.isub, 1) := by decide +kernel
theorem dX2_layersAsTheyFroze_24 : decode cX2_layersAsTheyFroze 24 = .ok (.iload_n 2, 1) := by decide +kernel
theorem dX2_layersAsTheyFroze_25 : decode cX2_layersAsTheyFroze 25 = .ok (.invokevirtual 50, 3) := by decide +kernel
theorem dX2_layersAsTheyFroze_28 : decode cX2_layersAsTheyFroze 28 = .ok (.ifCond .eq 7, 3) := by decide +kernel
theorem dX2_layersAsTheyFroze_31 : decode cX2_layersAsTheyFroze 31 = .ok (.iconst 1, 1) := by decide +kernel
theorem dX2_layersAsTheyFroze_32 : decode cX2_layersAsTheyFroze 32 = .ok (.goto 4, 3) := by decide +kernel
theorem dX2_layersAsTheyFroze_35 : decode cX2_layersAsTheyFroze 35 = .ok (.iconst 0, 1) := by decide +kernel
theorem dX2_layersAsTheyFroze_36 : decode cX2_layersAsTheyFroze 36 = .ok (.isub, 1) := by decide +kernel
theorem dX2_layersAsTheyFroze_37 : decode cX2_layersAsTheyFroze 37 = .ok (.aload_n 0, 1) := by decide +kernel
theorem dX2_layersAsTheyFroze_38 : decode cX2_layersAsTheyFroze 38 = .ok (.iload_n 2, 1) := by decide +kernel
theorem dX2_layersAsTheyFroze_39 : decode cX2_layersAsTheyFroze 39 = .ok (.iconst 1, 1) := by decide +kernel
theorem dX2_layersAsTheyFroze_40 : decode cX2_layersAsTheyFroze 40 = .ok (.iadd, 1) := by decide +kernel
theorem dX2_layersAsTheyFroze_41 : decode cX2_layersAsTheyFroze 41 = .ok (.iload_n 2, 1) := by decide +kernel
theorem dX2_layersAsTheyFroze_42 : decode cX2_layersAsTheyFroze 42 = .ok (.invokevirtual 50, 3) := by decide +kernel
theorem dX2_layersAsTheyFroze_45 : decode cX2_layersAsTheyFroze 45 = .ok (.ifCond .eq 7, 3) := by decide +kernel
theorem dX2_layersAsTheyFroze_48 : decode cX2_layersAsTheyFroze 48 = .ok (.iconst 1, 1) := by decide +kernel
theorem dX2_layersAsTheyFroze_49 : decode cX2_layersAsTheyFroze 49 = .ok (.goto 4, 3) := by decide +kernel
theorem dX2_layersAsTheyFroze_52 : decode cX2_layersAsTheyFroze 52 = .ok (.iconst 0, 1) := by decide +kernel
theorem dX2_layersAsTheyFroze_53 : decode cX2_layersAsTheyFroze 53 = .ok (.isub, 1) := by decide +kernel
theorem dX2_layersAsTheyFroze_54 : decode cX2_layersAsTheyFroze 54 = .ok (.iadd, 1) := by decide +kernel
theorem dX2_layersAsTheyFroze_55 : decode cX2_layersAsTheyFroze 55 = .ok (.istore_n 1, 1) := by decide +kernel
theorem dX2_layersAsTheyFroze_56 : decode cX2_layersAsTheyFroze 56 = .ok (.iinc 2 1, 3) := by decide +kernel
theorem dX2_layersAsTheyFroze_59 : decode cX2_layersAsTheyFroze 59 = .ok (.goto (-55), 3) := by decide +kernel
theorem dX2_layersAsTheyFroze_62 : decode cX2_layersAsTheyFroze 62 = .ok (.iload_n 1, 1) := by decide +kernel
theorem dX2_layersAsTheyFroze_63 : decode cX2_layersAsTheyFroze 63 = .ok (.ireturn, 1) := by decide +kernel
set_option maxRecDepth 20000 in
theorem ggX2_frozeBefore_X2_isFrozen : GoodIn wsX2_frozeBefore wsX2_isFrozen := goodIn_r _ [6, 1, 7, 8, 9, 10, 11, 12] (by decide +kernel) (by decide +kernel)
set_option maxRecDepth 20000 in
theorem gX2_frozeBefore_X2_isFrozen : GoodIn wsX2_frozeBefore (wsV RX2 43 RX2 yX2_isFrozen wsX2_isFrozen) := goodIn_app (goodIn_of _ (by decide +kernel)) ggX2_frozeBefore_X2_isFrozen
theorem dX2_frozeBefore_0 : decode cX2_frozeBefore 0 = .ok (.aload_n 0, 1) := by decide +kernel
theorem dX2_frozeBefore_1 : decode cX2_frozeBefore 1 = .ok (.iload_n 1, 1) := by decide +kernel
theorem dX2_frozeBefore_2 : decode cX2_frozeBefore 2 = .ok (.invokevirtual 43, 3) := by decide +kernel
theorem dX2_frozeBefore_5 : decode cX2_frozeBefore 5 = .ok (.ifCond .eq 11, 3) := by decide +kernel
theorem dX2_frozeBefore_8 : decode cX2_frozeBefore 8 = .ok (.aload_n 0, 1) := by decide +kernel
theorem dX2_frozeBefore_9 : decode cX2_frozeBefore 9 = .ok (.iload_n 2, 1) := by decide +kernel
theorem dX2_frozeBefore_10 : decode cX2_frozeBefore 10 = .ok (.invokevirtual 43, 3) := by decide +kernel
theorem dX2_frozeBefore_13 : decode cX2_frozeBefore 13 = .ok (.ifCond .ne 5, 3) := by decide +kernel
theorem dX2_frozeBefore_16 : decode cX2_frozeBefore 16 = .ok (.iconst 0, 1) := by decide +kernel
theorem dX2_frozeBefore_17 : decode cX2_frozeBefore 17 = .ok (.ireturn, 1) := by decide +kernel
theorem dX2_frozeBefore_18 : decode cX2_frozeBefore 18 = .ok (.aload_n 0, 1) := by decide +kernel
theorem dX2_frozeBefore_19 : decode cX2_frozeBefore 19 = .ok (.getfield 9, 3) := by decide +kernel
theorem dX2_frozeBefore_22 : decode cX2_frozeBefore 22 = .ok (.iload_n 1, 1) := by decide +kernel
theorem dX2_frozeBefore_23 : decode cX2_frozeBefore 23 = .ok (.iaload, 1) := by decide +kernel
theorem dX2_frozeBefore_24 : decode cX2_frozeBefore 24 = .ok (.istore_n 3, 1) := by decide +kernel
theorem dX2_frozeBefore_25 : decode cX2_frozeBefore 25 = .ok (.aload_n 0, 1) := by decide +kernel
theorem dX2_frozeBefore_26 : decode cX2_frozeBefore 26 = .ok (.getfield 9, 3) := by decide +kernel
theorem dX2_frozeBefore_29 : decode cX2_frozeBefore 29 = .ok (.iload_n 2, 1) := by decide +kernel
theorem dX2_frozeBefore_30 : decode cX2_frozeBefore 30 = .ok (.iaload, 1) := by decide +kernel
theorem dX2_frozeBefore_31 : decode cX2_frozeBefore 31 = .ok (.istore 4, 2) := by decide +kernel
theorem dX2_frozeBefore_33 : decode cX2_frozeBefore 33 = .ok (.iload_n 3, 1) := by decide +kernel
theorem dX2_frozeBefore_34 : decode cX2_frozeBefore 34 = .ok (.iload 4, 2) := by decide +kernel
theorem dX2_frozeBefore_36 : decode cX2_frozeBefore 36 = .ok (.if_icmp .lt 14, 3) := by decide +kernel
theorem dX2_frozeBefore_39 : decode cX2_frozeBefore 39 = .ok (.iload_n 3, 1) := by decide +kernel
theorem dX2_frozeBefore_40 : decode cX2_frozeBefore 40 = .ok (.iload 4, 2) := by decide +kernel
theorem dX2_frozeBefore_42 : decode cX2_frozeBefore 42 = .ok (.if_icmp .ne 12, 3) := by decide +kernel
theorem dX2_frozeBefore_45 : decode cX2_frozeBefore 45 = .ok (.iload_n 1, 1) := by decide +kernel
theorem dX2_frozeBefore_46 : decode cX2_frozeBefore 46 = .ok (.iload_n 2, 1) := by decide +kernel
theorem dX2_frozeBefore_47 : decode cX2_frozeBefore 47 = .ok (.if_icmp .ge 7, 3) := by decide +kernel
theorem dX2_frozeBefore_50 : decode cX2_frozeBefore 50 = .ok (.iconst 1, 1) := by decide +kernel
theorem dX2_frozeBefore_51 : decode cX2_frozeBefore 51 = .ok (.goto 4, 3) := by decide +kernel
theorem dX2_frozeBefore_54 : decode cX2_frozeBefore 54 = .ok (.iconst 0, 1) := by decide +kernel
theorem dX2_frozeBefore_55 : decode cX2_frozeBefore 55 = .ok (.ireturn, 1) := by decide +kernel
set_option maxRecDepth 20000 in
theorem ggX2_firstOfLayer_X2_beginsLayer : GoodIn wsX2_firstOfLayer wsX2_beginsLayer := goodIn_r _ [5, 6, 7, 8, 4, 9, 10, 11, 12, 13, 14, 15, 16] (by decide +kernel) (by decide +kernel)
set_option maxRecDepth 20000 in
theorem gX2_firstOfLayer_X2_beginsLayer : GoodIn wsX2_firstOfLayer (wsV RX2 47 RX2 yX2_beginsLayer wsX2_beginsLayer) := goodIn_app (goodIn_of _ (by decide +kernel)) ggX2_firstOfLayer_X2_beginsLayer
theorem dX2_firstOfLayer_0 : decode cX2_firstOfLayer 0 = .ok (.iconst (-1), 1) := by decide +kernel
theorem dX2_firstOfLayer_1 : decode cX2_firstOfLayer 1 = .ok (.istore_n 2, 1) := by decide +kernel
theorem dX2_firstOfLayer_2 : decode cX2_firstOfLayer 2 = .ok (.iconst 0, 1) := by decide +kernel
theorem dX2_firstOfLayer_3 : decode cX2_firstOfLayer 3 = .ok (.istore_n 3, 1) := by decide +kernel
theorem dX2_firstOfLayer_4 : decode cX2_firstOfLayer 4 = .ok (.iload_n 3, 1) := by decide +kernel
theorem dX2_firstOfLayer_5 : decode cX2_firstOfLayer 5 = .ok (.bipush 30, 2) := by decide +kernel
theorem dX2_firstOfLayer_7 : decode cX2_firstOfLayer 7 = .ok (.if_icmp .ge 27, 3) := by decide +kernel
theorem dX2_firstOfLayer_10 : decode cX2_firstOfLayer 10 = .ok (.aload_n 0, 1) := by decide +kernel
theorem dX2_firstOfLayer_11 : decode cX2_firstOfLayer 11 = .ok (.iload_n 3, 1) := by decide +kernel
theorem dX2_firstOfLayer_12 : decode cX2_firstOfLayer 12 = .ok (.invokevirtual 47, 3) := by decide +kernel
theorem dX2_firstOfLayer_15 : decode cX2_firstOfLayer 15 = .ok (.ifCond .eq 13, 3) := by decide +kernel
theorem dX2_firstOfLayer_18 : decode cX2_firstOfLayer 18 = .ok (.iinc 2 1, 3) := by decide +kernel
theorem dX2_firstOfLayer_21 : decode cX2_firstOfLayer 21 = .ok (.iload_n 2, 1) := by decide +kernel
theorem dX2_firstOfLayer_22 : decode cX2_firstOfLayer 22 = .ok (.iload_n 1, 1) := by decide +kernel
theorem dX2_firstOfLayer_23 : decode cX2_firstOfLayer 23 = .ok (.if_icmp .ne 5, 3) := by decide +kernel
theorem dX2_firstOfLayer_26 : decode cX2_firstOfLayer 26 = .ok (.iload_n 3, 1) := by decide +kernel
theorem dX2_firstOfLayer_27 : decode cX2_firstOfLayer 27 = .ok (.ireturn, 1) := by decide +kernel
theorem dX2_firstOfLayer_28 : decode cX2_firstOfLayer 28 = .ok (.iinc 3 1, 3) := by decide +kernel
theorem dX2_firstOfLayer_31 : decode cX2_firstOfLayer 31 = .ok (.goto (-27), 3) := by decide +kernel
theorem dX2_firstOfLayer_34 : decode cX2_firstOfLayer 34 = .ok (.iconst (-1), 1) := by decide +kernel
theorem dX2_firstOfLayer_35 : decode cX2_firstOfLayer 35 = .ok (.ireturn, 1) := by decide +kernel
set_option maxRecDepth 20000 in
theorem ggX2_endOfLayer_X2_isFrozen : GoodIn wsX2_endOfLayer wsX2_isFrozen := goodIn_r _ [5, 6, 7, 8, 9, 10, 11, 12] (by decide +kernel) (by decide +kernel)
set_option maxRecDepth 20000 in
theorem gX2_endOfLayer_X2_isFrozen : GoodIn wsX2_endOfLayer (wsV RX2 43 RX2 yX2_isFrozen wsX2_isFrozen) := goodIn_app (goodIn_of _ (by decide +kernel)) ggX2_endOfLayer_X2_isFrozen
theorem dX2_endOfLayer_0 : decode cX2_endOfLayer 0 = .ok (.iload_n 1, 1) := by decide +kernel
theorem dX2_endOfLayer_1 : decode cX2_endOfLayer 1 = .ok (.istore_n 2, 1) := by decide +kernel
theorem dX2_endOfLayer_2 : decode cX2_endOfLayer 2 = .ok (.iload_n 2, 1) := by decide +kernel
theorem dX2_endOfLayer_3 : decode cX2_endOfLayer 3 = .ok (.bipush 30, 2) := by decide +kernel
theorem dX2_endOfLayer_5 : decode cX2_endOfLayer 5 = .ok (.if_icmp .ge 17, 3) := by decide +kernel
theorem dX2_endOfLayer_8 : decode cX2_endOfLayer 8 = .ok (.aload_n 0, 1) := by decide +kernel
theorem dX2_endOfLayer_9 : decode cX2_endOfLayer 9 = .ok (.iload_n 2, 1) := by decide +kernel
theorem dX2_endOfLayer_10 : decode cX2_endOfLayer 10 = .ok (.invokevirtual 43, 3) := by decide +kernel
theorem dX2_endOfLayer_13 : decode cX2_endOfLayer 13 = .ok (.ifCond .eq 9, 3) := by decide +kernel
theorem dX2_endOfLayer_16 : decode cX2_endOfLayer 16 = .ok (.iinc 2 1, 3) := by decide +kernel
theorem dX2_endOfLayer_19 : decode cX2_endOfLayer 19 = .ok (.goto (-17), 3) := by decide +kernel
theorem dX2_endOfLayer_22 : decode cX2_endOfLayer 22 = .ok (.iload_n 2, 1) := by decide +kernel
theorem dX2_endOfLayer_23 : decode cX2_endOfLayer 23 = .ok (.ireturn, 1) := by decide +kernel
set_option maxRecDepth 20000 in
theorem ggX2_gapBelow_X2_isFrozen : GoodIn wsX2_gapBelow wsX2_isFrozen := goodIn_r _ [5, 6, 7, 8, 9, 10, 11, 12] (by decide +kernel) (by decide +kernel)
set_option maxRecDepth 20000 in
theorem gX2_gapBelow_X2_isFrozen : GoodIn wsX2_gapBelow (wsV RX2 43 RX2 yX2_isFrozen wsX2_isFrozen) := goodIn_app (goodIn_of _ (by decide +kernel)) ggX2_gapBelow_X2_isFrozen
theorem dX2_gapBelow_0 : decode cX2_gapBelow 0 = .ok (.iload_n 1, 1) := by decide +kernel
theorem dX2_gapBelow_1 : decode cX2_gapBelow 1 = .ok (.istore_n 2, 1) := by decide +kernel
theorem dX2_gapBelow_2 : decode cX2_gapBelow 2 = .ok (.iload_n 2, 1) := by decide +kernel
theorem dX2_gapBelow_3 : decode cX2_gapBelow 3 = .ok (.bipush 30, 2) := by decide +kernel
theorem dX2_gapBelow_5 : decode cX2_gapBelow 5 = .ok (.if_icmp .ge 21, 3) := by decide +kernel
theorem dX2_gapBelow_8 : decode cX2_gapBelow 8 = .ok (.aload_n 0, 1) := by decide +kernel
theorem dX2_gapBelow_9 : decode cX2_gapBelow 9 = .ok (.iload_n 2, 1) := by decide +kernel
theorem dX2_gapBelow_10 : decode cX2_gapBelow 10 = .ok (.invokevirtual 43, 3) := by decide +kernel
theorem dX2_gapBelow_13 : decode cX2_gapBelow 13 = .ok (.ifCond .eq 7, 3) := by decide +kernel
theorem dX2_gapBelow_16 : decode cX2_gapBelow 16 = .ok (.iload_n 2, 1) := by decide +kernel
theorem dX2_gapBelow_17 : decode cX2_gapBelow 17 = .ok (.iload_n 1, 1) := by decide +kernel
theorem dX2_gapBelow_18 : decode cX2_gapBelow 18 = .ok (.isub, 1) := by decide +kernel
theorem dX2_gapBelow_19 : decode cX2_gapBelow 19 = .ok (.ireturn, 1) := by decide +kernel
theorem dX2_gapBelow_20 : decode cX2_gapBelow 20 = .ok (.iinc 2 1, 3) := by decide +kernel
theorem dX2_gapBelow_23 : decode cX2_gapBelow 23 = .ok (.goto (-21), 3) := by decide +kernel
theorem dX2_gapBelow_26 : decode cX2_gapBelow 26 = .ok (.iconst 0, 1) := by decide +kernel
theorem dX2_gapBelow_27 : decode cX2_gapBelow 27 = .ok (.ireturn, 1) := by decide +kernel
set_option maxRecDepth 20000 in
theorem ggX2_oldestDay_X2_isFrozen : GoodIn wsX2_oldestDay wsX2_isFrozen := goodIn_r _ [10, 1, 11, 12, 13, 14, 15, 16] (by decide +kernel) (by decide +kernel)
set_option maxRecDepth 20000 in
theorem gX2_oldestDay_X2_isFrozen : GoodIn wsX2_oldestDay (wsV RX2 43 RX2 yX2_isFrozen wsX2_isFrozen) := goodIn_app (goodIn_of _ (by decide +kernel)) ggX2_oldestDay_X2_isFrozen
theorem dX2_oldestDay_0 : decode cX2_oldestDay 0 = .ok (.sipush 9999, 3) := by decide +kernel
theorem dX2_oldestDay_3 : decode cX2_oldestDay 3 = .ok (.istore_n 3, 1) := by decide +kernel
theorem dX2_oldestDay_4 : decode cX2_oldestDay 4 = .ok (.iload_n 1, 1) := by decide +kernel
theorem dX2_oldestDay_5 : decode cX2_oldestDay 5 = .ok (.istore 4, 2) := by decide +kernel
theorem dX2_oldestDay_7 : decode cX2_oldestDay 7 = .ok (.iload 4, 2) := by decide +kernel
theorem dX2_oldestDay_9 : decode cX2_oldestDay 9 = .ok (.iload_n 2, 1) := by decide +kernel
theorem dX2_oldestDay_10 : decode cX2_oldestDay 10 = .ok (.if_icmp .ge 37, 3) := by decide +kernel
theorem dX2_oldestDay_13 : decode cX2_oldestDay 13 = .ok (.iload 4, 2) := by decide +kernel
theorem dX2_oldestDay_15 : decode cX2_oldestDay 15 = .ok (.bipush 30, 2) := by decide +kernel
theorem dX2_oldestDay_17 : decode cX2_oldestDay 17 = .ok (.if_icmp .ge 30, 3) := by decide +kernel
theorem dX2_oldestDay_20 : decode cX2_oldestDay 20 = .ok (.aload_n 0, 1) := by decide +kernel
theorem dX2_oldestDay_21 : decode cX2_oldestDay 21 = .ok (.iload 4, 2) := by decide +kernel
theorem dX2_oldestDay_23 : decode cX2_oldestDay 23 = .ok (.invokevirtual 43, 3) := by decide +kernel
theorem dX2_oldestDay_26 : decode cX2_oldestDay 26 = .ok (.ifCond .eq 15, 3) := by decide +kernel
theorem dX2_oldestDay_29 : decode cX2_oldestDay 29 = .ok (.iload_n 3, 1) := by decide +kernel
theorem dX2_oldestDay_30 : decode cX2_oldestDay 30 = .ok (.aload_n 0, 1) := by decide +kernel
theorem dX2_oldestDay_31 : decode cX2_oldestDay 31 = .ok (.getfield 9, 3) := by decide +kernel
theorem dX2_oldestDay_34 : decode cX2_oldestDay 34 = .ok (.iload 4, 2) := by decide +kernel
theorem dX2_oldestDay_36 : decode cX2_oldestDay 36 = .ok (.iaload, 1) := by decide +kernel
theorem dX2_oldestDay_37 : decode cX2_oldestDay 37 = .ok (.invokestatic 54, 3) := by decide +kernel
theorem dX2_oldestDay_40 : decode cX2_oldestDay 40 = .ok (.istore_n 3, 1) := by decide +kernel
theorem dX2_oldestDay_41 : decode cX2_oldestDay 41 = .ok (.iinc 4 1, 3) := by decide +kernel
theorem dX2_oldestDay_44 : decode cX2_oldestDay 44 = .ok (.goto (-37), 3) := by decide +kernel
theorem dX2_oldestDay_47 : decode cX2_oldestDay 47 = .ok (.iload_n 3, 1) := by decide +kernel
theorem dX2_oldestDay_48 : decode cX2_oldestDay 48 = .ok (.ireturn, 1) := by decide +kernel
set_option maxRecDepth 20000 in
theorem ggX2_numberOfLayer_X2_endOfLayer : GoodIn wsX2_numberOfLayer wsX2_endOfLayer := goodIn_r _ [5, 6, 7, 8, 4, 9, 10, 23, 24, 25, 26, 27, 28] (by decide +kernel) (by decide +kernel)
set_option maxRecDepth 20000 in
theorem gX2_numberOfLayer_X2_endOfLayer : GoodIn wsX2_numberOfLayer (wsV RX2 60 RX2 yX2_endOfLayer wsX2_endOfLayer) := goodIn_app (goodIn_of _ (by decide +kernel)) ggX2_numberOfLayer_X2_endOfLayer
set_option maxRecDepth 20000 in
theorem ggX2_numberOfLayer_X2_gapBelow : GoodIn wsX2_numberOfLayer wsX2_gapBelow := goodIn_r _ [14, 6, 7, 8, 4, 9, 10, 23, 24, 25, 26, 27, 28] (by decide +kernel) (by decide +kernel)
set_option maxRecDepth 20000 in
theorem gX2_numberOfLayer_X2_gapBelow : GoodIn wsX2_numberOfLayer (wsV RX2 64 RX2 yX2_gapBelow wsX2_gapBelow) := goodIn_app (goodIn_of _ (by decide +kernel)) ggX2_numberOfLayer_X2_gapBelow
set_option maxRecDepth 20000 in
theorem ggX2_numberOfLayer_X2_oldestDay : GoodIn wsX2_numberOfLayer wsX2_oldestDay := goodIn_r _ [18, 10, 19, 20, 21, 22, 6, 7, 8, 4, 9, 23, 24, 25, 26, 27, 28] (by decide +kernel) (by decide +kernel)
set_option maxRecDepth 20000 in
theorem gX2_numberOfLayer_X2_oldestDay : GoodIn wsX2_numberOfLayer (wsV RX2 67 RX2 yX2_oldestDay wsX2_oldestDay) := goodIn_app (goodIn_of _ (by decide +kernel)) ggX2_numberOfLayer_X2_oldestDay
theorem dX2_numberOfLayer_0 : decode cX2_numberOfLayer 0 = .ok (.aload_n 0, 1) := by decide +kernel
theorem dX2_numberOfLayer_1 : decode cX2_numberOfLayer 1 = .ok (.iload_n 1, 1) := by decide +kernel
theorem dX2_numberOfLayer_2 : decode cX2_numberOfLayer 2 = .ok (.invokevirtual 60, 3) := by decide +kernel
theorem dX2_numberOfLayer_5 : decode cX2_numberOfLayer 5 = .ok (.istore_n 3, 1) := by decide +kernel
theorem dX2_numberOfLayer_6 : decode cX2_numberOfLayer 6 = .ok (.iload_n 2, 1) := by decide +kernel
theorem dX2_numberOfLayer_7 : decode cX2_numberOfLayer 7 = .ok (.tableswitch 37 0 2 #[25, 27, 31], 25) := by decide +kernel
theorem dX2_numberOfLayer_32 : decode cX2_numberOfLayer 32 = .ok (.iload_n 1, 1) := by decide +kernel
theorem dX2_numberOfLayer_33 : decode cX2_numberOfLayer 33 = .ok (.ireturn, 1) := by decide +kernel
theorem dX2_numberOfLayer_34 : decode cX2_numberOfLayer 34 = .ok (.iload_n 3, 1) := by decide +kernel
theorem dX2_numberOfLayer_35 : decode cX2_numberOfLayer 35 = .ok (.iload_n 1, 1) := by decide +kernel
theorem dX2_numberOfLayer_36 : decode cX2_numberOfLayer 36 = .ok (.isub, 1) := by decide +kernel
theorem dX2_numberOfLayer_37 : decode cX2_numberOfLayer 37 = .ok (.ireturn, 1) := by decide +kernel
theorem dX2_numberOfLayer_38 : decode cX2_numberOfLayer 38 = .ok (.aload_n 0, 1) := by decide +kernel
theorem dX2_numberOfLayer_39 : decode cX2_numberOfLayer 39 = .ok (.iload_n 3, 1) := by decide +kernel
theorem dX2_numberOfLayer_40 : decode cX2_numberOfLayer 40 = .ok (.invokevirtual 64, 3) := by decide +kernel
theorem dX2_numberOfLayer_43 : decode cX2_numberOfLayer 43 = .ok (.ireturn, 1) := by decide +kernel
theorem dX2_numberOfLayer_44 : decode cX2_numberOfLayer 44 = .ok (.aload_n 0, 1) := by decide +kernel
theorem dX2_numberOfLayer_45 : decode cX2_numberOfLayer 45 = .ok (.iload_n 1, 1) := by decide +kernel
theorem dX2_numberOfLayer_46 : decode cX2_numberOfLayer 46 = .ok (.iload_n 3, 1) := by decide +kernel
theorem dX2_numberOfLayer_47 : decode cX2_numberOfLayer 47 = .ok (.invokevirtual 67, 3) := by decide +kernel
theorem dX2_numberOfLayer_50 : decode cX2_numberOfLayer 50 = .ok (.ireturn, 1) := by decide +kernel
set_option maxRecDepth 20000 in
theorem ggX2_numberOf_X2_frozenWithin : GoodIn wsX2_numberOf wsX2_frozenWithin := goodIn_r _ [10, 11, 12, 13, 9, 14, 15, 28, 29, 30, 31, 32, 33] (by decide +kernel) (by decide +kernel)
set_option maxRecDepth 20000 in
theorem gX2_numberOf_X2_frozenWithin : GoodIn wsX2_numberOf (wsV RX2 70 RX2 yX2_frozenWithin wsX2_frozenWithin) := goodIn_app (goodIn_of _ (by decide +kernel)) ggX2_numberOf_X2_frozenWithin
set_option maxRecDepth 20000 in
theorem ggX2_numberOf_X2_layersWithin : GoodIn wsX2_numberOf wsX2_layersWithin := goodIn_r _ [19, 20, 21, 22, 9, 23, 11, 12, 13, 14, 15, 28, 29, 30, 31, 32, 33] (by decide +kernel) (by decide +kernel)
set_option maxRecDepth 20000 in
theorem gX2_numberOf_X2_layersWithin : GoodIn wsX2_numberOf (wsV RX2 73 RX2 yX2_layersWithin wsX2_layersWithin) := goodIn_app (goodIn_of _ (by decide +kernel)) ggX2_numberOf_X2_layersWithin
set_option maxRecDepth 20000 in
theorem ggX2_numberOf_X2_lowestWithin : GoodIn wsX2_numberOf wsX2_lowestWithin := goodIn_r _ [27, 11, 12, 13, 9, 14, 15, 28, 29, 30, 31, 32, 33] (by decide +kernel) (by decide +kernel)
set_option maxRecDepth 20000 in
theorem gX2_numberOf_X2_lowestWithin : GoodIn wsX2_numberOf (wsV RX2 76 RX2 yX2_lowestWithin wsX2_lowestWithin) := goodIn_app (goodIn_of _ (by decide +kernel)) ggX2_numberOf_X2_lowestWithin
set_option maxRecDepth 20000 in
theorem ggX2_numberOf_X2_isFrozen : GoodIn wsX2_numberOf wsX2_isFrozen := goodIn_r _ [14, 15, 28, 29, 30, 31, 32, 33] (by decide +kernel) (by decide +kernel)
set_option maxRecDepth 20000 in
theorem gX2_numberOf_X2_isFrozen : GoodIn wsX2_numberOf (wsV RX2 43 RX2 yX2_isFrozen wsX2_isFrozen) := goodIn_app (goodIn_of _ (by decide +kernel)) ggX2_numberOf_X2_isFrozen
theorem dX2_numberOf_0 : decode cX2_numberOf 0 = .ok (.iload_n 1, 1) := by decide +kernel
theorem dX2_numberOf_1 : decode cX2_numberOf 1 = .ok (.tableswitch 93 0 7 #[47, 52, 57, 62, 67, 72, 79, 86], 47) := by decide +kernel
theorem dX2_numberOf_48 : decode cX2_numberOf 48 = .ok (.aload_n 0, 1) := by decide +kernel
theorem dX2_numberOf_49 : decode cX2_numberOf 49 = .ok (.getfield 21, 3) := by decide +kernel
theorem dX2_numberOf_52 : decode cX2_numberOf 52 = .ok (.ireturn, 1) := by decide +kernel
theorem dX2_numberOf_53 : decode cX2_numberOf 53 = .ok (.aload_n 0, 1) := by decide +kernel
theorem dX2_numberOf_54 : decode cX2_numberOf 54 = .ok (.getfield 25, 3) := by decide +kernel
theorem dX2_numberOf_57 : decode cX2_numberOf 57 = .ok (.ireturn, 1) := by decide +kernel
theorem dX2_numberOf_58 : decode cX2_numberOf 58 = .ok (.aload_n 0, 1) := by decide +kernel
theorem dX2_numberOf_59 : decode cX2_numberOf 59 = .ok (.getfield 28, 3) := by decide +kernel
theorem dX2_numberOf_62 : decode cX2_numberOf 62 = .ok (.ireturn, 1) := by decide +kernel
theorem dX2_numberOf_63 : decode cX2_numberOf 63 = .ok (.aload_n 0, 1) := by decide +kernel
theorem dX2_numberOf_64 : decode cX2_numberOf 64 = .ok (.getfield 31, 3) := by decide +kernel
theorem dX2_numberOf_67 : decode cX2_numberOf 67 = .ok (.ireturn, 1) := by decide +kernel
theorem dX2_numberOf_68 : decode cX2_numberOf 68 = .ok (.aload_n 0, 1) := by decide +kernel
theorem dX2_numberOf_69 : decode cX2_numberOf 69 = .ok (.getfield 34, 3) := by decide +kernel
theorem dX2_numberOf_72 : decode cX2_numberOf 72 = .ok (.ireturn, 1) := by decide +kernel
theorem dX2_numberOf_73 : decode cX2_numberOf 73 = .ok (.aload_n 0, 1) := by decide +kernel
theorem dX2_numberOf_74 : decode cX2_numberOf 74 = .ok (.bipush 30, 2) := by decide +kernel
theorem dX2_numberOf_76 : decode cX2_numberOf 76 = .ok (.invokevirtual 70, 3) := by decide +kernel
theorem dX2_numberOf_79 : decode cX2_numberOf 79 = .ok (.ireturn, 1) := by decide +kernel
theorem dX2_numberOf_80 : decode cX2_numberOf 80 = .ok (.aload_n 0, 1) := by decide +kernel
theorem dX2_numberOf_81 : decode cX2_numberOf 81 = .ok (.bipush 30, 2) := by decide +kernel
theorem dX2_numberOf_83 : decode cX2_numberOf 83 = .ok (.invokevirtual 73, 3) := by decide +kernel
theorem dX2_numberOf_86 : decode cX2_numberOf 86 = .ok (.ireturn, 1) := by decide +kernel
theorem dX2_numberOf_87 : decode cX2_numberOf 87 = .ok (.aload_n 0, 1) := by decide +kernel
theorem dX2_numberOf_88 : decode cX2_numberOf 88 = .ok (.bipush 30, 2) := by decide +kernel
theorem dX2_numberOf_90 : decode cX2_numberOf 90 = .ok (.invokevirtual 76, 3) := by decide +kernel
theorem dX2_numberOf_93 : decode cX2_numberOf 93 = .ok (.ireturn, 1) := by decide +kernel
theorem dX2_numberOf_94 : decode cX2_numberOf 94 = .ok (.aload_n 0, 1) := by decide +kernel
theorem dX2_numberOf_95 : decode cX2_numberOf 95 = .ok (.iconst 0, 1) := by decide +kernel
theorem dX2_numberOf_96 : decode cX2_numberOf 96 = .ok (.invokevirtual 43, 3) := by decide +kernel
theorem dX2_numberOf_99 : decode cX2_numberOf 99 = .ok (.ifCond .eq 7, 3) := by decide +kernel
theorem dX2_numberOf_102 : decode cX2_numberOf 102 = .ok (.iconst 1, 1) := by decide +kernel
theorem dX2_numberOf_103 : decode cX2_numberOf 103 = .ok (.goto 4, 3) := by decide +kernel
theorem dX2_numberOf_106 : decode cX2_numberOf 106 = .ok (.iconst 0, 1) := by decide +kernel
theorem dX2_numberOf_107 : decode cX2_numberOf 107 = .ok (.ireturn, 1) := by decide +kernel
theorem dX2_takeSnow_0 : decode cX2_takeSnow 0 = .ok (.aload_n 0, 1) := by decide +kernel
theorem dX2_takeSnow_1 : decode cX2_takeSnow 1 = .ok (.bipush 99, 2) := by decide +kernel
theorem dX2_takeSnow_3 : decode cX2_takeSnow 3 = .ok (.aload_n 0, 1) := by decide +kernel
theorem dX2_takeSnow_4 : decode cX2_takeSnow 4 = .ok (.getfield 21, 3) := by decide +kernel
theorem dX2_takeSnow_7 : decode cX2_takeSnow 7 = .ok (.iload_n 1, 1) := by decide +kernel
theorem dX2_takeSnow_8 : decode cX2_takeSnow 8 = .ok (.iadd, 1) := by decide +kernel
theorem dX2_takeSnow_9 : decode cX2_takeSnow 9 = .ok (.iload_n 1, 1) := by decide +kernel
theorem dX2_takeSnow_10 : decode cX2_takeSnow 10 = .ok (.aload_n 0, 1) := by decide +kernel
theorem dX2_takeSnow_11 : decode cX2_takeSnow 11 = .ok (.getfield 25, 3) := by decide +kernel
theorem dX2_takeSnow_14 : decode cX2_takeSnow 14 = .ok (.invokestatic 54, 3) := by decide +kernel
theorem dX2_takeSnow_17 : decode cX2_takeSnow 17 = .ok (.iadd, 1) := by decide +kernel
theorem dX2_takeSnow_18 : decode cX2_takeSnow 18 = .ok (.invokestatic 54, 3) := by decide +kernel
theorem dX2_takeSnow_21 : decode cX2_takeSnow 21 = .ok (.putfield 21, 3) := by decide +kernel
theorem dX2_takeSnow_24 : decode cX2_takeSnow 24 = .ok (.return_, 1) := by decide +kernel
theorem dX2_takeTemperature_0 : decode cX2_takeTemperature 0 = .ok (.iload_n 1, 1) := by decide +kernel
theorem dX2_takeTemperature_1 : decode cX2_takeTemperature 1 = .ok (.ifCond .le 57, 3) := by decide +kernel
theorem dX2_takeTemperature_4 : decode cX2_takeTemperature 4 = .ok (.aload_n 0, 1) := by decide +kernel
theorem dX2_takeTemperature_5 : decode cX2_takeTemperature 5 = .ok (.getfield 21, 3) := by decide +kernel
theorem dX2_takeTemperature_8 : decode cX2_takeTemperature 8 = .ok (.iload_n 1, 1) := by decide +kernel
theorem dX2_takeTemperature_9 : decode cX2_takeTemperature 9 = .ok (.iload_n 2, 1) := by decide +kernel
theorem dX2_takeTemperature_10 : decode cX2_takeTemperature 10 = .ok (.imul, 1) := by decide +kernel
theorem dX2_takeTemperature_11 : decode cX2_takeTemperature 11 = .ok (.invokestatic 54, 3) := by decide +kernel
theorem dX2_takeTemperature_14 : decode cX2_takeTemperature 14 = .ok (.istore_n 3, 1) := by decide +kernel
theorem dX2_takeTemperature_15 : decode cX2_takeTemperature 15 = .ok (.aload_n 0, 1) := by decide +kernel
theorem dX2_takeTemperature_16 : decode cX2_takeTemperature 16 = .ok (.dup, 1) := by decide +kernel
theorem dX2_takeTemperature_17 : decode cX2_takeTemperature 17 = .ok (.getfield 21, 3) := by decide +kernel
theorem dX2_takeTemperature_20 : decode cX2_takeTemperature 20 = .ok (.iload_n 3, 1) := by decide +kernel
theorem dX2_takeTemperature_21 : decode cX2_takeTemperature 21 = .ok (.isub, 1) := by decide +kernel
theorem dX2_takeTemperature_22 : decode cX2_takeTemperature 22 = .ok (.putfield 21, 3) := by decide +kernel
theorem dX2_takeTemperature_25 : decode cX2_takeTemperature 25 = .ok (.aload_n 0, 1) := by decide +kernel
theorem dX2_takeTemperature_26 : decode cX2_takeTemperature 26 = .ok (.getfield 21, 3) := by decide +kernel
theorem dX2_takeTemperature_29 : decode cX2_takeTemperature 29 = .ok (.ifCond .ne 21, 3) := by decide +kernel
theorem dX2_takeTemperature_32 : decode cX2_takeTemperature 32 = .ok (.iload_n 2, 1) := by decide +kernel
theorem dX2_takeTemperature_33 : decode cX2_takeTemperature 33 = .ok (.ifCond .le 17, 3) := by decide +kernel
theorem dX2_takeTemperature_36 : decode cX2_takeTemperature 36 = .ok (.aload_n 0, 1) := by decide +kernel
theorem dX2_takeTemperature_37 : decode cX2_takeTemperature 37 = .ok (.dup, 1) := by decide +kernel
theorem dX2_takeTemperature_38 : decode cX2_takeTemperature 38 = .ok (.getfield 31, 3) := by decide +kernel
theorem dX2_takeTemperature_41 : decode cX2_takeTemperature 41 = .ok (.iload_n 1, 1) := by decide +kernel
theorem dX2_takeTemperature_42 : decode cX2_takeTemperature 42 = .ok (.iload_n 3, 1) := by decide +kernel
theorem dX2_takeTemperature_43 : decode cX2_takeTemperature 43 = .ok (.iload_n 2, 1) := by decide +kernel
theorem dX2_takeTemperature_44 : decode cX2_takeTemperature 44 = .ok (.idiv, 1) := by decide +kernel
theorem dX2_takeTemperature_45 : decode cX2_takeTemperature 45 = .ok (.isub, 1) := by decide +kernel
theorem dX2_takeTemperature_46 : decode cX2_takeTemperature 46 = .ok (.iadd, 1) := by decide +kernel
theorem dX2_takeTemperature_47 : decode cX2_takeTemperature 47 = .ok (.putfield 31, 3) := by decide +kernel
theorem dX2_takeTemperature_50 : decode cX2_takeTemperature 50 = .ok (.aload_n 0, 1) := by decide +kernel
theorem dX2_takeTemperature_51 : decode cX2_takeTemperature 51 = .ok (.iconst 0, 1) := by decide +kernel
theorem dX2_takeTemperature_52 : decode cX2_takeTemperature 52 = .ok (.putfield 28, 3) := by decide +kernel
theorem dX2_takeTemperature_55 : decode cX2_takeTemperature 55 = .ok (.goto 59, 3) := by decide +kernel
theorem dX2_takeTemperature_58 : decode cX2_takeTemperature 58 = .ok (.iload_n 1, 1) := by decide +kernel
theorem dX2_takeTemperature_59 : decode cX2_takeTemperature 59 = .ok (.ifCond .ge 55, 3) := by decide +kernel
theorem dX2_takeTemperature_62 : decode cX2_takeTemperature 62 = .ok (.bipush 10, 2) := by decide +kernel
