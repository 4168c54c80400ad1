theorem dX5_here_5 : decode cX5_here 5 = .ok (.getfield 124, 3) := by decide +kernel
theorem dX5_here_8 : decode cX5_here 8 = .ok (.if_icmp .ge 15, 3) := by decide +kernel
theorem dX5_here_11 : decode cX5_here 11 = .ok (.aload_n 0, 1) := by decide +kernel
theorem dX5_here_12 : decode cX5_here 12 = .ok (.getfield 29, 3) := by decide +kernel
theorem dX5_here_15 : decode cX5_here 15 = .ok (.aload_n 0, 1) := by decide +kernel
theorem dX5_here_16 : decode cX5_here 16 = .ok (.getfield 130, 3) := by decide +kernel
theorem dX5_here_19 : decode cX5_here 19 = .ok (.iaload, 1) := by decide +kernel
theorem dX5_here_20 : decode cX5_here 20 = .ok (.goto 4, 3) := by decide +kernel
theorem dX5_here_23 : decode cX5_here 23 = .ok (.iconst (-1), 1) := by decide +kernel
theorem dX5_here_24 : decode cX5_here 24 = .ok (.ireturn, 1) := by decide +kernel
theorem dX5_take_0 : decode cX5_take 0 = .ok (.aload_n 0, 1) := by decide +kernel
theorem dX5_take_1 : decode cX5_take 1 = .ok (.aload_n 0, 1) := by decide +kernel
theorem dX5_take_2 : decode cX5_take 2 = .ok (.getfield 133, 3) := by decide +kernel
theorem dX5_take_5 : decode cX5_take 5 = .ok (.ifCond .eq 11, 3) := by decide +kernel
theorem dX5_take_8 : decode cX5_take 8 = .ok (.iload_n 1, 1) := by decide +kernel
theorem dX5_take_9 : decode cX5_take 9 = .ok (.ifCond .eq 7, 3) := by decide +kernel
theorem dX5_take_12 : decode cX5_take 12 = .ok (.iconst 1, 1) := by decide +kernel
theorem dX5_take_13 : decode cX5_take 13 = .ok (.goto 4, 3) := by decide +kernel
theorem dX5_take_16 : decode cX5_take 16 = .ok (.iconst 0, 1) := by decide +kernel
theorem dX5_take_17 : decode cX5_take 17 = .ok (.putfield 133, 3) := by decide +kernel
theorem dX5_take_20 : decode cX5_take 20 = .ok (.aload_n 0, 1) := by decide +kernel
theorem dX5_take_21 : decode cX5_take 21 = .ok (.dup, 1) := by decide +kernel
theorem dX5_take_22 : decode cX5_take 22 = .ok (.getfield 130, 3) := by decide +kernel
theorem dX5_take_25 : decode cX5_take 25 = .ok (.aload_n 0, 1) := by decide +kernel
theorem dX5_take_26 : decode cX5_take 26 = .ok (.getfield 133, 3) := by decide +kernel
theorem dX5_take_29 : decode cX5_take 29 = .ok (.ifCond .eq 7, 3) := by decide +kernel
theorem dX5_take_32 : decode cX5_take 32 = .ok (.iconst 1, 1) := by decide +kernel
theorem dX5_take_33 : decode cX5_take 33 = .ok (.goto 4, 3) := by decide +kernel
theorem dX5_take_36 : decode cX5_take 36 = .ok (.iconst 0, 1) := by decide +kernel
theorem dX5_take_37 : decode cX5_take 37 = .ok (.iadd, 1) := by decide +kernel
theorem dX5_take_38 : decode cX5_take 38 = .ok (.putfield 130, 3) := by decide +kernel
theorem dX5_take_41 : decode cX5_take 41 = .ok (.return_, 1) := by decide +kernel
set_option maxRecDepth 20000 in
theorem ggX5_digit_X5_here : GoodIn wsX5_digit wsX5_here := goodIn_r _ [6, 7, 8, 9, 17, 18, 19, 20, 21, 22, 23, 24, 25, 26, 27, 28, 29] (by decide +kernel) (by decide +kernel)
set_option maxRecDepth 20000 in
theorem gX5_digit_X5_here : GoodIn wsX5_digit (wsV RX5 137 RX5 yX5_here wsX5_here) := goodIn_app (goodIn_of _ (by decide +kernel)) ggX5_digit_X5_here
set_option maxRecDepth 20000 in
theorem ggX5_digit_X5_in : GoodIn wsX5_digit wsX5_in := goodIn_r _ [12] (by decide +kernel) (by decide +kernel)
set_option maxRecDepth 20000 in
theorem gX5_digit_X5_in : GoodIn wsX5_digit (va_wsS RX5 42 yX5_in wsX5_in) := goodIn_app (goodIn_of _ (by decide +kernel)) ggX5_digit_X5_in
set_option maxRecDepth 20000 in
theorem ggX5_digit_X5_take : GoodIn wsX5_digit wsX5_take := goodIn_r _ [16, 1, 7, 17, 18, 19, 20, 21, 22, 23, 24, 25, 26, 27, 28, 29] (by decide +kernel) (by decide +kernel)
set_option maxRecDepth 20000 in
theorem gX5_digit_X5_take : GoodIn wsX5_digit (wsV RX5 141 RX5 yX5_take wsX5_take) := goodIn_app (goodIn_of _ (by decide +kernel)) ggX5_digit_X5_take
theorem dX5_digit_0 : decode cX5_digit 0 = .ok (.aload_n 0, 1) := by decide +kernel
theorem dX5_digit_1 : decode cX5_digit 1 = .ok (.invokevirtual 137, 3) := by decide +kernel
theorem dX5_digit_4 : decode cX5_digit 4 = .ok (.bipush 48, 2) := by decide +kernel
theorem dX5_digit_6 : decode cX5_digit 6 = .ok (.isub, 1) := by decide +kernel
theorem dX5_digit_7 : decode cX5_digit 7 = .ok (.istore_n 3, 1) := by decide +kernel
theorem dX5_digit_8 : decode cX5_digit 8 = .ok (.aload_n 0, 1) := by decide +kernel
theorem dX5_digit_9 : decode cX5_digit 9 = .ok (.iload_n 3, 1) := by decide +kernel
theorem dX5_digit_10 : decode cX5_digit 10 = .ok (.i2l, 1) := by decide +kernel
theorem dX5_digit_11 : decode cX5_digit 11 = .ok (.iload_n 1, 1) := by decide +kernel
theorem dX5_digit_12 : decode cX5_digit 12 = .ok (.i2l, 1) := by decide +kernel
theorem dX5_digit_13 : decode cX5_digit 13 = .ok (.iload_n 2, 1) := by decide +kernel
theorem dX5_digit_14 : decode cX5_digit 14 = .ok (.i2l, 1) := by decide +kernel
theorem dX5_digit_15 : decode cX5_digit 15 = .ok (.invokestatic 42, 3) := by decide +kernel
theorem dX5_digit_18 : decode cX5_digit 18 = .ok (.invokevirtual 141, 3) := by decide +kernel
theorem dX5_digit_21 : decode cX5_digit 21 = .ok (.aload_n 0, 1) := by decide +kernel
theorem dX5_digit_22 : decode cX5_digit 22 = .ok (.getfield 133, 3) := by decide +kernel
theorem dX5_digit_25 : decode cX5_digit 25 = .ok (.ifCond .eq 7, 3) := by decide +kernel
theorem dX5_digit_28 : decode cX5_digit 28 = .ok (.iload_n 3, 1) := by decide +kernel
theorem dX5_digit_29 : decode cX5_digit 29 = .ok (.goto 4, 3) := by decide +kernel
theorem dX5_digit_32 : decode cX5_digit 32 = .ok (.iload_n 1, 1) := by decide +kernel
theorem dX5_digit_33 : decode cX5_digit 33 = .ok (.ireturn, 1) := by decide +kernel
set_option maxRecDepth 20000 in
theorem ggX5_two_X5_digit : GoodIn wsX5_two wsX5_digit := goodIn_r _ [5, 6, 7, 8, 9, 4, 10, 11, 12, 13, 14, 15, 16, 17, 18, 19, 20, 21, 22, 23, 24, 25, 26, 27, 28, 29, 30, 31, 32, 33] (by decide +kernel) (by decide +kernel)
set_option maxRecDepth 20000 in
theorem gX5_two_X5_digit : GoodIn wsX5_two (wsV RX5 145 RX5 yX5_digit wsX5_digit) := goodIn_app (goodIn_of _ (by decide +kernel)) ggX5_two_X5_digit
theorem dX5_two_0 : decode cX5_two 0 = .ok (.aload_n 0, 1) := by decide +kernel
theorem dX5_two_1 : decode cX5_two 1 = .ok (.iload_n 1, 1) := by decide +kernel
theorem dX5_two_2 : decode cX5_two 2 = .ok (.bipush 10, 2) := by decide +kernel
theorem dX5_two_4 : decode cX5_two 4 = .ok (.idiv, 1) := by decide +kernel
theorem dX5_two_5 : decode cX5_two 5 = .ok (.iload_n 2, 1) := by decide +kernel
theorem dX5_two_6 : decode cX5_two 6 = .ok (.bipush 10, 2) := by decide +kernel
theorem dX5_two_8 : decode cX5_two 8 = .ok (.idiv, 1) := by decide +kernel
theorem dX5_two_9 : decode cX5_two 9 = .ok (.invokevirtual 145, 3) := by decide +kernel
theorem dX5_two_12 : decode cX5_two 12 = .ok (.istore_n 3, 1) := by decide +kernel
theorem dX5_two_13 : decode cX5_two 13 = .ok (.bipush 10, 2) := by decide +kernel
theorem dX5_two_15 : decode cX5_two 15 = .ok (.iload_n 3, 1) := by decide +kernel
theorem dX5_two_16 : decode cX5_two 16 = .ok (.imul, 1) := by decide +kernel
theorem dX5_two_17 : decode cX5_two 17 = .ok (.aload_n 0, 1) := by decide +kernel
theorem dX5_two_18 : decode cX5_two 18 = .ok (.iload_n 3, 1) := by decide +kernel
theorem dX5_two_19 : decode cX5_two 19 = .ok (.iload_n 1, 1) := by decide +kernel
theorem dX5_two_20 : decode cX5_two 20 = .ok (.bipush 10, 2) := by decide +kernel
theorem dX5_two_22 : decode cX5_two 22 = .ok (.idiv, 1) := by decide +kernel
theorem dX5_two_23 : decode cX5_two 23 = .ok (.if_icmp .ne 10, 3) := by decide +kernel
theorem dX5_two_26 : decode cX5_two 26 = .ok (.iload_n 1, 1) := by decide +kernel
theorem dX5_two_27 : decode cX5_two 27 = .ok (.bipush 10, 2) := by decide +kernel
theorem dX5_two_29 : decode cX5_two 29 = .ok (.irem, 1) := by decide +kernel
theorem dX5_two_30 : decode cX5_two 30 = .ok (.goto 4, 3) := by decide +kernel
theorem dX5_two_33 : decode cX5_two 33 = .ok (.iconst 0, 1) := by decide +kernel
theorem dX5_two_34 : decode cX5_two 34 = .ok (.iload_n 3, 1) := by decide +kernel
theorem dX5_two_35 : decode cX5_two 35 = .ok (.iload_n 2, 1) := by decide +kernel
theorem dX5_two_36 : decode cX5_two 36 = .ok (.bipush 10, 2) := by decide +kernel
theorem dX5_two_38 : decode cX5_two 38 = .ok (.idiv, 1) := by decide +kernel
theorem dX5_two_39 : decode cX5_two 39 = .ok (.if_icmp .ne 10, 3) := by decide +kernel
theorem dX5_two_42 : decode cX5_two 42 = .ok (.iload_n 2, 1) := by decide +kernel
theorem dX5_two_43 : decode cX5_two 43 = .ok (.bipush 10, 2) := by decide +kernel
theorem dX5_two_45 : decode cX5_two 45 = .ok (.irem, 1) := by decide +kernel
theorem dX5_two_46 : decode cX5_two 46 = .ok (.goto 5, 3) := by decide +kernel
theorem dX5_two_49 : decode cX5_two 49 = .ok (.bipush 9, 2) := by decide +kernel
theorem dX5_two_51 : decode cX5_two 51 = .ok (.invokevirtual 145, 3) := by decide +kernel
theorem dX5_two_54 : decode cX5_two 54 = .ok (.iadd, 1) := by decide +kernel
theorem dX5_two_55 : decode cX5_two 55 = .ok (.ireturn, 1) := by decide +kernel
theorem dX5_goes_0 : decode cX5_goes 0 = .ok (.aload_n 0, 1) := by decide +kernel
theorem dX5_goes_1 : decode cX5_goes 1 = .ok (.dup, 1) := by decide +kernel
theorem dX5_goes_2 : decode cX5_goes 2 = .ok (.getfield 148, 3) := by decide +kernel
theorem dX5_goes_5 : decode cX5_goes 5 = .ok (.aload_n 0, 1) := by decide +kernel
theorem dX5_goes_6 : decode cX5_goes 6 = .ok (.getfield 133, 3) := by decide +kernel
theorem dX5_goes_9 : decode cX5_goes 9 = .ok (.ifCond .eq 11, 3) := by decide +kernel
theorem dX5_goes_12 : decode cX5_goes 12 = .ok (.iload_n 1, 1) := by decide +kernel
theorem dX5_goes_13 : decode cX5_goes 13 = .ok (.ifCond .ne 7, 3) := by decide +kernel
theorem dX5_goes_16 : decode cX5_goes 16 = .ok (.iconst 1, 1) := by decide +kernel
theorem dX5_goes_17 : decode cX5_goes 17 = .ok (.goto 4, 3) := by decide +kernel
theorem dX5_goes_20 : decode cX5_goes 20 = .ok (.iconst 0, 1) := by decide +kernel
theorem dX5_goes_21 : decode cX5_goes 21 = .ok (.iadd, 1) := by decide +kernel
theorem dX5_goes_22 : decode cX5_goes 22 = .ok (.putfield 148, 3) := by decide +kernel
theorem dX5_goes_25 : decode cX5_goes 25 = .ok (.aload_n 0, 1) := by decide +kernel
theorem dX5_goes_26 : decode cX5_goes 26 = .ok (.getfield 133, 3) := by decide +kernel
theorem dX5_goes_29 : decode cX5_goes 29 = .ok (.ifCond .eq 11, 3) := by decide +kernel
theorem dX5_goes_32 : decode cX5_goes 32 = .ok (.iload_n 1, 1) := by decide +kernel
theorem dX5_goes_33 : decode cX5_goes 33 = .ok (.ifCond .eq 7, 3) := by decide +kernel
theorem dX5_goes_36 : decode cX5_goes 36 = .ok (.iconst 1, 1) := by decide +kernel
theorem dX5_goes_37 : decode cX5_goes 37 = .ok (.goto 4, 3) := by decide +kernel
theorem dX5_goes_40 : decode cX5_goes 40 = .ok (.iconst 0, 1) := by decide +kernel
theorem dX5_goes_41 : decode cX5_goes 41 = .ok (.ireturn, 1) := by decide +kernel
set_option maxRecDepth 20000 in
theorem ggX5_readDays_X5_here : GoodIn wsX5_readDays wsX5_here := goodIn_r _ [6, 7, 8, 9, 73, 74, 75, 76, 77, 78, 79, 80, 81, 82, 83, 84, 85] (by decide +kernel) (by decide +kernel)
set_option maxRecDepth 20000 in
theorem gX5_readDays_X5_here : GoodIn wsX5_readDays (wsV RX5 137 RX5 yX5_here wsX5_here) := goodIn_app (goodIn_of _ (by decide +kernel)) ggX5_readDays_X5_here
set_option maxRecDepth 20000 in
theorem ggX5_readDays_X5_take : GoodIn wsX5_readDays wsX5_take := goodIn_r _ [13, 14, 7, 73, 74, 75, 76, 77, 78, 79, 80, 81, 82, 83, 84, 85] (by decide +kernel) (by decide +kernel)
set_option maxRecDepth 20000 in
theorem gX5_readDays_X5_take : GoodIn wsX5_readDays (wsV RX5 141 RX5 yX5_take wsX5_take) := goodIn_app (goodIn_of _ (by decide +kernel)) ggX5_readDays_X5_take
set_option maxRecDepth 20000 in
theorem ggX5_readDays_X5_two : GoodIn wsX5_readDays wsX5_two := goodIn_r _ [18, 19, 20, 21, 5, 22, 14, 2, 3, 4, 6, 7, 8, 9, 23, 24, 25, 10, 11, 12, 13, 73, 74, 75, 76, 77, 78, 79, 80, 81, 82, 83, 84, 85] (by decide +kernel) (by decide +kernel)
set_option maxRecDepth 20000 in
theorem gX5_readDays_X5_two : GoodIn wsX5_readDays (wsV RX5 151 RX5 yX5_two wsX5_two) := goodIn_app (goodIn_of _ (by decide +kernel)) ggX5_readDays_X5_two
set_option maxRecDepth 20000 in
theorem ggX5_readDays_X5_hasDays : GoodIn wsX5_readDays wsX5_hasDays := goodIn_r _ [28] (by decide +kernel) (by decide +kernel)
set_option maxRecDepth 20000 in
theorem gX5_readDays_X5_hasDays : GoodIn wsX5_readDays (va_wsS RX5 154 yX5_hasDays wsX5_hasDays) := goodIn_app (goodIn_of _ (by decide +kernel)) ggX5_readDays_X5_hasDays
set_option maxRecDepth 20000 in
theorem ggX5_readDays_X5_goes : GoodIn wsX5_readDays wsX5_goes := goodIn_r _ [32, 33, 14, 73, 74, 75, 76, 77, 78, 79, 80, 81, 82, 83, 84, 85] (by decide +kernel) (by decide +kernel)
set_option maxRecDepth 20000 in
theorem gX5_readDays_X5_goes : GoodIn wsX5_readDays (wsV RX5 158 RX5 yX5_goes wsX5_goes) := goodIn_app (goodIn_of _ (by decide +kernel)) ggX5_readDays_X5_goes
set_option maxRecDepth 20000 in
theorem ggX5_readDays_X5_goDays : GoodIn wsX5_readDays wsX5_goDays := goodIn_r _ [36, 37, 38, 5, 39, 40, 41, 42, 43, 44, 45, 46, 47, 48, 49, 50, 51, 52, 53, 54, 55, 56, 57, 58, 59, 60, 61, 62, 63, 64, 65, 66, 67, 68, 69, 70, 71, 72] (by decide +kernel) (by decide +kernel)
set_option maxRecDepth 20000 in
theorem gX5_readDays_X5_goDays : GoodIn wsX5_readDays (va_wsS RX5 162 yX5_goDays wsX5_goDays) := goodIn_app (goodIn_of _ (by decide +kernel)) ggX5_readDays_X5_goDays
theorem dX5_readDays_0 : decode cX5_readDays 0 = .ok (.aload_n 0, 1) := by decide +kernel
theorem dX5_readDays_1 : decode cX5_readDays 1 = .ok (.invokevirtual 137, 3) := by decide +kernel
theorem dX5_readDays_4 : decode cX5_readDays 4 = .ok (.istore_n 1, 1) := by decide +kernel
theorem dX5_readDays_5 : decode cX5_readDays 5 = .ok (.aload_n 0, 1) := by decide +kernel
theorem dX5_readDays_6 : decode cX5_readDays 6 = .ok (.iload_n 1, 1) := by decide +kernel
theorem dX5_readDays_7 : decode cX5_readDays 7 = .ok (.bipush 43, 2) := by decide +kernel
theorem dX5_readDays_9 : decode cX5_readDays 9 = .ok (.if_icmp .eq 9, 3) := by decide +kernel
theorem dX5_readDays_12 : decode cX5_readDays 12 = .ok (.iload_n 1, 1) := by decide +kernel
theorem dX5_readDays_13 : decode cX5_readDays 13 = .ok (.bipush 45, 2) := by decide +kernel
theorem dX5_readDays_15 : decode cX5_readDays 15 = .ok (.if_icmp .ne 7, 3) := by decide +kernel
theorem dX5_readDays_18 : decode cX5_readDays 18 = .ok (.iconst 1, 1) := by decide +kernel
theorem dX5_readDays_19 : decode cX5_readDays 19 = .ok (.goto 4, 3) := by decide +kernel
theorem dX5_readDays_22 : decode cX5_readDays 22 = .ok (.iconst 0, 1) := by decide +kernel
theorem dX5_readDays_23 : decode cX5_readDays 23 = .ok (.invokevirtual 141, 3) := by decide +kernel
theorem dX5_readDays_26 : decode cX5_readDays 26 = .ok (.aload_n 0, 1) := by decide +kernel
theorem dX5_readDays_27 : decode cX5_readDays 27 = .ok (.iconst 0, 1) := by decide +kernel
theorem dX5_readDays_28 : decode cX5_readDays 28 = .ok (.bipush 30, 2) := by decide +kernel
theorem dX5_readDays_30 : decode cX5_readDays 30 = .ok (.invokevirtual 151, 3) := by decide +kernel
theorem dX5_readDays_33 : decode cX5_readDays 33 = .ok (.istore_n 2, 1) := by decide +kernel
theorem dX5_readDays_34 : decode cX5_readDays 34 = .ok (.aload_n 0, 1) := by decide +kernel
theorem dX5_readDays_35 : decode cX5_readDays 35 = .ok (.iconst 0, 1) := by decide +kernel
theorem dX5_readDays_36 : decode cX5_readDays 36 = .ok (.bipush 30, 2) := by decide +kernel
theorem dX5_readDays_38 : decode cX5_readDays 38 = .ok (.invokevirtual 151, 3) := by decide +kernel
theorem dX5_readDays_41 : decode cX5_readDays 41 = .ok (.istore_n 3, 1) := by decide +kernel
theorem dX5_readDays_42 : decode cX5_readDays 42 = .ok (.aload_n 0, 1) := by decide +kernel
theorem dX5_readDays_43 : decode cX5_readDays 43 = .ok (.iconst 1, 1) := by decide +kernel
theorem dX5_readDays_44 : decode cX5_readDays 44 = .ok (.bipush 60, 2) := by decide +kernel
theorem dX5_readDays_46 : decode cX5_readDays 46 = .ok (.invokevirtual 151, 3) := by decide +kernel
theorem dX5_readDays_49 : decode cX5_readDays 49 = .ok (.istore 4, 2) := by decide +kernel
theorem dX5_readDays_51 : decode cX5_readDays 51 = .ok (.aload_n 0, 1) := by decide +kernel
theorem dX5_readDays_52 : decode cX5_readDays 52 = .ok (.aload_n 0, 1) := by decide +kernel
theorem dX5_readDays_53 : decode cX5_readDays 53 = .ok (.getfield 16, 3) := by decide +kernel
theorem dX5_readDays_56 : decode cX5_readDays 56 = .ok (.iload 4, 2) := by decide +kernel
theorem dX5_readDays_58 : decode cX5_readDays 58 = .ok (.invokestatic 154, 3) := by decide +kernel
theorem dX5_readDays_61 : decode cX5_readDays 61 = .ok (.invokevirtual 158, 3) := by decide +kernel
theorem dX5_readDays_64 : decode cX5_readDays 64 = .ok (.ifCond .eq 28, 3) := by decide +kernel
theorem dX5_readDays_67 : decode cX5_readDays 67 = .ok (.aload_n 0, 1) := by decide +kernel
theorem dX5_readDays_68 : decode cX5_readDays 68 = .ok (.getfield 16, 3) := by decide +kernel
theorem dX5_readDays_71 : decode cX5_readDays 71 = .ok (.iload_n 1, 1) := by decide +kernel
theorem dX5_readDays_72 : decode cX5_readDays 72 = .ok (.bipush 45, 2) := by decide +kernel
theorem dX5_readDays_74 : decode cX5_readDays 74 = .ok (.if_icmp .ne 8, 3) := by decide +kernel
theorem dX5_readDays_77 : decode cX5_readDays 77 = .ok (.iload_n 2, 1) := by decide +kernel
theorem dX5_readDays_78 : decode cX5_readDays 78 = .ok (.ineg, 1) := by decide +kernel
theorem dX5_readDays_79 : decode cX5_readDays 79 = .ok (.goto 4, 3) := by decide +kernel
theorem dX5_readDays_82 : decode cX5_readDays 82 = .ok (.iload_n 2, 1) := by decide +kernel
theorem dX5_readDays_83 : decode cX5_readDays 83 = .ok (.iload_n 3, 1) := by decide +kernel
theorem dX5_readDays_84 : decode cX5_readDays 84 = .ok (.iload 4, 2) := by decide +kernel
theorem dX5_readDays_86 : decode cX5_readDays 86 = .ok (.invokestatic 162, 3) := by decide +kernel
theorem dX5_readDays_89 : decode cX5_readDays 89 = .ok (.goto 4, 3) := by decide +kernel
theorem dX5_readDays_92 : decode cX5_readDays 92 = .ok (.iconst 0, 1) := by decide +kernel
theorem dX5_readDays_93 : decode cX5_readDays 93 = .ok (.ireturn, 1) := by decide +kernel
set_option maxRecDepth 20000 in
theorem ggX5_readAtSite_X5_digit : GoodIn wsX5_readAtSite wsX5_digit := goodIn_r _ [6, 7, 8, 9, 10, 5, 11, 12, 13, 14, 15, 16, 17, 18, 19, 20, 21, 52, 53, 54, 55, 56, 57, 58, 59, 60, 61, 62, 63, 64] (by decide +kernel) (by decide +kernel)
set_option maxRecDepth 20000 in
theorem gX5_readAtSite_X5_digit : GoodIn wsX5_readAtSite (wsV RX5 145 RX5 yX5_digit wsX5_digit) := goodIn_app (goodIn_of _ (by decide +kernel)) ggX5_readAtSite_X5_digit
set_option maxRecDepth 20000 in
theorem ggX5_readAtSite_X5_two : GoodIn wsX5_readAtSite wsX5_two := goodIn_r _ [25, 2, 3, 4, 5, 6, 7, 8, 9, 10, 11, 12, 13, 14, 15, 16, 17, 18, 19, 20, 21, 52, 53, 54, 55, 56, 57, 58, 59, 60, 61, 62, 63, 64] (by decide +kernel) (by decide +kernel)
set_option maxRecDepth 20000 in
theorem gX5_readAtSite_X5_two : GoodIn wsX5_readAtSite (wsV RX5 151 RX5 yX5_two wsX5_two) := goodIn_app (goodIn_of _ (by decide +kernel)) ggX5_readAtSite_X5_two
set_option maxRecDepth 20000 in
theorem ggX5_readAtSite_X5_isSite : GoodIn wsX5_readAtSite wsX5_isSite := goodIn_r _ [28, 15, 16, 5, 17] (by decide +kernel) (by decide +kernel)
set_option maxRecDepth 20000 in
theorem gX5_readAtSite_X5_isSite : GoodIn wsX5_readAtSite (va_wsS RX5 166 yX5_isSite wsX5_isSite) := goodIn_app (goodIn_of _ (by decide +kernel)) ggX5_readAtSite_X5_isSite
set_option maxRecDepth 20000 in
theorem ggX5_readAtSite_X5_goes : GoodIn wsX5_readAtSite wsX5_goes := goodIn_r _ [32, 33, 7, 52, 53, 54, 55, 56, 57, 58, 59, 60, 61, 62, 63, 64] (by decide +kernel) (by decide +kernel)
set_option maxRecDepth 20000 in
theorem gX5_readAtSite_X5_goes : GoodIn wsX5_readAtSite (wsV RX5 158 RX5 yX5_goes wsX5_goes) := goodIn_app (goodIn_of _ (by decide +kernel)) ggX5_readAtSite_X5_goes
set_option maxRecDepth 20000 in
theorem ggX5_readAtSite_X5_addTube : GoodIn wsX5_readAtSite wsX5_addTube := goodIn_r _ [36] (by decide +kernel) (by decide +kernel)
set_option maxRecDepth 20000 in
theorem gX5_readAtSite_X5_addTube : GoodIn wsX5_readAtSite (va_wsS RX5 169 yX5_addTube wsX5_addTube) := goodIn_app (goodIn_of _ (by decide +kernel)) ggX5_readAtSite_X5_addTube
set_option maxRecDepth 20000 in
theorem ggX5_readAtSite_X5_canLay : GoodIn wsX5_readAtSite wsX5_canLay := goodIn_r _ [39, 40, 41, 5, 42, 43, 44, 45] (by decide +kernel) (by decide +kernel)
set_option maxRecDepth 20000 in
theorem gX5_readAtSite_X5_canLay : GoodIn wsX5_readAtSite (va_wsS RX5 172 yX5_canLay wsX5_canLay) := goodIn_app (goodIn_of _ (by decide +kernel)) ggX5_readAtSite_X5_canLay
set_option maxRecDepth 20000 in
theorem ggX5_readAtSite_X5_addPipe : GoodIn wsX5_readAtSite wsX5_addPipe := goodIn_r _ [48] (by decide +kernel) (by decide +kernel)
set_option maxRecDepth 20000 in
theorem gX5_readAtSite_X5_addPipe : GoodIn wsX5_readAtSite (va_wsS RX5 175 yX5_addPipe wsX5_addPipe) := goodIn_app (goodIn_of _ (by decide +kernel)) ggX5_readAtSite_X5_addPipe
set_option maxRecDepth 20000 in
theorem ggX5_readAtSite_X5_put : GoodIn wsX5_readAtSite wsX5_put := goodIn_r _ [51] (by decide +kernel) (by decide +kernel)
set_option maxRecDepth 20000 in
theorem gX5_readAtSite_X5_put : GoodIn wsX5_readAtSite (va_wsS RX5 115 yX5_put wsX5_put) := goodIn_app (goodIn_of _ (by decide +kernel)) ggX5_readAtSite_X5_put
theorem dX5_readAtSite_0 : decode cX5_readAtSite 0 = .ok (.aload_n 0, 1) := by decide +kernel
theorem dX5_readAtSite_1 : decode cX5_readAtSite 1 = .ok (.iconst 0, 1) := by decide +kernel
theorem dX5_readAtSite_2 : decode cX5_readAtSite 2 = .ok (.iconst 3, 1) := by decide +kernel
theorem dX5_readAtSite_3 : decode cX5_readAtSite 3 = .ok (.invokevirtual 145, 3) := by decide +kernel
theorem dX5_readAtSite_6 : decode cX5_readAtSite 6 = .ok (.istore_n 2, 1) := by decide +kernel
theorem dX5_readAtSite_7 : decode cX5_readAtSite 7 = .ok (.iload_n 1, 1) := by decide +kernel
theorem dX5_readAtSite_8 : decode cX5_readAtSite 8 = .ok (.lookupswitch 193 #[(102, 151), (112, 94), (116, 36)], 36) := by decide +kernel
theorem dX5_readAtSite_44 : decode cX5_readAtSite 44 = .ok (.aload_n 0, 1) := by decide +kernel
theorem dX5_readAtSite_45 : decode cX5_readAtSite 45 = .ok (.iconst 1, 1) := by decide +kernel
theorem dX5_readAtSite_46 : decode cX5_readAtSite 46 = .ok (.bipush 30, 2) := by decide +kernel
theorem dX5_readAtSite_48 : decode cX5_readAtSite 48 = .ok (.invokevirtual 151, 3) := by decide +kernel
theorem dX5_readAtSite_51 : decode cX5_readAtSite 51 = .ok (.istore_n 3, 1) := by decide +kernel
theorem dX5_readAtSite_52 : decode cX5_readAtSite 52 = .ok (.aload_n 0, 1) := by decide +kernel
theorem dX5_readAtSite_53 : decode cX5_readAtSite 53 = .ok (.aload_n 0, 1) := by decide +kernel
theorem dX5_readAtSite_54 : decode cX5_readAtSite 54 = .ok (.getfield 16, 3) := by decide +kernel
theorem dX5_readAtSite_57 : decode cX5_readAtSite 57 = .ok (.iload_n 2, 1) := by decide +kernel
theorem dX5_readAtSite_58 : decode cX5_readAtSite 58 = .ok (.invokestatic 166, 3) := by decide +kernel
theorem dX5_readAtSite_61 : decode cX5_readAtSite 61 = .ok (.ifCond .eq 20, 3) := by decide +kernel
theorem dX5_readAtSite_64 : decode cX5_readAtSite 64 = .ok (.aload_n 0, 1) := by decide +kernel
theorem dX5_readAtSite_65 : decode cX5_readAtSite 65 = .ok (.getfield 16, 3) := by decide +kernel
theorem dX5_readAtSite_68 : decode cX5_readAtSite 68 = .ok (.sipush 197, 3) := by decide +kernel
theorem dX5_readAtSite_71 : decode cX5_readAtSite 71 = .ok (.iaload, 1) := by decide +kernel
theorem dX5_readAtSite_72 : decode cX5_readAtSite 72 = .ok (.bipush 8, 2) := by decide +kernel
theorem dX5_readAtSite_74 : decode cX5_readAtSite 74 = .ok (.if_icmp .ge 7, 3) := by decide +kernel
theorem dX5_readAtSite_77 : decode cX5_readAtSite 77 = .ok (.iconst 1, 1) := by decide +kernel
theorem dX5_readAtSite_78 : decode cX5_readAtSite 78 = .ok (.goto 4, 3) := by decide +kernel
theorem dX5_readAtSite_81 : decode cX5_readAtSite 81 = .ok (.iconst 0, 1) := by decide +kernel
theorem dX5_readAtSite_82 : decode cX5_readAtSite 82 = .ok (.invokevirtual 158, 3) := by decide +kernel
theorem dX5_readAtSite_85 : decode cX5_readAtSite 85 = .ok (.ifCond .eq 15, 3) := by decide +kernel
theorem dX5_readAtSite_88 : decode cX5_readAtSite 88 = .ok (.aload_n 0, 1) := by decide +kernel
theorem dX5_readAtSite_89 : decode cX5_readAtSite 89 = .ok (.getfield 16, 3) := by decide +kernel
theorem dX5_readAtSite_92 : decode cX5_readAtSite 92 = .ok (.iload_n 2, 1) := by decide +kernel
theorem dX5_readAtSite_93 : decode cX5_readAtSite 93 = .ok (.iload_n 3, 1) := by decide +kernel
theorem dX5_readAtSite_94 : decode cX5_readAtSite 94 = .ok (.invokestatic 169, 3) := by decide +kernel
theorem dX5_readAtSite_97 : decode cX5_readAtSite 97 = .ok (.goto 4, 3) := by decide +kernel
theorem dX5_readAtSite_100 : decode cX5_readAtSite 100 = .ok (.iconst 0, 1) := by decide +kernel
theorem dX5_readAtSite_101 : decode cX5_readAtSite 101 = .ok (.ireturn, 1) := by decide +kernel
theorem dX5_readAtSite_102 : decode cX5_readAtSite 102 = .ok (.aload_n 0, 1) := by decide +kernel
theorem dX5_readAtSite_103 : decode cX5_readAtSite 103 = .ok (.iconst 0, 1) := by decide +kernel
theorem dX5_readAtSite_104 : decode cX5_readAtSite 104 = .ok (.bipush 29, 2) := by decide +kernel
theorem dX5_readAtSite_106 : decode cX5_readAtSite 106 = .ok (.invokevirtual 151, 3) := by decide +kernel
theorem dX5_readAtSite_109 : decode cX5_readAtSite 109 = .ok (.istore_n 3, 1) := by decide +kernel
theorem dX5_readAtSite_110 : decode cX5_readAtSite 110 = .ok (.aload_n 0, 1) := by decide +kernel
theorem dX5_readAtSite_111 : decode cX5_readAtSite 111 = .ok (.aload_n 0, 1) := by decide +kernel
theorem dX5_readAtSite_112 : decode cX5_readAtSite 112 = .ok (.getfield 16, 3) := by decide +kernel
theorem dX5_readAtSite_115 : decode cX5_readAtSite 115 = .ok (.iload_n 2, 1) := by decide +kernel
theorem dX5_readAtSite_116 : decode cX5_readAtSite 116 = .ok (.invokestatic 166, 3) := by decide +kernel
theorem dX5_readAtSite_119 : decode cX5_readAtSite 119 = .ok (.ifCond .eq 19, 3) := by decide +kernel
theorem dX5_readAtSite_122 : decode cX5_readAtSite 122 = .ok (.aload_n 0, 1) := by decide +kernel
theorem dX5_readAtSite_123 : decode cX5_readAtSite 123 = .ok (.getfield 16, 3) := by decide +kernel
theorem dX5_readAtSite_126 : decode cX5_readAtSite 126 = .ok (.iload_n 2, 1) := by decide +kernel
theorem dX5_readAtSite_127 : decode cX5_readAtSite 127 = .ok (.iload_n 3, 1) := by decide +kernel
theorem dX5_readAtSite_128 : decode cX5_readAtSite 128 = .ok (.invokestatic 172, 3) := by decide +kernel
theorem dX5_readAtSite_131 : decode cX5_readAtSite 131 = .ok (.ifCond .eq 7, 3) := by decide +kernel
theorem dX5_readAtSite_134 : decode cX5_readAtSite 134 = .ok (.iconst 1, 1) := by decide +kernel
theorem dX5_readAtSite_135 : decode cX5_readAtSite 135 = .ok (.goto 4, 3) := by decide +kernel
theorem dX5_readAtSite_138 : decode cX5_readAtSite 138 = .ok (.iconst 0, 1) := by decide +kernel
theorem dX5_readAtSite_139 : decode cX5_readAtSite 139 = .ok (.invokevirtual 158, 3) := by decide +kernel
theorem dX5_readAtSite_142 : decode cX5_readAtSite 142 = .ok (.ifCond .eq 15, 3) := by decide +kernel
theorem dX5_readAtSite_145 : decode cX5_readAtSite 145 = .ok (.aload_n 0, 1) := by decide +kernel
theorem dX5_readAtSite_146 : decode cX5_readAtSite 146 = .ok (.getfield 16, 3) := by decide +kernel
theorem dX5_readAtSite_149 : decode cX5_readAtSite 149 = .ok (.iload_n 2, 1) := by decide +kernel
theorem dX5_readAtSite_150 : decode cX5_readAtSite 150 = .ok (.iload_n 3, 1) := by decide +kernel
theorem dX5_readAtSite_151 : decode cX5_readAtSite 151 = .ok (.invokestatic 175, 3) := by decide +kernel
theorem dX5_readAtSite_154 : decode cX5_readAtSite 154 = .ok (.goto 4, 3) := by decide +kernel
theorem dX5_readAtSite_157 : decode cX5_readAtSite 157 = .ok (.iconst 0, 1) := by decide +kernel
theorem dX5_readAtSite_158 : decode cX5_readAtSite 158 = .ok (.ireturn, 1) := by decide +kernel
theorem dX5_readAtSite_159 : decode cX5_readAtSite 159 = .ok (.aload_n 0, 1) := by decide +kernel
theorem dX5_readAtSite_160 : decode cX5_readAtSite 160 = .ok (.iconst 0, 1) := by decide +kernel
theorem dX5_readAtSite_161 : decode cX5_readAtSite 161 = .ok (.bipush 20, 2) := by decide +kernel
theorem dX5_readAtSite_163 : decode cX5_readAtSite 163 = .ok (.invokevirtual 151, 3) := by decide +kernel
theorem dX5_readAtSite_166 : decode cX5_readAtSite 166 = .ok (.istore_n 3, 1) := by decide +kernel
theorem dX5_readAtSite_167 : decode cX5_readAtSite 167 = .ok (.aload_n 0, 1) := by decide +kernel
theorem dX5_readAtSite_168 : decode cX5_readAtSite 168 = .ok (.aload_n 0, 1) := by decide +kernel
theorem dX5_readAtSite_169 : decode cX5_readAtSite 169 = .ok (.getfield 16, 3) := by decide +kernel
theorem dX5_readAtSite_172 : decode cX5_readAtSite 172 = .ok (.iload_n 2, 1) := by decide +kernel
theorem dX5_readAtSite_173 : decode cX5_readAtSite 173 = .ok (.invokestatic 166, 3) := by decide +kernel
theorem dX5_readAtSite_176 : decode cX5_readAtSite 176 = .ok (.invokevirtual 158, 3) := by decide +kernel
theorem dX5_readAtSite_179 : decode cX5_readAtSite 179 = .ok (.ifCond .eq 20, 3) := by decide +kernel
theorem dX5_readAtSite_182 : decode cX5_readAtSite 182 = .ok (.aload_n 0, 1) := by decide +kernel
theorem dX5_readAtSite_183 : decode cX5_readAtSite 183 = .ok (.getfield 16, 3) := by decide +kernel
theorem dX5_readAtSite_186 : decode cX5_readAtSite 186 = .ok (.bipush 35, 2) := by decide +kernel
theorem dX5_readAtSite_188 : decode cX5_readAtSite 188 = .ok (.iload_n 2, 1) := by decide +kernel
theorem dX5_readAtSite_189 : decode cX5_readAtSite 189 = .ok (.imul, 1) := by decide +kernel
theorem dX5_readAtSite_190 : decode cX5_readAtSite 190 = .ok (.iconst 1, 1) := by decide +kernel
theorem dX5_readAtSite_191 : decode cX5_readAtSite 191 = .ok (.iadd, 1) := by decide +kernel
theorem dX5_readAtSite_192 : decode cX5_readAtSite 192 = .ok (.iload_n 3, 1) := by decide +kernel
theorem dX5_readAtSite_193 : decode cX5_readAtSite 193 = .ok (.invokestatic 115, 3) := by decide +kernel
theorem dX5_readAtSite_196 : decode cX5_readAtSite 196 = .ok (.goto 4, 3) := by decide +kernel
theorem dX5_readAtSite_199 : decode cX5_readAtSite 199 = .ok (.iconst 0, 1) := by decide +kernel
theorem dX5_readAtSite_200 : decode cX5_readAtSite 200 = .ok (.ireturn, 1) := by decide +kernel
theorem dX5_readAtSite_201 : decode cX5_readAtSite 201 = .ok (.aload_n 0, 1) := by decide +kernel
theorem dX5_readAtSite_202 : decode cX5_readAtSite 202 = .ok (.aload_n 0, 1) := by decide +kernel
theorem dX5_readAtSite_203 : decode cX5_readAtSite 203 = .ok (.getfield 16, 3) := by decide +kernel
theorem dX5_readAtSite_206 : decode cX5_readAtSite 206 = .ok (.iload_n 2, 1) := by decide +kernel
theorem dX5_readAtSite_207 : decode cX5_readAtSite 207 = .ok (.invokestatic 166, 3) := by decide +kernel
theorem dX5_readAtSite_210 : decode cX5_readAtSite 210 = .ok (.invokevirtual 158, 3) := by decide +kernel
theorem dX5_readAtSite_213 : decode cX5_readAtSite 213 = .ok (.ifCond .eq 20, 3) := by decide +kernel
theorem dX5_readAtSite_216 : decode cX5_readAtSite 216 = .ok (.aload_n 0, 1) := by decide +kernel
theorem dX5_readAtSite_217 : decode cX5_readAtSite 217 = .ok (.getfield 16, 3) := by decide +kernel
theorem dX5_readAtSite_220 : decode cX5_readAtSite 220 = .ok (.bipush 35, 2) := by decide +kernel
theorem dX5_readAtSite_222 : decode cX5_readAtSite 222 = .ok (.iload_n 2, 1) := by decide +kernel
theorem dX5_readAtSite_223 : decode cX5_readAtSite 223 = .ok (.imul, 1) := by decide +kernel
theorem dX5_readAtSite_224 : decode cX5_readAtSite 224 = .ok (.iconst 0, 1) := by decide +kernel
theorem dX5_readAtSite_225 : decode cX5_readAtSite 225 = .ok (.iadd, 1) := by decide +kernel
theorem dX5_readAtSite_226 : decode cX5_readAtSite 226 = .ok (.iconst 0, 1) := by decide +kernel
theorem dX5_readAtSite_227 : decode cX5_readAtSite 227 = .ok (.invokestatic 115, 3) := by decide +kernel
theorem dX5_readAtSite_230 : decode cX5_readAtSite 230 = .ok (.goto 4, 3) := by decide +kernel
theorem dX5_readAtSite_233 : decode cX5_readAtSite 233 = .ok (.iconst 0, 1) := by decide +kernel
theorem dX5_readAtSite_234 : decode cX5_readAtSite 234 = .ok (.ireturn, 1) := by decide +kernel
set_option maxRecDepth 20000 in
theorem ggX5_readSet_X5_digit : GoodIn wsX5_readSet wsX5_digit := goodIn_r _ [6, 7, 8, 9, 10, 5, 11, 12, 13, 14, 15, 16, 17, 18, 19, 20, 21, 40, 41, 42, 43, 44, 45, 46, 47, 48, 49, 50, 51, 52] (by decide +kernel) (by decide +kernel)
set_option maxRecDepth 20000 in
theorem gX5_readSet_X5_digit : GoodIn wsX5_readSet (wsV RX5 145 RX5 yX5_digit wsX5_digit) := goodIn_app (goodIn_of _ (by decide +kernel)) ggX5_readSet_X5_digit
set_option maxRecDepth 20000 in
theorem ggX5_readSet_X5_two : GoodIn wsX5_readSet wsX5_two := goodIn_r _ [25, 2, 3, 4, 5, 6, 7, 8, 9, 10, 11, 12, 13, 14, 15, 16, 17, 18, 19, 20, 21, 40, 41, 42, 43, 44, 45, 46, 47, 48, 49, 50, 51, 52] (by decide +kernel) (by decide +kernel)
set_option maxRecDepth 20000 in
theorem gX5_readSet_X5_two : GoodIn wsX5_readSet (wsV RX5 151 RX5 yX5_two wsX5_two) := goodIn_app (goodIn_of _ (by decide +kernel)) ggX5_readSet_X5_two
set_option maxRecDepth 20000 in
theorem ggX5_readSet_X5_isSetting : GoodIn wsX5_readSet wsX5_isSetting := goodIn_r _ [28, 29, 30, 31, 15, 16, 5, 17] (by decide +kernel) (by decide +kernel)
set_option maxRecDepth 20000 in
theorem gX5_readSet_X5_isSetting : GoodIn wsX5_readSet (va_wsS RX5 178 yX5_isSetting wsX5_isSetting) := goodIn_app (goodIn_of _ (by decide +kernel)) ggX5_readSet_X5_isSetting
set_option maxRecDepth 20000 in
theorem ggX5_readSet_X5_goes : GoodIn wsX5_readSet wsX5_goes := goodIn_r _ [35, 36, 7, 40, 41, 42, 43, 44, 45, 46, 47, 48, 49, 50, 51, 52] (by decide +kernel) (by decide +kernel)
set_option maxRecDepth 20000 in
theorem gX5_readSet_X5_goes : GoodIn wsX5_readSet (wsV RX5 158 RX5 yX5_goes wsX5_goes) := goodIn_app (goodIn_of _ (by decide +kernel)) ggX5_readSet_X5_goes
set_option maxRecDepth 20000 in
theorem ggX5_readSet_X5_put : GoodIn wsX5_readSet wsX5_put := goodIn_r _ [39] (by decide +kernel) (by decide +kernel)
set_option maxRecDepth 20000 in
theorem gX5_readSet_X5_put : GoodIn wsX5_readSet (va_wsS RX5 115 yX5_put wsX5_put) := goodIn_app (goodIn_of _ (by decide +kernel)) ggX5_readSet_X5_put
theorem dX5_readSet_0 : decode cX5_readSet 0 = .ok (.aload_n 0, 1) := by decide +kernel
theorem dX5_readSet_1 : decode cX5_readSet 1 = .ok (.iconst 0, 1) := by decide +kernel
theorem dX5_readSet_2 : decode cX5_readSet 2 = .ok (.iconst 2, 1) := by decide +kernel
theorem dX5_readSet_3 : decode cX5_readSet 3 = .ok (.invokevirtual 145, 3) := by decide +kernel
theorem dX5_readSet_6 : decode cX5_readSet 6 = .ok (.istore_n 1, 1) := by decide +kernel
theorem dX5_readSet_7 : decode cX5_readSet 7 = .ok (.aload_n 0, 1) := by decide +kernel
theorem dX5_readSet_8 : decode cX5_readSet 8 = .ok (.iconst 0, 1) := by decide +kernel
theorem dX5_readSet_9 : decode cX5_readSet 9 = .ok (.bipush 50, 2) := by decide +kernel
theorem dX5_readSet_11 : decode cX5_readSet 11 = .ok (.invokevirtual 151, 3) := by decide +kernel
theorem dX5_readSet_14 : decode cX5_readSet 14 = .ok (.istore_n 2, 1) := by decide +kernel
theorem dX5_readSet_15 : decode cX5_readSet 15 = .ok (.aload_n 0, 1) := by decide +kernel
theorem dX5_readSet_16 : decode cX5_readSet 16 = .ok (.iload_n 1, 1) := by decide +kernel
theorem dX5_readSet_17 : decode cX5_readSet 17 = .ok (.iload_n 2, 1) := by decide +kernel
theorem dX5_readSet_18 : decode cX5_readSet 18 = .ok (.invokestatic 178, 3) := by decide +kernel
theorem dX5_readSet_21 : decode cX5_readSet 21 = .ok (.invokevirtual 158, 3) := by decide +kernel
theorem dX5_readSet_24 : decode cX5_readSet 24 = .ok (.ifCond .eq 19, 3) := by decide +kernel
theorem dX5_readSet_27 : decode cX5_readSet 27 = .ok (.aload_n 0, 1) := by decide +kernel
theorem dX5_readSet_28 : decode cX5_readSet 28 = .ok (.getfield 16, 3) := by decide +kernel
theorem dX5_readSet_31 : decode cX5_readSet 31 = .ok (.sipush 202, 3) := by decide +kernel
theorem dX5_readSet_34 : decode cX5_readSet 34 = .ok (.iload_n 1, 1) := by decide +kernel
theorem dX5_readSet_35 : decode cX5_readSet 35 = .ok (.iadd, 1) := by decide +kernel
theorem dX5_readSet_36 : decode cX5_readSet 36 = .ok (.iload_n 2, 1) := by decide +kernel
theorem dX5_readSet_37 : decode cX5_readSet 37 = .ok (.invokestatic 115, 3) := by decide +kernel
theorem dX5_readSet_40 : decode cX5_readSet 40 = .ok (.goto 4, 3) := by decide +kernel
theorem dX5_readSet_43 : decode cX5_readSet 43 = .ok (.iconst 0, 1) := by decide +kernel
theorem dX5_readSet_44 : decode cX5_readSet 44 = .ok (.ireturn, 1) := by decide +kernel
set_option maxRecDepth 20000 in
theorem ggX5_readCommand_X5_here : GoodIn wsX5_readCommand wsX5_here := goodIn_r _ [7, 8, 9, 10, 112, 113, 114, 115, 116, 117, 118, 119, 120, 121, 122, 123, 124] (by decide +kernel) (by decide +kernel)
set_option maxRecDepth 20000 in
theorem gX5_readCommand_X5_here : GoodIn wsX5_readCommand (wsV RX5 137 RX5 yX5_here wsX5_here) := goodIn_app (goodIn_of _ (by decide +kernel)) ggX5_readCommand_X5_here
set_option maxRecDepth 20000 in
theorem ggX5_readCommand_X5_take : GoodIn wsX5_readCommand wsX5_take := goodIn_r _ [14, 1, 8, 112, 113, 114, 115, 116, 117, 118, 119, 120, 121, 122, 123, 124] (by decide +kernel) (by decide +kernel)
set_option maxRecDepth 20000 in
theorem gX5_readCommand_X5_take : GoodIn wsX5_readCommand (wsV RX5 141 RX5 yX5_take wsX5_take) := goodIn_app (goodIn_of _ (by decide +kernel)) ggX5_readCommand_X5_take
set_option maxRecDepth 20000 in
theorem ggX5_readCommand_X5_goes : GoodIn wsX5_readCommand wsX5_goes := goodIn_r _ [18, 19, 1, 112, 113, 114, 115, 116, 117, 118, 119, 120, 121, 122, 123, 124] (by decide +kernel) (by decide +kernel)
set_option maxRecDepth 20000 in
theorem gX5_readCommand_X5_goes : GoodIn wsX5_readCommand (wsV RX5 158 RX5 yX5_goes wsX5_goes) := goodIn_app (goodIn_of _ (by decide +kernel)) ggX5_readCommand_X5_goes
set_option maxRecDepth 20000 in
theorem ggX5_readCommand_X5_addSite : GoodIn wsX5_readCommand wsX5_addSite := goodIn_r _ [22] (by decide +kernel) (by decide +kernel)
set_option maxRecDepth 20000 in
theorem gX5_readCommand_X5_addSite : GoodIn wsX5_readCommand (va_wsS RX5 182 yX5_addSite wsX5_addSite) := goodIn_app (goodIn_of _ (by decide +kernel)) ggX5_readCommand_X5_addSite
set_option maxRecDepth 20000 in
theorem ggX5_readCommand_X5_readDays : GoodIn wsX5_readCommand wsX5_readDays := goodIn_r _ [26, 2, 3, 4, 5, 6, 7, 8, 9, 10, 11, 12, 13, 14, 1, 27, 28, 29, 30, 31, 32, 33, 34, 35, 36, 37, 38, 39, 40, 15, 16, 17, 18, 19, 41, 42, 43, 44, 45, 46, 47, 48, 49, 50, 51, 52, 53, 54, 55, 56, 57, 58, 59, 60, 61, 62, 63, 64, 65, 66, 67, 68, 69, 70, 71, 72, 73, 74, 75, 76, 77, 78, 79, 112, 113, 114, 115, 116, 117, 118, 119, 120, 121, 122, 123, 124] (by decide +kernel) (by decide +kernel)
set_option maxRecDepth 20000 in
theorem gX5_readCommand_X5_readDays : GoodIn wsX5_readCommand (wsV RX5 185 RX5 yX5_readDays wsX5_readDays) := goodIn_app (goodIn_of _ (by decide +kernel)) ggX5_readCommand_X5_readDays
set_option maxRecDepth 20000 in
theorem ggX5_readCommand_X5_readSet : GoodIn wsX5_readCommand wsX5_readSet := goodIn_r _ [83, 2, 31, 32, 33, 6, 34, 1, 3, 4, 5, 7, 8, 9, 10, 35, 36, 37, 11, 12, 13, 14, 27, 28, 29, 30, 84, 85, 86, 87, 88, 89, 15, 16, 17, 18, 19, 90, 91, 92, 112, 113, 114, 115, 116, 117, 118, 119, 120, 121, 122, 123, 124] (by decide +kernel) (by decide +kernel)
set_option maxRecDepth 20000 in
theorem gX5_readCommand_X5_readSet : GoodIn wsX5_readCommand (wsV RX5 188 RX5 yX5_readSet wsX5_readSet) := goodIn_app (goodIn_of _ (by decide +kernel)) ggX5_readCommand_X5_readSet
set_option maxRecDepth 20000 in
theorem ggX5_readCommand_X5_beginWinter : GoodIn wsX5_readCommand wsX5_beginWinter := goodIn_r _ [95, 90, 91, 6, 92] (by decide +kernel) (by decide +kernel)
set_option maxRecDepth 20000 in
theorem gX5_readCommand_X5_beginWinter : GoodIn wsX5_readCommand (va_wsS RX5 191 yX5_beginWinter wsX5_beginWinter) := goodIn_app (goodIn_of _ (by decide +kernel)) ggX5_readCommand_X5_beginWinter
set_option maxRecDepth 20000 in
theorem ggX5_readCommand_X5_readAtSite : GoodIn wsX5_readCommand wsX5_readAtSite := goodIn_r _ [99, 2, 31, 32, 33, 6, 34, 1, 3, 4, 5, 7, 8, 9, 10, 35, 36, 37, 11, 12, 13, 14, 27, 28, 29, 30, 100, 101, 102, 15, 16, 17, 18, 19, 103, 104, 105, 106, 107, 108, 59, 60, 61, 62, 63, 64, 109, 110, 111, 90, 91, 92, 112, 113, 114, 115, 116, 117, 118, 119, 120, 121, 122, 123, 124] (by decide +kernel) (by decide +kernel)
set_option maxRecDepth 20000 in
theorem gX5_readCommand_X5_readAtSite : GoodIn wsX5_readCommand (wsV RX5 194 RX5 yX5_readAtSite wsX5_readAtSite) := goodIn_app (goodIn_of _ (by decide +kernel)) ggX5_readCommand_X5_readAtSite
theorem dX5_readCommand_0 : decode cX5_readCommand 0 = .ok (.aload_n 0, 1) := by decide +kernel
theorem dX5_readCommand_1 : decode cX5_readCommand 1 = .ok (.invokevirtual 137, 3) := by decide +kernel
theorem dX5_readCommand_4 : decode cX5_readCommand 4 = .ok (.istore_n 1, 1) := by decide +kernel
theorem dX5_readCommand_5 : decode cX5_readCommand 5 = .ok (.aload_n 0, 1) := by decide +kernel
theorem dX5_readCommand_6 : decode cX5_readCommand 6 = .ok (.iload_n 1, 1) := by decide +kernel
theorem dX5_readCommand_7 : decode cX5_readCommand 7 = .ok (.bipush 115, 2) := by decide +kernel
theorem dX5_readCommand_9 : decode cX5_readCommand 9 = .ok (.if_icmp .eq 45, 3) := by decide +kernel
theorem dX5_readCommand_12 : decode cX5_readCommand 12 = .ok (.iload_n 1, 1) := by decide +kernel
theorem dX5_readCommand_13 : decode cX5_readCommand 13 = .ok (.bipush 116, 2) := by decide +kernel
theorem dX5_readCommand_15 : decode cX5_readCommand 15 = .ok (.if_icmp .eq 39, 3) := by decide +kernel
theorem dX5_readCommand_18 : decode cX5_readCommand 18 = .ok (.iload_n 1, 1) := by decide +kernel
theorem dX5_readCommand_19 : decode cX5_readCommand 19 = .ok (.bipush 112, 2) := by decide +kernel
theorem dX5_readCommand_21 : decode cX5_readCommand 21 = .ok (.if_icmp .eq 33, 3) := by decide +kernel
theorem dX5_readCommand_24 : decode cX5_readCommand 24 = .ok (.iload_n 1, 1) := by decide +kernel
theorem dX5_readCommand_25 : decode cX5_readCommand 25 = .ok (.bipush 102, 2) := by decide +kernel
theorem dX5_readCommand_27 : decode cX5_readCommand 27 = .ok (.if_icmp .eq 27, 3) := by decide +kernel
theorem dX5_readCommand_30 : decode cX5_readCommand 30 = .ok (.iload_n 1, 1) := by decide +kernel
theorem dX5_readCommand_31 : decode cX5_readCommand 31 = .ok (.bipush 120, 2) := by decide +kernel
theorem dX5_readCommand_33 : decode cX5_readCommand 33 = .ok (.if_icmp .eq 21, 3) := by decide +kernel
theorem dX5_readCommand_36 : decode cX5_readCommand 36 = .ok (.iload_n 1, 1) := by decide +kernel
theorem dX5_readCommand_37 : decode cX5_readCommand 37 = .ok (.bipush 100, 2) := by decide +kernel
theorem dX5_readCommand_39 : decode cX5_readCommand 39 = .ok (.if_icmp .eq 15, 3) := by decide +kernel
theorem dX5_readCommand_42 : decode cX5_readCommand 42 = .ok (.iload_n 1, 1) := by decide +kernel
theorem dX5_readCommand_43 : decode cX5_readCommand 43 = .ok (.bipush 101, 2) := by decide +kernel
theorem dX5_readCommand_45 : decode cX5_readCommand 45 = .ok (.if_icmp .eq 9, 3) := by decide +kernel
theorem dX5_readCommand_48 : decode cX5_readCommand 48 = .ok (.iload_n 1, 1) := by decide +kernel
theorem dX5_readCommand_49 : decode cX5_readCommand 49 = .ok (.bipush 119, 2) := by decide +kernel
theorem dX5_readCommand_51 : decode cX5_readCommand 51 = .ok (.if_icmp .ne 7, 3) := by decide +kernel
theorem dX5_readCommand_54 : decode cX5_readCommand 54 = .ok (.iconst 1, 1) := by decide +kernel
theorem dX5_readCommand_55 : decode cX5_readCommand 55 = .ok (.goto 4, 3) := by decide +kernel
theorem dX5_readCommand_58 : decode cX5_readCommand 58 = .ok (.iconst 0, 1) := by decide +kernel
theorem dX5_readCommand_59 : decode cX5_readCommand 59 = .ok (.invokevirtual 141, 3) := by decide +kernel
theorem dX5_readCommand_62 : decode cX5_readCommand 62 = .ok (.aload_n 0, 1) := by decide +kernel
theorem dX5_readCommand_63 : decode cX5_readCommand 63 = .ok (.getfield 133, 3) := by decide +kernel
theorem dX5_readCommand_66 : decode cX5_readCommand 66 = .ok (.ifCond .ne 5, 3) := by decide +kernel
theorem dX5_readCommand_69 : decode cX5_readCommand 69 = .ok (.iconst 0, 1) := by decide +kernel
theorem dX5_readCommand_70 : decode cX5_readCommand 70 = .ok (.ireturn, 1) := by decide +kernel
theorem dX5_readCommand_71 : decode cX5_readCommand 71 = .ok (.iload_n 1, 1) := by decide +kernel
theorem dX5_readCommand_72 : decode cX5_readCommand 72 = .ok (.lookupswitch 98 #[(100, 80), (101, 85), (115, 44), (119, 90)], 44) := by decide +kernel
theorem dX5_readCommand_116 : decode cX5_readCommand 116 = .ok (.aload_n 0, 1) := by decide +kernel
theorem dX5_readCommand_117 : decode cX5_readCommand 117 = .ok (.aload_n 0, 1) := by decide +kernel
theorem dX5_readCommand_118 : decode cX5_readCommand 118 = .ok (.getfield 16, 3) := by decide +kernel
theorem dX5_readCommand_121 : decode cX5_readCommand 121 = .ok (.sipush 196, 3) := by decide +kernel
theorem dX5_readCommand_124 : decode cX5_readCommand 124 = .ok (.iaload, 1) := by decide +kernel
theorem dX5_readCommand_125 : decode cX5_readCommand 125 = .ok (.iconst 4, 1) := by decide +kernel
theorem dX5_readCommand_126 : decode cX5_readCommand 126 = .ok (.if_icmp .ge 7, 3) := by decide +kernel
theorem dX5_readCommand_129 : decode cX5_readCommand 129 = .ok (.iconst 1, 1) := by decide +kernel
theorem dX5_readCommand_130 : decode cX5_readCommand 130 = .ok (.goto 4, 3) := by decide +kernel
theorem dX5_readCommand_133 : decode cX5_readCommand 133 = .ok (.iconst 0, 1) := by decide +kernel
theorem dX5_readCommand_134 : decode cX5_readCommand 134 = .ok (.invokevirtual 158, 3) := by decide +kernel
theorem dX5_readCommand_137 : decode cX5_readCommand 137 = .ok (.ifCond .eq 13, 3) := by decide +kernel
theorem dX5_readCommand_140 : decode cX5_readCommand 140 = .ok (.aload_n 0, 1) := by decide +kernel
theorem dX5_readCommand_141 : decode cX5_readCommand 141 = .ok (.getfield 16, 3) := by decide +kernel
theorem dX5_readCommand_144 : decode cX5_readCommand 144 = .ok (.invokestatic 182, 3) := by decide +kernel
theorem dX5_readCommand_147 : decode cX5_readCommand 147 = .ok (.goto 4, 3) := by decide +kernel
theorem dX5_readCommand_150 : decode cX5_readCommand 150 = .ok (.iconst 0, 1) := by decide +kernel
theorem dX5_readCommand_151 : decode cX5_readCommand 151 = .ok (.ireturn, 1) := by decide +kernel
theorem dX5_readCommand_152 : decode cX5_readCommand 152 = .ok (.aload_n 0, 1) := by decide +kernel
theorem dX5_readCommand_153 : decode cX5_readCommand 153 = .ok (.invokevirtual 185, 3) := by decide +kernel
theorem dX5_readCommand_156 : decode cX5_readCommand 156 = .ok (.ireturn, 1) := by decide +kernel
theorem dX5_readCommand_157 : decode cX5_readCommand 157 = .ok (.aload_n 0, 1) := by decide +kernel
theorem dX5_readCommand_158 : decode cX5_readCommand 158 = .ok (.invokevirtual 188, 3) := by decide +kernel
theorem dX5_readCommand_161 : decode cX5_readCommand 161 = .ok (.ireturn, 1) := by decide +kernel
theorem dX5_readCommand_162 : decode cX5_readCommand 162 = .ok (.aload_n 0, 1) := by decide +kernel
theorem dX5_readCommand_163 : decode cX5_readCommand 163 = .ok (.getfield 16, 3) := by decide +kernel
theorem dX5_readCommand_166 : decode cX5_readCommand 166 = .ok (.invokestatic 191, 3) := by decide +kernel
theorem dX5_readCommand_169 : decode cX5_readCommand 169 = .ok (.ireturn, 1) := by decide +kernel
theorem dX5_readCommand_170 : decode cX5_readCommand 170 = .ok (.aload_n 0, 1) := by decide +kernel
theorem dX5_readCommand_171 : decode cX5_readCommand 171 = .ok (.iload_n 1, 1) := by decide +kernel
theorem dX5_readCommand_172 : decode cX5_readCommand 172 = .ok (.invokevirtual 194, 3) := by decide +kernel
theorem dX5_readCommand_175 : decode cX5_readCommand 175 = .ok (.ireturn, 1) := by decide +kernel
set_option maxRecDepth 20000 in
theorem ggX5_readAll_X5_fresh : GoodIn wsX5_readAll wsX5_fresh := goodIn_r _ [9] (by decide +kernel) (by decide +kernel)
set_option maxRecDepth 20000 in
theorem gX5_readAll_X5_fresh : GoodIn wsX5_readAll (va_wsS RX5 32 yX5_fresh wsX5_fresh) := goodIn_app (goodIn_of _ (by decide +kernel)) ggX5_readAll_X5_fresh
set_option maxRecDepth 20000 in
theorem ggX5_readAll_X5_here : GoodIn wsX5_readAll wsX5_here := goodIn_r _ [13, 1, 5, 14, 119, 120, 121, 122, 123, 124, 125, 126, 127, 128, 129, 130, 131] (by decide +kernel) (by decide +kernel)
set_option maxRecDepth 20000 in
theorem gX5_readAll_X5_here : GoodIn wsX5_readAll (wsV RX5 137 RX5 yX5_here wsX5_here) := goodIn_app (goodIn_of _ (by decide +kernel)) ggX5_readAll_X5_here
set_option maxRecDepth 20000 in
theorem ggX5_readAll_X5_take : GoodIn wsX5_readAll wsX5_take := goodIn_r _ [18, 2, 1, 119, 120, 121, 122, 123, 124, 125, 126, 127, 128, 129, 130, 131] (by decide +kernel) (by decide +kernel)
set_option maxRecDepth 20000 in
theorem gX5_readAll_X5_take : GoodIn wsX5_readAll (wsV RX5 141 RX5 yX5_take wsX5_take) := goodIn_app (goodIn_of _ (by decide +kernel)) ggX5_readAll_X5_take
set_option maxRecDepth 20000 in
theorem ggX5_readAll_X5_readCommand : GoodIn wsX5_readAll wsX5_readCommand := goodIn_r _ [22, 2, 4, 10, 11, 12, 8, 13, 1, 5, 14, 15, 16, 17, 18, 23, 24, 25, 26, 3, 27, 28, 29, 30, 31, 32, 33, 34, 35, 36, 37, 38, 39, 40, 41, 42, 43, 44, 45, 46, 47, 48, 49, 50, 51, 52, 53, 54, 55, 56, 57, 58, 59, 60, 61, 62, 63, 64, 65, 66, 67, 68, 69, 70, 71, 72, 73, 74, 75, 76, 77, 78, 79, 80, 81, 82, 83, 84, 85, 86, 87, 88, 89, 90, 91, 92, 93, 94, 95, 96, 97, 98, 99, 100, 101, 102, 103, 104, 105, 106, 107, 108, 109, 110, 111, 112, 113, 114, 115, 116, 117, 118, 119, 120, 121, 122, 123, 124, 125, 126, 127, 128, 129, 130, 131] (by decide +kernel) (by decide +kernel)
set_option maxRecDepth 20000 in
theorem gX5_readAll_X5_readCommand : GoodIn wsX5_readAll (wsV RX5 198 RX5 yX5_readCommand wsX5_readCommand) := goodIn_app (goodIn_of _ (by decide +kernel)) ggX5_readAll_X5_readCommand
theorem dX5_readAll_0 : decode cX5_readAll 0 = .ok (.aload_n 0, 1) := by decide +kernel
theorem dX5_readAll_1 : decode cX5_readAll 1 = .ok (.iconst 0, 1) := by decide +kernel
theorem dX5_readAll_2 : decode cX5_readAll 2 = .ok (.putfield 130, 3) := by decide +kernel
theorem dX5_readAll_5 : decode cX5_readAll 5 = .ok (.aload_n 0, 1) := by decide +kernel
theorem dX5_readAll_6 : decode cX5_readAll 6 = .ok (.iconst 1, 1) := by decide +kernel
theorem dX5_readAll_7 : decode cX5_readAll 7 = .ok (.putfield 133, 3) := by decide +kernel
theorem dX5_readAll_10 : decode cX5_readAll 10 = .ok (.aload_n 0, 1) := by decide +kernel
theorem dX5_readAll_11 : decode cX5_readAll 11 = .ok (.iconst 0, 1) := by decide +kernel
theorem dX5_readAll_12 : decode cX5_readAll 12 = .ok (.putfield 148, 3) := by decide +kernel
theorem dX5_readAll_15 : decode cX5_readAll 15 = .ok (.aload_n 0, 1) := by decide +kernel
theorem dX5_readAll_16 : decode cX5_readAll 16 = .ok (.getfield 16, 3) := by decide +kernel
theorem dX5_readAll_19 : decode cX5_readAll 19 = .ok (.invokestatic 32, 3) := by decide +kernel
theorem dX5_readAll_22 : decode cX5_readAll 22 = .ok (.aload_n 0, 1) := by decide +kernel
theorem dX5_readAll_23 : decode cX5_readAll 23 = .ok (.aload_n 0, 1) := by decide +kernel
theorem dX5_readAll_24 : decode cX5_readAll 24 = .ok (.invokevirtual 137, 3) := by decide +kernel
theorem dX5_readAll_27 : decode cX5_readAll 27 = .ok (.bipush 68, 2) := by decide +kernel
theorem dX5_readAll_29 : decode cX5_readAll 29 = .ok (.if_icmp .ne 7, 3) := by decide +kernel
theorem dX5_readAll_32 : decode cX5_readAll 32 = .ok (.iconst 1, 1) := by decide +kernel
theorem dX5_readAll_33 : decode cX5_readAll 33 = .ok (.goto 4, 3) := by decide +kernel
theorem dX5_readAll_36 : decode cX5_readAll 36 = .ok (.iconst 0, 1) := by decide +kernel
theorem dX5_readAll_37 : decode cX5_readAll 37 = .ok (.invokevirtual 141, 3) := by decide +kernel
theorem dX5_readAll_40 : decode cX5_readAll 40 = .ok (.aload_n 0, 1) := by decide +kernel
theorem dX5_readAll_41 : decode cX5_readAll 41 = .ok (.getfield 133, 3) := by decide +kernel
theorem dX5_readAll_44 : decode cX5_readAll 44 = .ok (.ifCond .eq 22, 3) := by decide +kernel
theorem dX5_readAll_47 : decode cX5_readAll 47 = .ok (.aload_n 0, 1) := by decide +kernel
theorem dX5_readAll_48 : decode cX5_readAll 48 = .ok (.getfield 130, 3) := by decide +kernel
theorem dX5_readAll_51 : decode cX5_readAll 51 = .ok (.aload_n 0, 1) := by decide +kernel
theorem dX5_readAll_52 : decode cX5_readAll 52 = .ok (.getfield 124, 3) := by decide +kernel
theorem dX5_readAll_55 : decode cX5_readAll 55 = .ok (.if_icmp .ge 11, 3) := by decide +kernel
theorem dX5_readAll_58 : decode cX5_readAll 58 = .ok (.aload_n 0, 1) := by decide +kernel
theorem dX5_readAll_59 : decode cX5_readAll 59 = .ok (.invokevirtual 198, 3) := by decide +kernel
theorem dX5_readAll_62 : decode cX5_readAll 62 = .ok (.istore_n 1, 1) := by decide +kernel
theorem dX5_readAll_63 : decode cX5_readAll 63 = .ok (.goto (-23), 3) := by decide +kernel
theorem dX5_readAll_66 : decode cX5_readAll 66 = .ok (.aload_n 0, 1) := by decide +kernel
theorem dX5_readAll_67 : decode cX5_readAll 67 = .ok (.getfield 133, 3) := by decide +kernel
theorem dX5_readAll_70 : decode cX5_readAll 70 = .ok (.ifCond .eq 7, 3) := by decide +kernel
theorem dX5_readAll_73 : decode cX5_readAll 73 = .ok (.iconst (-1), 1) := by decide +kernel
theorem dX5_readAll_74 : decode cX5_readAll 74 = .ok (.goto 7, 3) := by decide +kernel
theorem dX5_readAll_77 : decode cX5_readAll 77 = .ok (.aload_n 0, 1) := by decide +kernel
theorem dX5_readAll_78 : decode cX5_readAll 78 = .ok (.getfield 130, 3) := by decide +kernel
theorem dX5_readAll_81 : decode cX5_readAll 81 = .ok (.ireturn, 1) := by decide +kernel
set_option maxRecDepth 20000 in
theorem ggX5_errorPosition_X5_readAll : GoodIn wsX5_errorPosition wsX5_readAll := goodIn_r _ [6, 7, 8, 9, 10, 11, 12, 13, 5, 14, 15, 16, 17, 18, 19, 20, 21, 22, 23, 24, 25, 26, 27, 28, 29, 30, 31, 32, 33, 34, 35, 36, 37, 38, 39, 40, 41, 42, 43, 44, 45, 46, 47, 48, 49, 50, 51, 52, 53, 54, 55, 56, 57, 58, 59, 60, 61, 62, 63, 64, 65, 66, 67, 68, 69, 70, 71, 72, 73, 74, 75, 76, 77, 78, 79, 80, 81, 82, 83, 84, 85, 86, 87, 88, 89, 90, 91, 92, 93, 94, 95, 96, 97, 98, 99, 100, 101, 102, 103, 104, 105, 106, 107, 108, 109, 110, 111, 112, 113, 114, 115, 116, 117, 118, 119, 120, 121, 122, 123, 124, 125, 126, 127, 128, 129, 130, 131, 132, 133, 134, 135, 136] (by decide +kernel) (by decide +kernel)
set_option maxRecDepth 20000 in
theorem gX5_errorPosition_X5_readAll : GoodIn wsX5_errorPosition (wsV RX5 201 RX5 yX5_readAll wsX5_readAll) := goodIn_app (goodIn_of _ (by decide +kernel)) ggX5_errorPosition_X5_readAll
theorem dX5_errorPosition_0 : decode cX5_errorPosition 0 = .ok (.aload_n 0, 1) := by decide +kernel
theorem dX5_errorPosition_1 : decode cX5_errorPosition 1 = .ok (.iconst 0, 1) := by decide +kernel
theorem dX5_errorPosition_2 : decode cX5_errorPosition 2 = .ok (.putfield 36, 3) := by decide +kernel
theorem dX5_errorPosition_5 : decode cX5_errorPosition 5 = .ok (.aload_n 0, 1) := by decide +kernel
theorem dX5_errorPosition_6 : decode cX5_errorPosition 6 = .ok (.invokevirtual 201, 3) := by decide +kernel
theorem dX5_errorPosition_9 : decode cX5_errorPosition 9 = .ok (.ireturn, 1) := by decide +kernel
set_option maxRecDepth 20000 in
theorem ggX5_load_X5_readAll : GoodIn wsX5_load wsX5_readAll := goodIn_r _ [10, 11, 12, 5, 1, 13, 14, 15, 9, 16, 17, 18, 19, 20, 21, 22, 23, 24, 25, 26, 27, 28, 29, 30, 31, 32, 33, 34, 35, 36, 37, 38, 39, 40, 41, 42, 43, 44, 45, 46, 47, 48, 49, 50, 51, 52, 53, 54, 55, 56, 57, 58, 59, 60, 61, 62, 63, 64, 65, 66, 67, 68, 69, 70, 71, 72, 73, 74, 75, 76, 77, 78, 79, 80, 81, 82, 83, 84, 85, 86, 87, 88, 89, 90, 91, 92, 93, 94, 95, 96, 97, 98, 99, 100, 101, 102, 103, 104, 105, 106, 107, 108, 109, 110, 111, 112, 113, 114, 115, 116, 117, 118, 119, 120, 121, 122, 123, 124, 125, 134, 135, 136, 137, 138, 139, 140, 141, 142, 143, 144, 145, 146] (by decide +kernel) (by decide +kernel)
set_option maxRecDepth 20000 in
theorem gX5_load_X5_readAll : GoodIn wsX5_load (wsV RX5 201 RX5 yX5_readAll wsX5_readAll) := goodIn_app (goodIn_of _ (by decide +kernel)) ggX5_load_X5_readAll
set_option maxRecDepth 20000 in
theorem ggX5_load_X5_refused : GoodIn wsX5_load wsX5_refused := goodIn_r _ [129, 130, 134, 135, 136, 137, 138, 139, 140, 141, 142, 143, 144, 145, 146] (by decide +kernel) (by decide +kernel)
set_option maxRecDepth 20000 in
theorem gX5_load_X5_refused : GoodIn wsX5_load (wsV RX5 127 RX5 yX5_refused wsX5_refused) := goodIn_app (goodIn_of _ (by decide +kernel)) ggX5_load_X5_refused
set_option maxRecDepth 20000 in
theorem ggX5_load_X5_copy : GoodIn wsX5_load wsX5_copy := goodIn_r _ [133] (by decide +kernel) (by decide +kernel)
set_option maxRecDepth 20000 in
theorem gX5_load_X5_copy : GoodIn wsX5_load (va_wsS RX5 204 yX5_copy wsX5_copy) := goodIn_app (goodIn_of _ (by decide +kernel)) ggX5_load_X5_copy
theorem dX5_load_0 : decode cX5_load 0 = .ok (.aload_n 0, 1) := by decide +kernel
theorem dX5_load_1 : decode cX5_load 1 = .ok (.aload_n 0, 1) := by decide +kernel
theorem dX5_load_2 : decode cX5_load 2 = .ok (.invokevirtual 201, 3) := by decide +kernel
theorem dX5_load_5 : decode cX5_load 5 = .ok (.iconst (-1), 1) := by decide +kernel
theorem dX5_load_6 : decode cX5_load 6 = .ok (.if_icmp .ne 7, 3) := by decide +kernel
theorem dX5_load_9 : decode cX5_load 9 = .ok (.iconst 0, 1) := by decide +kernel
theorem dX5_load_10 : decode cX5_load 10 = .ok (.goto 4, 3) := by decide +kernel
theorem dX5_load_13 : decode cX5_load 13 = .ok (.iconst 1, 1) := by decide +kernel
theorem dX5_load_14 : decode cX5_load 14 = .ok (.invokevirtual 127, 3) := by decide +kernel
theorem dX5_load_17 : decode cX5_load 17 = .ok (.ifCond .eq 5, 3) := by decide +kernel
theorem dX5_load_20 : decode cX5_load 20 = .ok (.iconst 0, 1) := by decide +kernel
theorem dX5_load_21 : decode cX5_load 21 = .ok (.ireturn, 1) := by decide +kernel
theorem dX5_load_22 : decode cX5_load 22 = .ok (.aload_n 0, 1) := by decide +kernel
theorem dX5_load_23 : decode cX5_load 23 = .ok (.getfield 16, 3) := by decide +kernel
theorem dX5_load_26 : decode cX5_load 26 = .ok (.aload_n 0, 1) := by decide +kernel
theorem dX5_load_27 : decode cX5_load 27 = .ok (.getfield 7, 3) := by decide +kernel
theorem dX5_load_30 : decode cX5_load 30 = .ok (.invokestatic 204, 3) := by decide +kernel
theorem dX5_load_33 : decode cX5_load 33 = .ok (.aload_n 0, 1) := by decide +kernel
theorem dX5_load_34 : decode cX5_load 34 = .ok (.iconst 0, 1) := by decide +kernel
theorem dX5_load_35 : decode cX5_load 35 = .ok (.putfield 119, 3) := by decide +kernel
theorem dX5_load_38 : decode cX5_load 38 = .ok (.aload_n 0, 1) := by decide +kernel
theorem dX5_load_39 : decode cX5_load 39 = .ok (.getfield 25, 3) := by decide +kernel
theorem dX5_load_42 : decode cX5_load 42 = .ok (.iconst 0, 1) := by decide +kernel
theorem dX5_load_43 : decode cX5_load 43 = .ok (.iconst 0, 1) := by decide +kernel
theorem dX5_load_44 : decode cX5_load 44 = .ok (.bastore, 1) := by decide +kernel
theorem dX5_load_45 : decode cX5_load 45 = .ok (.aload_n 0, 1) := by decide +kernel
theorem dX5_load_46 : decode cX5_load 46 = .ok (.getfield 25, 3) := by decide +kernel
theorem dX5_load_49 : decode cX5_load 49 = .ok (.iconst 1, 1) := by decide +kernel
theorem dX5_load_50 : decode cX5_load 50 = .ok (.iconst 0, 1) := by decide +kernel
theorem dX5_load_51 : decode cX5_load 51 = .ok (.bastore, 1) := by decide +kernel
theorem dX5_load_52 : decode cX5_load 52 = .ok (.aload_n 0, 1) := by decide +kernel
theorem dX5_load_53 : decode cX5_load 53 = .ok (.getfield 148, 3) := by decide +kernel
theorem dX5_load_56 : decode cX5_load 56 = .ok (.ireturn, 1) := by decide +kernel
theorem dX5_heaves_0 : decode cX5_heaves 0 = .ok (.iconst 0, 1) := by decide +kernel
theorem dX5_heaves_1 : decode cX5_heaves 1 = .ok (.istore_n 1, 1) := by decide +kernel
theorem dX5_heaves_2 : decode cX5_heaves 2 = .ok (.iconst 0, 1) := by decide +kernel
theorem dX5_heaves_3 : decode cX5_heaves 3 = .ok (.istore_n 2, 1) := by decide +kernel
theorem dX5_heaves_4 : decode cX5_heaves 4 = .ok (.iload_n 2, 1) := by decide +kernel
theorem dX5_heaves_5 : decode cX5_heaves 5 = .ok (.aload_n 0, 1) := by decide +kernel
theorem dX5_heaves_6 : decode cX5_heaves 6 = .ok (.sipush 198, 3) := by decide +kernel
theorem dX5_heaves_9 : decode cX5_heaves 9 = .ok (.iaload, 1) := by decide +kernel
theorem dX5_heaves_10 : decode cX5_heaves 10 = .ok (.if_icmp .ge 23, 3) := by decide +kernel
theorem dX5_heaves_13 : decode cX5_heaves 13 = .ok (.iload_n 1, 1) := by decide +kernel
theorem dX5_heaves_14 : decode cX5_heaves 14 = .ok (.aload_n 0, 1) := by decide +kernel
theorem dX5_heaves_15 : decode cX5_heaves 15 = .ok (.sipush 156, 3) := by decide +kernel
theorem dX5_heaves_18 : decode cX5_heaves 18 = .ok (.iconst 5, 1) := by decide +kernel
theorem dX5_heaves_19 : decode cX5_heaves 19 = .ok (.iload_n 2, 1) := by decide +kernel
theorem dX5_heaves_20 : decode cX5_heaves 20 = .ok (.imul, 1) := by decide +kernel
theorem dX5_heaves_21 : decode cX5_heaves 21 = .ok (.iadd, 1) := by decide +kernel
theorem dX5_heaves_22 : decode cX5_heaves 22 = .ok (.iconst 2, 1) := by decide +kernel
theorem dX5_heaves_23 : decode cX5_heaves 23 = .ok (.iadd, 1) := by decide +kernel
theorem dX5_heaves_24 : decode cX5_heaves 24 = .ok (.iaload, 1) := by decide +kernel
theorem dX5_heaves_25 : decode cX5_heaves 25 = .ok (.iadd, 1) := by decide +kernel
theorem dX5_heaves_26 : decode cX5_heaves 26 = .ok (.istore_n 1, 1) := by decide +kernel
theorem dX5_heaves_27 : decode cX5_heaves 27 = .ok (.iinc 2 1, 3) := by decide +kernel
theorem dX5_heaves_30 : decode cX5_heaves 30 = .ok (.goto (-26), 3) := by decide +kernel
theorem dX5_heaves_33 : decode cX5_heaves 33 = .ok (.iload_n 1, 1) := by decide +kernel
theorem dX5_heaves_34 : decode cX5_heaves 34 = .ok (.ireturn, 1) := by decide +kernel
set_option maxRecDepth 20000 in
theorem ggX5_about_X5_in : GoodIn wsX5_about wsX5_in := goodIn_r _ [6] (by decide +kernel) (by decide +kernel)
set_option maxRecDepth 20000 in
theorem gX5_about_X5_in : GoodIn wsX5_about (va_wsS RX5 42 yX5_in wsX5_in) := goodIn_app (goodIn_of _ (by decide +kernel)) ggX5_about_X5_in
set_option maxRecDepth 20000 in
theorem ggX5_about_X5_refused : GoodIn wsX5_about wsX5_refused := goodIn_r _ [10, 11, 36, 37, 38, 39, 40, 41, 42, 43, 44, 45, 46, 47, 48] (by decide +kernel) (by decide +kernel)
set_option maxRecDepth 20000 in
theorem gX5_about_X5_refused : GoodIn wsX5_about (wsV RX5 127 RX5 yX5_refused wsX5_refused) := goodIn_app (goodIn_of _ (by decide +kernel)) ggX5_about_X5_refused
set_option maxRecDepth 20000 in
theorem ggX5_about_X5_allCells : GoodIn wsX5_about wsX5_allCells := goodIn_r _ [14, 15, 16, 5, 17, 18, 19, 20, 21, 22, 23] (by decide +kernel) (by decide +kernel)
set_option maxRecDepth 20000 in
theorem gX5_about_X5_allCells : GoodIn wsX5_about (va_wsS RX5 95 yX5_allCells wsX5_allCells) := goodIn_app (goodIn_of _ (by decide +kernel)) ggX5_about_X5_allCells
set_option maxRecDepth 20000 in
theorem ggX5_about_X5_allLayers : GoodIn wsX5_about wsX5_allLayers := goodIn_r _ [26, 27, 28, 5, 29, 30, 31, 32, 18, 19, 20, 21, 22, 23] (by decide +kernel) (by decide +kernel)
set_option maxRecDepth 20000 in
theorem gX5_about_X5_allLayers : GoodIn wsX5_about (va_wsS RX5 210 yX5_allLayers wsX5_allLayers) := goodIn_app (goodIn_of _ (by decide +kernel)) ggX5_about_X5_allLayers
set_option maxRecDepth 20000 in
theorem ggX5_about_X5_heaves : GoodIn wsX5_about wsX5_heaves := goodIn_r _ [35] (by decide +kernel) (by decide +kernel)
set_option maxRecDepth 20000 in
theorem gX5_about_X5_heaves : GoodIn wsX5_about (va_wsS RX5 213 yX5_heaves wsX5_heaves) := goodIn_app (goodIn_of _ (by decide +kernel)) ggX5_about_X5_heaves
theorem dX5_about_0 : decode cX5_about 0 = .ok (.aload_n 0, 1) := by decide +kernel
theorem dX5_about_1 : decode cX5_about 1 = .ok (.iload_n 1, 1) := by decide +kernel
theorem dX5_about_2 : decode cX5_about 2 = .ok (.i2l, 1) := by decide +kernel
theorem dX5_about_3 : decode cX5_about 3 = .ok (.lconst 0, 1) := by decide +kernel
theorem dX5_about_4 : decode cX5_about 4 = .ok (.ldc2_w 208, 3) := by decide +kernel
theorem dX5_about_7 : decode cX5_about 7 = .ok (.invokestatic 42, 3) := by decide +kernel
theorem dX5_about_10 : decode cX5_about 10 = .ok (.ifCond .eq 7, 3) := by decide +kernel
theorem dX5_about_13 : decode cX5_about 13 = .ok (.iconst 0, 1) := by decide +kernel
theorem dX5_about_14 : decode cX5_about 14 = .ok (.goto 4, 3) := by decide +kernel
theorem dX5_about_17 : decode cX5_about 17 = .ok (.iconst 1, 1) := by decide +kernel
theorem dX5_about_18 : decode cX5_about 18 = .ok (.invokevirtual 127, 3) := by decide +kernel
theorem dX5_about_21 : decode cX5_about 21 = .ok (.ifCond .eq 5, 3) := by decide +kernel
theorem dX5_about_24 : decode cX5_about 24 = .ok (.iconst 0, 1) := by decide +kernel
theorem dX5_about_25 : decode cX5_about 25 = .ok (.ireturn, 1) := by decide +kernel
theorem dX5_about_26 : decode cX5_about 26 = .ok (.iload_n 1, 1) := by decide +kernel
theorem dX5_about_27 : decode cX5_about 27 = .ok (.tableswitch 127 0 8 #[49, 58, 67, 76, 85, 93, 101, 110, 119], 49) := by decide +kernel
theorem dX5_about_76 : decode cX5_about 76 = .ok (.aload_n 0, 1) := by decide +kernel
theorem dX5_about_77 : decode cX5_about 77 = .ok (.getfield 7, 3) := by decide +kernel
theorem dX5_about_80 : decode cX5_about 80 = .ok (.sipush 196, 3) := by decide +kernel
theorem dX5_about_83 : decode cX5_about 83 = .ok (.iaload, 1) := by decide +kernel
theorem dX5_about_84 : decode cX5_about 84 = .ok (.ireturn, 1) := by decide +kernel
theorem dX5_about_85 : decode cX5_about 85 = .ok (.aload_n 0, 1) := by decide +kernel
theorem dX5_about_86 : decode cX5_about 86 = .ok (.getfield 7, 3) := by decide +kernel
theorem dX5_about_89 : decode cX5_about 89 = .ok (.sipush 197, 3) := by decide +kernel
theorem dX5_about_92 : decode cX5_about 92 = .ok (.iaload, 1) := by decide +kernel
theorem dX5_about_93 : decode cX5_about 93 = .ok (.ireturn, 1) := by decide +kernel
theorem dX5_about_94 : decode cX5_about 94 = .ok (.aload_n 0, 1) := by decide +kernel
theorem dX5_about_95 : decode cX5_about 95 = .ok (.getfield 7, 3) := by decide +kernel
theorem dX5_about_98 : decode cX5_about 98 = .ok (.sipush 198, 3) := by decide +kernel
theorem dX5_about_101 : decode cX5_about 101 = .ok (.iaload, 1) := by decide +kernel
theorem dX5_about_102 : decode cX5_about 102 = .ok (.ireturn, 1) := by decide +kernel
theorem dX5_about_103 : decode cX5_about 103 = .ok (.aload_n 0, 1) := by decide +kernel
theorem dX5_about_104 : decode cX5_about 104 = .ok (.getfield 7, 3) := by decide +kernel
theorem dX5_about_107 : decode cX5_about 107 = .ok (.sipush 199, 3) := by decide +kernel
theorem dX5_about_110 : decode cX5_about 110 = .ok (.iaload, 1) := by decide +kernel
theorem dX5_about_111 : decode cX5_about 111 = .ok (.ireturn, 1) := by decide +kernel
theorem dX5_about_112 : decode cX5_about 112 = .ok (.aload_n 0, 1) := by decide +kernel
theorem dX5_about_113 : decode cX5_about 113 = .ok (.getfield 7, 3) := by decide +kernel
theorem dX5_about_116 : decode cX5_about 116 = .ok (.invokestatic 95, 3) := by decide +kernel
theorem dX5_about_119 : decode cX5_about 119 = .ok (.ireturn, 1) := by decide +kernel
theorem dX5_about_120 : decode cX5_about 120 = .ok (.aload_n 0, 1) := by decide +kernel
theorem dX5_about_121 : decode cX5_about 121 = .ok (.getfield 7, 3) := by decide +kernel
theorem dX5_about_124 : decode cX5_about 124 = .ok (.invokestatic 210, 3) := by decide +kernel
theorem dX5_about_127 : decode cX5_about 127 = .ok (.ireturn, 1) := by decide +kernel
theorem dX5_about_128 : decode cX5_about 128 = .ok (.aload_n 0, 1) := by decide +kernel
theorem dX5_about_129 : decode cX5_about 129 = .ok (.getfield 7, 3) := by decide +kernel
theorem dX5_about_132 : decode cX5_about 132 = .ok (.sipush 200, 3) := by decide +kernel
theorem dX5_about_135 : decode cX5_about 135 = .ok (.iaload, 1) := by decide +kernel
theorem dX5_about_136 : decode cX5_about 136 = .ok (.ireturn, 1) := by decide +kernel
theorem dX5_about_137 : decode cX5_about 137 = .ok (.aload_n 0, 1) := by decide +kernel
theorem dX5_about_138 : decode cX5_about 138 = .ok (.getfield 7, 3) := by decide +kernel
theorem dX5_about_141 : decode cX5_about 141 = .ok (.sipush 201, 3) := by decide +kernel
theorem dX5_about_144 : decode cX5_about 144 = .ok (.iaload, 1) := by decide +kernel
theorem dX5_about_145 : decode cX5_about 145 = .ok (.ireturn, 1) := by decide +kernel
theorem dX5_about_146 : decode cX5_about 146 = .ok (.aload_n 0, 1) := by decide +kernel
theorem dX5_about_147 : decode cX5_about 147 = .ok (.getfield 7, 3) := by decide +kernel
theorem dX5_about_150 : decode cX5_about 150 = .ok (.invokestatic 213, 3) := by decide +kernel
theorem dX5_about_153 : decode cX5_about 153 = .ok (.ireturn, 1) := by decide +kernel
theorem dX5_about_154 : decode cX5_about 154 = .ok (.aload_n 0, 1) := by decide +kernel
theorem dX5_about_155 : decode cX5_about 155 = .ok (.getfield 7, 3) := by decide +kernel
theorem dX5_about_158 : decode cX5_about 158 = .ok (.sipush 202, 3) := by decide +kernel
theorem dX5_about_161 : decode cX5_about 161 = .ok (.iload_n 1, 1) := by decide +kernel
theorem dX5_about_162 : decode cX5_about 162 = .ok (.iadd, 1) := by decide +kernel
theorem dX5_about_163 : decode cX5_about 163 = .ok (.bipush 9, 2) := by decide +kernel
theorem dX5_about_165 : decode cX5_about 165 = .ok (.isub, 1) := by decide +kernel
theorem dX5_about_166 : decode cX5_about 166 = .ok (.iaload, 1) := by decide +kernel
theorem dX5_about_167 : decode cX5_about 167 = .ok (.ireturn, 1) := by decide +kernel
set_option maxRecDepth 20000 in
theorem ggX5_siteOf_X5_isSite : GoodIn wsX5_siteOf wsX5_isSite := goodIn_r _ [6, 7, 8, 5, 9] (by decide +kernel) (by decide +kernel)
set_option maxRecDepth 20000 in
theorem gX5_siteOf_X5_isSite : GoodIn wsX5_siteOf (va_wsS RX5 166 yX5_isSite wsX5_isSite) := goodIn_app (goodIn_of _ (by decide +kernel)) ggX5_siteOf_X5_isSite
set_option maxRecDepth 20000 in
theorem ggX5_siteOf_X5_in : GoodIn wsX5_siteOf wsX5_in := goodIn_r _ [9] (by decide +kernel) (by decide +kernel)
set_option maxRecDepth 20000 in
theorem gX5_siteOf_X5_in : GoodIn wsX5_siteOf (va_wsS RX5 42 yX5_in wsX5_in) := goodIn_app (goodIn_of _ (by decide +kernel)) ggX5_siteOf_X5_in
set_option maxRecDepth 20000 in
theorem ggX5_siteOf_X5_refused : GoodIn wsX5_siteOf wsX5_refused := goodIn_r _ [13, 14, 33, 34, 35, 36, 37, 38, 39, 40, 41, 42, 43, 44, 45] (by decide +kernel) (by decide +kernel)
set_option maxRecDepth 20000 in
theorem gX5_siteOf_X5_refused : GoodIn wsX5_siteOf (wsV RX5 127 RX5 yX5_refused wsX5_refused) := goodIn_app (goodIn_of _ (by decide +kernel)) ggX5_siteOf_X5_refused
set_option maxRecDepth 20000 in
theorem ggX5_siteOf_X5_cells : GoodIn wsX5_siteOf wsX5_cells := goodIn_r _ [17, 18, 19, 5, 20, 21, 22, 23] (by decide +kernel) (by decide +kernel)
set_option maxRecDepth 20000 in
theorem gX5_siteOf_X5_cells : GoodIn wsX5_siteOf (va_wsS RX5 89 yX5_cells wsX5_cells) := goodIn_app (goodIn_of _ (by decide +kernel)) ggX5_siteOf_X5_cells
set_option maxRecDepth 20000 in
theorem ggX5_siteOf_X5_countLayers : GoodIn wsX5_siteOf wsX5_countLayers := goodIn_r _ [26, 27, 28, 5, 29, 18, 19, 20, 21, 22, 23] (by decide +kernel) (by decide +kernel)
set_option maxRecDepth 20000 in
theorem gX5_siteOf_X5_countLayers : GoodIn wsX5_siteOf (va_wsS RX5 112 yX5_countLayers wsX5_countLayers) := goodIn_app (goodIn_of _ (by decide +kernel)) ggX5_siteOf_X5_countLayers
set_option maxRecDepth 20000 in
theorem ggX5_siteOf_X5_lowest : GoodIn wsX5_siteOf wsX5_lowest := goodIn_r _ [32, 18, 19, 5, 20, 21, 22, 23] (by decide +kernel) (by decide +kernel)
set_option maxRecDepth 20000 in
theorem gX5_siteOf_X5_lowest : GoodIn wsX5_siteOf (va_wsS RX5 82 yX5_lowest wsX5_lowest) := goodIn_app (goodIn_of _ (by decide +kernel)) ggX5_siteOf_X5_lowest
set_option maxRecDepth 20000 in
theorem ggX5_siteOf_X5_frozen : GoodIn wsX5_siteOf wsX5_frozen := goodIn_r _ [20, 21, 22, 5, 23] (by decide +kernel) (by decide +kernel)
set_option maxRecDepth 20000 in
theorem gX5_siteOf_X5_frozen : GoodIn wsX5_siteOf (va_wsS RX5 60 yX5_frozen wsX5_frozen) := goodIn_app (goodIn_of _ (by decide +kernel)) ggX5_siteOf_X5_frozen
theorem dX5_siteOf_0 : decode cX5_siteOf 0 = .ok (.aload_n 0, 1) := by decide +kernel
theorem dX5_siteOf_1 : decode cX5_siteOf 1 = .ok (.aload_n 0, 1) := by decide +kernel
theorem dX5_siteOf_2 : decode cX5_siteOf 2 = .ok (.getfield 7, 3) := by decide +kernel
theorem dX5_siteOf_5 : decode cX5_siteOf 5 = .ok (.iload_n 1, 1) := by decide +kernel
theorem dX5_siteOf_6 : decode cX5_siteOf 6 = .ok (.invokestatic 166, 3) := by decide +kernel
theorem dX5_siteOf_9 : decode cX5_siteOf 9 = .ok (.ifCond .ne 7, 3) := by decide +kernel
theorem dX5_siteOf_12 : decode cX5_siteOf 12 = .ok (.iconst 1, 1) := by decide +kernel
theorem dX5_siteOf_13 : decode cX5_siteOf 13 = .ok (.goto 20, 3) := by decide +kernel
theorem dX5_siteOf_16 : decode cX5_siteOf 16 = .ok (.iload_n 2, 1) := by decide +kernel
theorem dX5_siteOf_17 : decode cX5_siteOf 17 = .ok (.i2l, 1) := by decide +kernel
theorem dX5_siteOf_18 : decode cX5_siteOf 18 = .ok (.lconst 0, 1) := by decide +kernel
theorem dX5_siteOf_19 : decode cX5_siteOf 19 = .ok (.ldc2_w 216, 3) := by decide +kernel
theorem dX5_siteOf_22 : decode cX5_siteOf 22 = .ok (.invokestatic 42, 3) := by decide +kernel
theorem dX5_siteOf_25 : decode cX5_siteOf 25 = .ok (.ifCond .ne 7, 3) := by decide +kernel
theorem dX5_siteOf_28 : decode cX5_siteOf 28 = .ok (.iconst 2, 1) := by decide +kernel
theorem dX5_siteOf_29 : decode cX5_siteOf 29 = .ok (.goto 4, 3) := by decide +kernel
theorem dX5_siteOf_32 : decode cX5_siteOf 32 = .ok (.iconst 0, 1) := by decide +kernel
theorem dX5_siteOf_33 : decode cX5_siteOf 33 = .ok (.invokevirtual 127, 3) := by decide +kernel
theorem dX5_siteOf_36 : decode cX5_siteOf 36 = .ok (.ifCond .eq 5, 3) := by decide +kernel
theorem dX5_siteOf_39 : decode cX5_siteOf 39 = .ok (.iconst 0, 1) := by decide +kernel
theorem dX5_siteOf_40 : decode cX5_siteOf 40 = .ok (.ireturn, 1) := by decide +kernel
theorem dX5_siteOf_41 : decode cX5_siteOf 41 = .ok (.iload_n 2, 1) := by decide +kernel
theorem dX5_siteOf_42 : decode cX5_siteOf 42 = .ok (.tableswitch 75 5 8 #[30, 39, 48, 57], 30) := by decide +kernel
theorem dX5_siteOf_72 : decode cX5_siteOf 72 = .ok (.aload_n 0, 1) := by decide +kernel
theorem dX5_siteOf_73 : decode cX5_siteOf 73 = .ok (.getfield 7, 3) := by decide +kernel
theorem dX5_siteOf_76 : decode cX5_siteOf 76 = .ok (.iload_n 1, 1) := by decide +kernel
theorem dX5_siteOf_77 : decode cX5_siteOf 77 = .ok (.invokestatic 89, 3) := by decide +kernel
theorem dX5_siteOf_80 : decode cX5_siteOf 80 = .ok (.ireturn, 1) := by decide +kernel
theorem dX5_siteOf_81 : decode cX5_siteOf 81 = .ok (.aload_n 0, 1) := by decide +kernel
theorem dX5_siteOf_82 : decode cX5_siteOf 82 = .ok (.getfield 7, 3) := by decide +kernel
theorem dX5_siteOf_85 : decode cX5_siteOf 85 = .ok (.iload_n 1, 1) := by decide +kernel
theorem dX5_siteOf_86 : decode cX5_siteOf 86 = .ok (.invokestatic 112, 3) := by decide +kernel
theorem dX5_siteOf_89 : decode cX5_siteOf 89 = .ok (.ireturn, 1) := by decide +kernel
theorem dX5_siteOf_90 : decode cX5_siteOf 90 = .ok (.aload_n 0, 1) := by decide +kernel
theorem dX5_siteOf_91 : decode cX5_siteOf 91 = .ok (.getfield 7, 3) := by decide +kernel
theorem dX5_siteOf_94 : decode cX5_siteOf 94 = .ok (.iload_n 1, 1) := by decide +kernel
theorem dX5_siteOf_95 : decode cX5_siteOf 95 = .ok (.invokestatic 82, 3) := by decide +kernel
theorem dX5_siteOf_98 : decode cX5_siteOf 98 = .ok (.ireturn, 1) := by decide +kernel
theorem dX5_siteOf_99 : decode cX5_siteOf 99 = .ok (.aload_n 0, 1) := by decide +kernel
theorem dX5_siteOf_100 : decode cX5_siteOf 100 = .ok (.getfield 7, 3) := by decide +kernel
theorem dX5_siteOf_103 : decode cX5_siteOf 103 = .ok (.iload_n 1, 1) := by decide +kernel
theorem dX5_siteOf_104 : decode cX5_siteOf 104 = .ok (.iconst 0, 1) := by decide +kernel
theorem dX5_siteOf_105 : decode cX5_siteOf 105 = .ok (.invokestatic 60, 3) := by decide +kernel
theorem dX5_siteOf_108 : decode cX5_siteOf 108 = .ok (.ifCond .eq 7, 3) := by decide +kernel
theorem dX5_siteOf_111 : decode cX5_siteOf 111 = .ok (.iconst 1, 1) := by decide +kernel
theorem dX5_siteOf_112 : decode cX5_siteOf 112 = .ok (.goto 4, 3) := by decide +kernel
theorem dX5_siteOf_115 : decode cX5_siteOf 115 = .ok (.iconst 0, 1) := by decide +kernel
theorem dX5_siteOf_116 : decode cX5_siteOf 116 = .ok (.ireturn, 1) := by decide +kernel
theorem dX5_siteOf_117 : decode cX5_siteOf 117 = .ok (.aload_n 0, 1) := by decide +kernel
theorem dX5_siteOf_118 : decode cX5_siteOf 118 = .ok (.getfield 7, 3) := by decide +kernel
theorem dX5_siteOf_121 : decode cX5_siteOf 121 = .ok (.bipush 35, 2) := by decide +kernel
theorem dX5_siteOf_123 : decode cX5_siteOf 123 = .ok (.iload_n 1, 1) := by decide +kernel
theorem dX5_siteOf_124 : decode cX5_siteOf 124 = .ok (.imul, 1) := by decide +kernel
theorem dX5_siteOf_125 : decode cX5_siteOf 125 = .ok (.iload_n 2, 1) := by decide +kernel
theorem dX5_siteOf_126 : decode cX5_siteOf 126 = .ok (.iadd, 1) := by decide +kernel
theorem dX5_siteOf_127 : decode cX5_siteOf 127 = .ok (.iaload, 1) := by decide +kernel
theorem dX5_siteOf_128 : decode cX5_siteOf 128 = .ok (.ireturn, 1) := by decide +kernel
set_option maxRecDepth 20000 in
theorem ggX5_since_X5_isSite : GoodIn wsX5_since wsX5_isSite := goodIn_r _ [5, 6, 7, 4, 8] (by decide +kernel) (by decide +kernel)
set_option maxRecDepth 20000 in
theorem gX5_since_X5_isSite : GoodIn wsX5_since (va_wsS RX5 166 yX5_isSite wsX5_isSite) := goodIn_app (goodIn_of _ (by decide +kernel)) ggX5_since_X5_isSite
set_option maxRecDepth 20000 in
theorem ggX5_since_X5_isCell : GoodIn wsX5_since wsX5_isCell := goodIn_r _ [11, 12, 6, 7, 4, 8] (by decide +kernel) (by decide +kernel)
set_option maxRecDepth 20000 in
theorem gX5_since_X5_isCell : GoodIn wsX5_since (va_wsS RX5 218 yX5_isCell wsX5_isCell) := goodIn_app (goodIn_of _ (by decide +kernel)) ggX5_since_X5_isCell
set_option maxRecDepth 20000 in
theorem ggX5_since_X5_refused : GoodIn wsX5_since wsX5_refused := goodIn_r _ [16, 17, 24, 25, 26, 27, 28, 29, 30, 31, 32, 33, 34, 35, 36] (by decide +kernel) (by decide +kernel)
set_option maxRecDepth 20000 in
theorem gX5_since_X5_refused : GoodIn wsX5_since (wsV RX5 127 RX5 yX5_refused wsX5_refused) := goodIn_app (goodIn_of _ (by decide +kernel)) ggX5_since_X5_refused
set_option maxRecDepth 20000 in
theorem ggX5_since_X5_frozen : GoodIn wsX5_since wsX5_frozen := goodIn_r _ [20, 21, 22, 4, 23] (by decide +kernel) (by decide +kernel)
set_option maxRecDepth 20000 in
theorem gX5_since_X5_frozen : GoodIn wsX5_since (va_wsS RX5 60 yX5_frozen wsX5_frozen) := goodIn_app (goodIn_of _ (by decide +kernel)) ggX5_since_X5_frozen
set_option maxRecDepth 20000 in
theorem ggX5_since_X5_cell : GoodIn wsX5_since wsX5_cell := goodIn_r _ [23] (by decide +kernel) (by decide +kernel)
set_option maxRecDepth 20000 in
theorem gX5_since_X5_cell : GoodIn wsX5_since (va_wsS RX5 56 yX5_cell wsX5_cell) := goodIn_app (goodIn_of _ (by decide +kernel)) ggX5_since_X5_cell
theorem dX5_since_0 : decode cX5_since 0 = .ok (.aload_n 0, 1) := by decide +kernel
theorem dX5_since_1 : decode cX5_since 1 = .ok (.aload_n 0, 1) := by decide +kernel
theorem dX5_since_2 : decode cX5_since 2 = .ok (.getfield 7, 3) := by decide +kernel
theorem dX5_since_5 : decode cX5_since 5 = .ok (.iload_n 1, 1) := by decide +kernel
theorem dX5_since_6 : decode cX5_since 6 = .ok (.invokestatic 166, 3) := by decide +kernel
theorem dX5_since_9 : decode cX5_since 9 = .ok (.ifCond .eq 14, 3) := by decide +kernel
theorem dX5_since_12 : decode cX5_since 12 = .ok (.iload_n 2, 1) := by decide +kernel
theorem dX5_since_13 : decode cX5_since 13 = .ok (.invokestatic 218, 3) := by decide +kernel
theorem dX5_since_16 : decode cX5_since 16 = .ok (.ifCond .eq 7, 3) := by decide +kernel
theorem dX5_since_19 : decode cX5_since 19 = .ok (.iconst 0, 1) := by decide +kernel
theorem dX5_since_20 : decode cX5_since 20 = .ok (.goto 4, 3) := by decide +kernel
theorem dX5_since_23 : decode cX5_since 23 = .ok (.iconst 1, 1) := by decide +kernel
theorem dX5_since_24 : decode cX5_since 24 = .ok (.invokevirtual 127, 3) := by decide +kernel
theorem dX5_since_27 : decode cX5_since 27 = .ok (.ifCond .eq 5, 3) := by decide +kernel
theorem dX5_since_30 : decode cX5_since 30 = .ok (.iconst 0, 1) := by decide +kernel
theorem dX5_since_31 : decode cX5_since 31 = .ok (.ireturn, 1) := by decide +kernel
theorem dX5_since_32 : decode cX5_since 32 = .ok (.aload_n 0, 1) := by decide +kernel
theorem dX5_since_33 : decode cX5_since 33 = .ok (.getfield 7, 3) := by decide +kernel
theorem dX5_since_36 : decode cX5_since 36 = .ok (.iload_n 1, 1) := by decide +kernel
theorem dX5_since_37 : decode cX5_since 37 = .ok (.iload_n 2, 1) := by decide +kernel
theorem dX5_since_38 : decode cX5_since 38 = .ok (.invokestatic 60, 3) := by decide +kernel
theorem dX5_since_41 : decode cX5_since 41 = .ok (.ifCond .eq 16, 3) := by decide +kernel
theorem dX5_since_44 : decode cX5_since 44 = .ok (.aload_n 0, 1) := by decide +kernel
theorem dX5_since_45 : decode cX5_since 45 = .ok (.getfield 7, 3) := by decide +kernel
theorem dX5_since_48 : decode cX5_since 48 = .ok (.iload_n 1, 1) := by decide +kernel
theorem dX5_since_49 : decode cX5_since 49 = .ok (.iload_n 2, 1) := by decide +kernel
theorem dX5_since_50 : decode cX5_since 50 = .ok (.invokestatic 56, 3) := by decide +kernel
theorem dX5_since_53 : decode cX5_since 53 = .ok (.iaload, 1) := by decide +kernel
theorem dX5_since_54 : decode cX5_since 54 = .ok (.goto 4, 3) := by decide +kernel
theorem dX5_since_57 : decode cX5_since 57 = .ok (.iconst (-1), 1) := by decide +kernel
theorem dX5_since_58 : decode cX5_since 58 = .ok (.ireturn, 1) := by decide +kernel
set_option maxRecDepth 20000 in
theorem ggX5_layerOf_X5_isSite : GoodIn wsX5_layerOf wsX5_isSite := goodIn_r _ [6, 7, 8, 5, 9] (by decide +kernel) (by decide +kernel)
set_option maxRecDepth 20000 in
theorem gX5_layerOf_X5_isSite : GoodIn wsX5_layerOf (va_wsS RX5 166 yX5_isSite wsX5_isSite) := goodIn_app (goodIn_of _ (by decide +kernel)) ggX5_layerOf_X5_isSite
set_option maxRecDepth 20000 in
theorem ggX5_layerOf_X5_countLayers : GoodIn wsX5_layerOf wsX5_countLayers := goodIn_r _ [12, 13, 14, 5, 15, 16, 17, 18, 19, 20, 21] (by decide +kernel) (by decide +kernel)
set_option maxRecDepth 20000 in
theorem gX5_layerOf_X5_countLayers : GoodIn wsX5_layerOf (va_wsS RX5 112 yX5_countLayers wsX5_countLayers) := goodIn_app (goodIn_of _ (by decide +kernel)) ggX5_layerOf_X5_countLayers
set_option maxRecDepth 20000 in
theorem ggX5_layerOf_X5_in : GoodIn wsX5_layerOf wsX5_in := goodIn_r _ [9] (by decide +kernel) (by decide +kernel)
set_option maxRecDepth 20000 in
theorem gX5_layerOf_X5_in : GoodIn wsX5_layerOf (va_wsS RX5 42 yX5_in wsX5_in) := goodIn_app (goodIn_of _ (by decide +kernel)) ggX5_layerOf_X5_in
set_option maxRecDepth 20000 in
theorem ggX5_layerOf_X5_refused : GoodIn wsX5_layerOf wsX5_refused := goodIn_r _ [25, 26, 36, 37, 38, 39, 40, 41, 42, 43, 44, 45, 46, 47, 48] (by decide +kernel) (by decide +kernel)
set_option maxRecDepth 20000 in
theorem gX5_layerOf_X5_refused : GoodIn wsX5_layerOf (wsV RX5 127 RX5 yX5_refused wsX5_refused) := goodIn_app (goodIn_of _ (by decide +kernel)) ggX5_layerOf_X5_refused
set_option maxRecDepth 20000 in
theorem ggX5_layerOf_X5_layerAt : GoodIn wsX5_layerOf wsX5_layerAt := goodIn_r _ [29, 13, 14, 5, 15, 16, 17, 18, 19, 20, 21] (by decide +kernel) (by decide +kernel)
set_option maxRecDepth 20000 in
theorem gX5_layerOf_X5_layerAt : GoodIn wsX5_layerOf (va_wsS RX5 223 yX5_layerAt wsX5_layerAt) := goodIn_app (goodIn_of _ (by decide +kernel)) ggX5_layerOf_X5_layerAt
set_option maxRecDepth 20000 in
theorem ggX5_layerOf_X5_behind : GoodIn wsX5_layerOf wsX5_behind := goodIn_r _ [32, 16, 17, 5, 18, 19, 20, 21] (by decide +kernel) (by decide +kernel)
set_option maxRecDepth 20000 in
theorem gX5_layerOf_X5_behind : GoodIn wsX5_layerOf (va_wsS RX5 226 yX5_behind wsX5_behind) := goodIn_app (goodIn_of _ (by decide +kernel)) ggX5_layerOf_X5_behind
set_option maxRecDepth 20000 in
theorem ggX5_layerOf_X5_cell : GoodIn wsX5_layerOf wsX5_cell := goodIn_r _ [21] (by decide +kernel) (by decide +kernel)
set_option maxRecDepth 20000 in
theorem gX5_layerOf_X5_cell : GoodIn wsX5_layerOf (va_wsS RX5 56 yX5_cell wsX5_cell) := goodIn_app (goodIn_of _ (by decide +kernel)) ggX5_layerOf_X5_cell
set_option maxRecDepth 20000 in
theorem ggX5_layerOf_X5_min : GoodIn wsX5_layerOf wsX5_min := goodIn_r _ [35] (by decide +kernel) (by decide +kernel)
set_option maxRecDepth 20000 in
theorem gX5_layerOf_X5_min : GoodIn wsX5_layerOf (va_wsS RX5 64 yX5_min wsX5_min) := goodIn_app (goodIn_of _ (by decide +kernel)) ggX5_layerOf_X5_min
theorem dX5_layerOf_0 : decode cX5_layerOf 0 = .ok (.aload_n 0, 1) := by decide +kernel
theorem dX5_layerOf_1 : decode cX5_layerOf 1 = .ok (.getfield 7, 3) := by decide +kernel
theorem dX5_layerOf_4 : decode cX5_layerOf 4 = .ok (.iload_n 1, 1) := by decide +kernel
theorem dX5_layerOf_5 : decode cX5_layerOf 5 = .ok (.invokestatic 166, 3) := by decide +kernel
theorem dX5_layerOf_8 : decode cX5_layerOf 8 = .ok (.ifCond .eq 27, 3) := by decide +kernel
theorem dX5_layerOf_11 : decode cX5_layerOf 11 = .ok (.iload_n 2, 1) := by decide +kernel
theorem dX5_layerOf_12 : decode cX5_layerOf 12 = .ok (.i2l, 1) := by decide +kernel
theorem dX5_layerOf_13 : decode cX5_layerOf 13 = .ok (.lconst 0, 1) := by decide +kernel
theorem dX5_layerOf_14 : decode cX5_layerOf 14 = .ok (.aload_n 0, 1) := by decide +kernel
theorem dX5_layerOf_15 : decode cX5_layerOf 15 = .ok (.getfield 7, 3) := by decide +kernel
theorem dX5_layerOf_18 : decode cX5_layerOf 18 = .ok (.iload_n 1, 1) := by decide +kernel
theorem dX5_layerOf_19 : decode cX5_layerOf 19 = .ok (.invokestatic 112, 3) := by decide +kernel
theorem dX5_layerOf_22 : decode cX5_layerOf 22 = .ok (.iconst 1, 1) := by decide +kernel
theorem dX5_layerOf_23 : decode cX5_layerOf 23 = .ok (.isub, 1) := by decide +kernel
theorem dX5_layerOf_24 : decode cX5_layerOf 24 = .ok (.i2l, 1) := by decide +kernel
theorem dX5_layerOf_25 : decode cX5_layerOf 25 = .ok (.invokestatic 42, 3) := by decide +kernel
theorem dX5_layerOf_28 : decode cX5_layerOf 28 = .ok (.ifCond .eq 7, 3) := by decide +kernel
theorem dX5_layerOf_31 : decode cX5_layerOf 31 = .ok (.iconst 1, 1) := by decide +kernel
theorem dX5_layerOf_32 : decode cX5_layerOf 32 = .ok (.goto 4, 3) := by decide +kernel
theorem dX5_layerOf_35 : decode cX5_layerOf 35 = .ok (.iconst 0, 1) := by decide +kernel
theorem dX5_layerOf_36 : decode cX5_layerOf 36 = .ok (.istore 4, 2) := by decide +kernel
theorem dX5_layerOf_38 : decode cX5_layerOf 38 = .ok (.aload_n 0, 1) := by decide +kernel
theorem dX5_layerOf_39 : decode cX5_layerOf 39 = .ok (.iload 4, 2) := by decide +kernel
theorem dX5_layerOf_41 : decode cX5_layerOf 41 = .ok (.ifCond .ne 7, 3) := by decide +kernel
theorem dX5_layerOf_44 : decode cX5_layerOf 44 = .ok (.iconst 1, 1) := by decide +kernel
theorem dX5_layerOf_45 : decode cX5_layerOf 45 = .ok (.goto 20, 3) := by decide +kernel
theorem dX5_layerOf_48 : decode cX5_layerOf 48 = .ok (.iload_n 3, 1) := by decide +kernel
theorem dX5_layerOf_49 : decode cX5_layerOf 49 = .ok (.i2l, 1) := by decide +kernel
theorem dX5_layerOf_50 : decode cX5_layerOf 50 = .ok (.lconst 0, 1) := by decide +kernel
theorem dX5_layerOf_51 : decode cX5_layerOf 51 = .ok (.ldc2_w 221, 3) := by decide +kernel
theorem dX5_layerOf_54 : decode cX5_layerOf 54 = .ok (.invokestatic 42, 3) := by decide +kernel
theorem dX5_layerOf_57 : decode cX5_layerOf 57 = .ok (.ifCond .ne 7, 3) := by decide +kernel
theorem dX5_layerOf_60 : decode cX5_layerOf 60 = .ok (.iconst 2, 1) := by decide +kernel
theorem dX5_layerOf_61 : decode cX5_layerOf 61 = .ok (.goto 4, 3) := by decide +kernel
theorem dX5_layerOf_64 : decode cX5_layerOf 64 = .ok (.iconst 0, 1) := by decide +kernel
theorem dX5_layerOf_65 : decode cX5_layerOf 65 = .ok (.invokevirtual 127, 3) := by decide +kernel
theorem dX5_layerOf_68 : decode cX5_layerOf 68 = .ok (.ifCond .eq 5, 3) := by decide +kernel
theorem dX5_layerOf_71 : decode cX5_layerOf 71 = .ok (.iconst 0, 1) := by decide +kernel
theorem dX5_layerOf_72 : decode cX5_layerOf 72 = .ok (.ireturn, 1) := by decide +kernel
theorem dX5_layerOf_73 : decode cX5_layerOf 73 = .ok (.aload_n 0, 1) := by decide +kernel
theorem dX5_layerOf_74 : decode cX5_layerOf 74 = .ok (.getfield 7, 3) := by decide +kernel
theorem dX5_layerOf_77 : decode cX5_layerOf 77 = .ok (.iload_n 1, 1) := by decide +kernel
theorem dX5_layerOf_78 : decode cX5_layerOf 78 = .ok (.iload_n 2, 1) := by decide +kernel
theorem dX5_layerOf_79 : decode cX5_layerOf 79 = .ok (.invokestatic 223, 3) := by decide +kernel
theorem dX5_layerOf_82 : decode cX5_layerOf 82 = .ok (.istore 5, 2) := by decide +kernel
theorem dX5_layerOf_84 : decode cX5_layerOf 84 = .ok (.aload_n 0, 1) := by decide +kernel
theorem dX5_layerOf_85 : decode cX5_layerOf 85 = .ok (.getfield 7, 3) := by decide +kernel
theorem dX5_layerOf_88 : decode cX5_layerOf 88 = .ok (.iload_n 1, 1) := by decide +kernel
theorem dX5_layerOf_89 : decode cX5_layerOf 89 = .ok (.iload 5, 2) := by decide +kernel
theorem dX5_layerOf_91 : decode cX5_layerOf 91 = .ok (.invokestatic 226, 3) := by decide +kernel
theorem dX5_layerOf_94 : decode cX5_layerOf 94 = .ok (.istore 6, 2) := by decide +kernel
theorem dX5_layerOf_96 : decode cX5_layerOf 96 = .ok (.iload_n 3, 1) := by decide +kernel
theorem dX5_layerOf_97 : decode cX5_layerOf 97 = .ok (.iconst 2, 1) := by decide +kernel
theorem dX5_layerOf_98 : decode cX5_layerOf 98 = .ok (.if_icmp .ne 36, 3) := by decide +kernel
theorem dX5_layerOf_101 : decode cX5_layerOf 101 = .ok (.iload_n 2, 1) := by decide +kernel
theorem dX5_layerOf_102 : decode cX5_layerOf 102 = .ok (.iconst 1, 1) := by decide +kernel
theorem dX5_layerOf_103 : decode cX5_layerOf 103 = .ok (.iadd, 1) := by decide +kernel
theorem dX5_layerOf_104 : decode cX5_layerOf 104 = .ok (.aload_n 0, 1) := by decide +kernel
theorem dX5_layerOf_105 : decode cX5_layerOf 105 = .ok (.getfield 7, 3) := by decide +kernel
theorem dX5_layerOf_108 : decode cX5_layerOf 108 = .ok (.iload_n 1, 1) := by decide +kernel
theorem dX5_layerOf_109 : decode cX5_layerOf 109 = .ok (.invokestatic 112, 3) := by decide +kernel
theorem dX5_layerOf_112 : decode cX5_layerOf 112 = .ok (.if_icmp .ge 20, 3) := by decide +kernel
theorem dX5_layerOf_115 : decode cX5_layerOf 115 = .ok (.aload_n 0, 1) := by decide +kernel
theorem dX5_layerOf_116 : decode cX5_layerOf 116 = .ok (.getfield 7, 3) := by decide +kernel
theorem dX5_layerOf_119 : decode cX5_layerOf 119 = .ok (.iload_n 1, 1) := by decide +kernel
theorem dX5_layerOf_120 : decode cX5_layerOf 120 = .ok (.iload_n 2, 1) := by decide +kernel
theorem dX5_layerOf_121 : decode cX5_layerOf 121 = .ok (.iconst 1, 1) := by decide +kernel
theorem dX5_layerOf_122 : decode cX5_layerOf 122 = .ok (.iadd, 1) := by decide +kernel
theorem dX5_layerOf_123 : decode cX5_layerOf 123 = .ok (.invokestatic 223, 3) := by decide +kernel
theorem dX5_layerOf_126 : decode cX5_layerOf 126 = .ok (.iload 6, 2) := by decide +kernel
theorem dX5_layerOf_128 : decode cX5_layerOf 128 = .ok (.isub, 1) := by decide +kernel
theorem dX5_layerOf_129 : decode cX5_layerOf 129 = .ok (.goto 4, 3) := by decide +kernel
theorem dX5_layerOf_132 : decode cX5_layerOf 132 = .ok (.iconst 0, 1) := by decide +kernel
theorem dX5_layerOf_133 : decode cX5_layerOf 133 = .ok (.ireturn, 1) := by decide +kernel
theorem dX5_layerOf_134 : decode cX5_layerOf 134 = .ok (.aload_n 0, 1) := by decide +kernel
theorem dX5_layerOf_135 : decode cX5_layerOf 135 = .ok (.getfield 7, 3) := by decide +kernel
theorem dX5_layerOf_138 : decode cX5_layerOf 138 = .ok (.iload_n 1, 1) := by decide +kernel
theorem dX5_layerOf_139 : decode cX5_layerOf 139 = .ok (.iload 5, 2) := by decide +kernel
theorem dX5_layerOf_141 : decode cX5_layerOf 141 = .ok (.invokestatic 56, 3) := by decide +kernel
theorem dX5_layerOf_144 : decode cX5_layerOf 144 = .ok (.iaload, 1) := by decide +kernel
theorem dX5_layerOf_145 : decode cX5_layerOf 145 = .ok (.istore 7, 2) := by decide +kernel
theorem dX5_layerOf_147 : decode cX5_layerOf 147 = .ok (.iload 5, 2) := by decide +kernel
theorem dX5_layerOf_149 : decode cX5_layerOf 149 = .ok (.istore 8, 2) := by decide +kernel
theorem dX5_layerOf_151 : decode cX5_layerOf 151 = .ok (.iload 8, 2) := by decide +kernel
theorem dX5_layerOf_153 : decode cX5_layerOf 153 = .ok (.iload 6, 2) := by decide +kernel
theorem dX5_layerOf_155 : decode cX5_layerOf 155 = .ok (.if_icmp .ge 27, 3) := by decide +kernel
theorem dX5_layerOf_158 : decode cX5_layerOf 158 = .ok (.iload 7, 2) := by decide +kernel
theorem dX5_layerOf_160 : decode cX5_layerOf 160 = .ok (.aload_n 0, 1) := by decide +kernel
theorem dX5_layerOf_161 : decode cX5_layerOf 161 = .ok (.getfield 7, 3) := by decide +kernel
theorem dX5_layerOf_164 : decode cX5_layerOf 164 = .ok (.iload_n 1, 1) := by decide +kernel
theorem dX5_layerOf_165 : decode cX5_layerOf 165 = .ok (.iload 8, 2) := by decide +kernel
theorem dX5_layerOf_167 : decode cX5_layerOf 167 = .ok (.invokestatic 56, 3) := by decide +kernel
theorem dX5_layerOf_170 : decode cX5_layerOf 170 = .ok (.iaload, 1) := by decide +kernel
theorem dX5_layerOf_171 : decode cX5_layerOf 171 = .ok (.invokestatic 64, 3) := by decide +kernel
theorem dX5_layerOf_174 : decode cX5_layerOf 174 = .ok (.istore 7, 2) := by decide +kernel
theorem dX5_layerOf_176 : decode cX5_layerOf 176 = .ok (.iinc 8 1, 3) := by decide +kernel
theorem dX5_layerOf_179 : decode cX5_layerOf 179 = .ok (.goto (-28), 3) := by decide +kernel
theorem dX5_layerOf_182 : decode cX5_layerOf 182 = .ok (.iload_n 3, 1) := by decide +kernel
theorem dX5_layerOf_183 : decode cX5_layerOf 183 = .ok (.ifCond .ne 8, 3) := by decide +kernel
theorem dX5_layerOf_186 : decode cX5_layerOf 186 = .ok (.iload 5, 2) := by decide +kernel
theorem dX5_layerOf_188 : decode cX5_layerOf 188 = .ok (.goto 18, 3) := by decide +kernel
theorem dX5_layerOf_191 : decode cX5_layerOf 191 = .ok (.iload_n 3, 1) := by decide +kernel
theorem dX5_layerOf_192 : decode cX5_layerOf 192 = .ok (.iconst 1, 1) := by decide +kernel
theorem dX5_layerOf_193 : decode cX5_layerOf 193 = .ok (.if_icmp .ne 11, 3) := by decide +kernel
theorem dX5_layerOf_196 : decode cX5_layerOf 196 = .ok (.iload 6, 2) := by decide +kernel
theorem dX5_layerOf_198 : decode cX5_layerOf 198 = .ok (.iload 5, 2) := by decide +kernel
theorem dX5_layerOf_200 : decode cX5_layerOf 200 = .ok (.isub, 1) := by decide +kernel
theorem dX5_layerOf_201 : decode cX5_layerOf 201 = .ok (.goto 5, 3) := by decide +kernel
theorem dX5_layerOf_204 : decode cX5_layerOf 204 = .ok (.iload 7, 2) := by decide +kernel
theorem dX5_layerOf_206 : decode cX5_layerOf 206 = .ok (.ireturn, 1) := by decide +kernel
set_option maxRecDepth 20000 in
theorem ggX5_tubeOf_X5_isTube : GoodIn wsX5_tubeOf wsX5_isTube := goodIn_r _ [6, 7, 8, 5, 9] (by decide +kernel) (by decide +kernel)
set_option maxRecDepth 20000 in
theorem gX5_tubeOf_X5_isTube : GoodIn wsX5_tubeOf (va_wsS RX5 229 yX5_isTube wsX5_isTube) := goodIn_app (goodIn_of _ (by decide +kernel)) ggX5_tubeOf_X5_isTube
set_option maxRecDepth 20000 in
theorem ggX5_tubeOf_X5_in : GoodIn wsX5_tubeOf wsX5_in := goodIn_r _ [9] (by decide +kernel) (by decide +kernel)
set_option maxRecDepth 20000 in
theorem gX5_tubeOf_X5_in : GoodIn wsX5_tubeOf (va_wsS RX5 42 yX5_in wsX5_in) := goodIn_app (goodIn_of _ (by decide +kernel)) ggX5_tubeOf_X5_in
set_option maxRecDepth 20000 in
theorem ggX5_tubeOf_X5_refused : GoodIn wsX5_tubeOf wsX5_refused := goodIn_r _ [13, 14, 27, 28, 29, 30, 31, 32, 33, 34, 35, 36, 37, 38, 39] (by decide +kernel) (by decide +kernel)
set_option maxRecDepth 20000 in
theorem gX5_tubeOf_X5_refused : GoodIn wsX5_tubeOf (wsV RX5 127 RX5 yX5_refused wsX5_refused) := goodIn_app (goodIn_of _ (by decide +kernel)) ggX5_tubeOf_X5_refused
set_option maxRecDepth 20000 in
theorem ggX5_tubeOf_X5_frozen : GoodIn wsX5_tubeOf wsX5_frozen := goodIn_r _ [17, 18, 19, 5, 20] (by decide +kernel) (by decide +kernel)
set_option maxRecDepth 20000 in
theorem gX5_tubeOf_X5_frozen : GoodIn wsX5_tubeOf (va_wsS RX5 60 yX5_frozen wsX5_frozen) := goodIn_app (goodIn_of _ (by decide +kernel)) ggX5_tubeOf_X5_frozen
set_option maxRecDepth 20000 in
theorem ggX5_tubeOf_X5_begins : GoodIn wsX5_tubeOf wsX5_begins := goodIn_r _ [23, 15, 16, 5, 17, 18, 19, 20] (by decide +kernel) (by decide +kernel)
set_option maxRecDepth 20000 in
theorem gX5_tubeOf_X5_begins : GoodIn wsX5_tubeOf (va_wsS RX5 105 yX5_begins wsX5_begins) := goodIn_app (goodIn_of _ (by decide +kernel)) ggX5_tubeOf_X5_begins
set_option maxRecDepth 20000 in
theorem ggX5_tubeOf_X5_lowest : GoodIn wsX5_tubeOf wsX5_lowest := goodIn_r _ [26, 15, 16, 5, 17, 18, 19, 20] (by decide +kernel) (by decide +kernel)
set_option maxRecDepth 20000 in
theorem gX5_tubeOf_X5_lowest : GoodIn wsX5_tubeOf (va_wsS RX5 82 yX5_lowest wsX5_lowest) := goodIn_app (goodIn_of _ (by decide +kernel)) ggX5_tubeOf_X5_lowest
theorem dX5_tubeOf_0 : decode cX5_tubeOf 0 = .ok (.aload_n 0, 1) := by decide +kernel
theorem dX5_tubeOf_1 : decode cX5_tubeOf 1 = .ok (.aload_n 0, 1) := by decide +kernel
theorem dX5_tubeOf_2 : decode cX5_tubeOf 2 = .ok (.getfield 7, 3) := by decide +kernel
theorem dX5_tubeOf_5 : decode cX5_tubeOf 5 = .ok (.iload_n 1, 1) := by decide +kernel
theorem dX5_tubeOf_6 : decode cX5_tubeOf 6 = .ok (.invokestatic 229, 3) := by decide +kernel
theorem dX5_tubeOf_9 : decode cX5_tubeOf 9 = .ok (.ifCond .ne 7, 3) := by decide +kernel
theorem dX5_tubeOf_12 : decode cX5_tubeOf 12 = .ok (.iconst 1, 1) := by decide +kernel
theorem dX5_tubeOf_13 : decode cX5_tubeOf 13 = .ok (.goto 20, 3) := by decide +kernel
theorem dX5_tubeOf_16 : decode cX5_tubeOf 16 = .ok (.iload_n 2, 1) := by decide +kernel
theorem dX5_tubeOf_17 : decode cX5_tubeOf 17 = .ok (.i2l, 1) := by decide +kernel
theorem dX5_tubeOf_18 : decode cX5_tubeOf 18 = .ok (.lconst 0, 1) := by decide +kernel
theorem dX5_tubeOf_19 : decode cX5_tubeOf 19 = .ok (.ldc2_w 232, 3) := by decide +kernel
theorem dX5_tubeOf_22 : decode cX5_tubeOf 22 = .ok (.invokestatic 42, 3) := by decide +kernel
theorem dX5_tubeOf_25 : decode cX5_tubeOf 25 = .ok (.ifCond .ne 7, 3) := by decide +kernel
theorem dX5_tubeOf_28 : decode cX5_tubeOf 28 = .ok (.iconst 2, 1) := by decide +kernel
theorem dX5_tubeOf_29 : decode cX5_tubeOf 29 = .ok (.goto 4, 3) := by decide +kernel
theorem dX5_tubeOf_32 : decode cX5_tubeOf 32 = .ok (.iconst 0, 1) := by decide +kernel
theorem dX5_tubeOf_33 : decode cX5_tubeOf 33 = .ok (.invokevirtual 127, 3) := by decide +kernel
theorem dX5_tubeOf_36 : decode cX5_tubeOf 36 = .ok (.ifCond .eq 5, 3) := by decide +kernel
theorem dX5_tubeOf_39 : decode cX5_tubeOf 39 = .ok (.iconst 0, 1) := by decide +kernel
theorem dX5_tubeOf_40 : decode cX5_tubeOf 40 = .ok (.ireturn, 1) := by decide +kernel
theorem dX5_tubeOf_41 : decode cX5_tubeOf 41 = .ok (.aload_n 0, 1) := by decide +kernel
theorem dX5_tubeOf_42 : decode cX5_tubeOf 42 = .ok (.getfield 7, 3) := by decide +kernel
theorem dX5_tubeOf_45 : decode cX5_tubeOf 45 = .ok (.sipush 140, 3) := by decide +kernel
theorem dX5_tubeOf_48 : decode cX5_tubeOf 48 = .ok (.iconst 2, 1) := by decide +kernel
theorem dX5_tubeOf_49 : decode cX5_tubeOf 49 = .ok (.iload_n 1, 1) := by decide +kernel
theorem dX5_tubeOf_50 : decode cX5_tubeOf 50 = .ok (.imul, 1) := by decide +kernel
theorem dX5_tubeOf_51 : decode cX5_tubeOf 51 = .ok (.iadd, 1) := by decide +kernel
theorem dX5_tubeOf_52 : decode cX5_tubeOf 52 = .ok (.iaload, 1) := by decide +kernel
theorem dX5_tubeOf_53 : decode cX5_tubeOf 53 = .ok (.istore_n 3, 1) := by decide +kernel
theorem dX5_tubeOf_54 : decode cX5_tubeOf 54 = .ok (.aload_n 0, 1) := by decide +kernel
theorem dX5_tubeOf_55 : decode cX5_tubeOf 55 = .ok (.getfield 7, 3) := by decide +kernel
theorem dX5_tubeOf_58 : decode cX5_tubeOf 58 = .ok (.sipush 140, 3) := by decide +kernel
theorem dX5_tubeOf_61 : decode cX5_tubeOf 61 = .ok (.iconst 2, 1) := by decide +kernel
theorem dX5_tubeOf_62 : decode cX5_tubeOf 62 = .ok (.iload_n 1, 1) := by decide +kernel
theorem dX5_tubeOf_63 : decode cX5_tubeOf 63 = .ok (.imul, 1) := by decide +kernel
theorem dX5_tubeOf_64 : decode cX5_tubeOf 64 = .ok (.iadd, 1) := by decide +kernel
theorem dX5_tubeOf_65 : decode cX5_tubeOf 65 = .ok (.iconst 1, 1) := by decide +kernel
theorem dX5_tubeOf_66 : decode cX5_tubeOf 66 = .ok (.iadd, 1) := by decide +kernel
theorem dX5_tubeOf_67 : decode cX5_tubeOf 67 = .ok (.iaload, 1) := by decide +kernel
theorem dX5_tubeOf_68 : decode cX5_tubeOf 68 = .ok (.istore 4, 2) := by decide +kernel
theorem dX5_tubeOf_70 : decode cX5_tubeOf 70 = .ok (.iconst 0, 1) := by decide +kernel
theorem dX5_tubeOf_71 : decode cX5_tubeOf 71 = .ok (.istore 5, 2) := by decide +kernel
theorem dX5_tubeOf_73 : decode cX5_tubeOf 73 = .ok (.iconst 0, 1) := by decide +kernel
theorem dX5_tubeOf_74 : decode cX5_tubeOf 74 = .ok (.istore 6, 2) := by decide +kernel
theorem dX5_tubeOf_76 : decode cX5_tubeOf 76 = .ok (.iconst (-1), 1) := by decide +kernel
theorem dX5_tubeOf_77 : decode cX5_tubeOf 77 = .ok (.istore 7, 2) := by decide +kernel
theorem dX5_tubeOf_79 : decode cX5_tubeOf 79 = .ok (.iconst 0, 1) := by decide +kernel
theorem dX5_tubeOf_80 : decode cX5_tubeOf 80 = .ok (.istore 8, 2) := by decide +kernel
theorem dX5_tubeOf_82 : decode cX5_tubeOf 82 = .ok (.iload 8, 2) := by decide +kernel
theorem dX5_tubeOf_84 : decode cX5_tubeOf 84 = .ok (.iload 4, 2) := by decide +kernel
theorem dX5_tubeOf_86 : decode cX5_tubeOf 86 = .ok (.if_icmp .ge 77, 3) := by decide +kernel
theorem dX5_tubeOf_89 : decode cX5_tubeOf 89 = .ok (.iload 5, 2) := by decide +kernel
theorem dX5_tubeOf_91 : decode cX5_tubeOf 91 = .ok (.aload_n 0, 1) := by decide +kernel
theorem dX5_tubeOf_92 : decode cX5_tubeOf 92 = .ok (.getfield 7, 3) := by decide +kernel
theorem dX5_tubeOf_95 : decode cX5_tubeOf 95 = .ok (.iload_n 3, 1) := by decide +kernel
theorem dX5_tubeOf_96 : decode cX5_tubeOf 96 = .ok (.iload 8, 2) := by decide +kernel
theorem dX5_tubeOf_98 : decode cX5_tubeOf 98 = .ok (.invokestatic 60, 3) := by decide +kernel
theorem dX5_tubeOf_101 : decode cX5_tubeOf 101 = .ok (.ifCond .eq 7, 3) := by decide +kernel
theorem dX5_tubeOf_104 : decode cX5_tubeOf 104 = .ok (.iconst 1, 1) := by decide +kernel
theorem dX5_tubeOf_105 : decode cX5_tubeOf 105 = .ok (.goto 4, 3) := by decide +kernel
theorem dX5_tubeOf_108 : decode cX5_tubeOf 108 = .ok (.iconst 0, 1) := by decide +kernel
theorem dX5_tubeOf_109 : decode cX5_tubeOf 109 = .ok (.iadd, 1) := by decide +kernel
theorem dX5_tubeOf_110 : decode cX5_tubeOf 110 = .ok (.istore 5, 2) := by decide +kernel
theorem dX5_tubeOf_112 : decode cX5_tubeOf 112 = .ok (.iload 6, 2) := by decide +kernel
theorem dX5_tubeOf_114 : decode cX5_tubeOf 114 = .ok (.aload_n 0, 1) := by decide +kernel
theorem dX5_tubeOf_115 : decode cX5_tubeOf 115 = .ok (.getfield 7, 3) := by decide +kernel
theorem dX5_tubeOf_118 : decode cX5_tubeOf 118 = .ok (.iload_n 3, 1) := by decide +kernel
theorem dX5_tubeOf_119 : decode cX5_tubeOf 119 = .ok (.iload 8, 2) := by decide +kernel
theorem dX5_tubeOf_121 : decode cX5_tubeOf 121 = .ok (.invokestatic 105, 3) := by decide +kernel
theorem dX5_tubeOf_124 : decode cX5_tubeOf 124 = .ok (.ifCond .eq 7, 3) := by decide +kernel
theorem dX5_tubeOf_127 : decode cX5_tubeOf 127 = .ok (.iconst 1, 1) := by decide +kernel
theorem dX5_tubeOf_128 : decode cX5_tubeOf 128 = .ok (.goto 4, 3) := by decide +kernel
theorem dX5_tubeOf_131 : decode cX5_tubeOf 131 = .ok (.iconst 0, 1) := by decide +kernel
theorem dX5_tubeOf_132 : decode cX5_tubeOf 132 = .ok (.iadd, 1) := by decide +kernel
theorem dX5_tubeOf_133 : decode cX5_tubeOf 133 = .ok (.istore 6, 2) := by decide +kernel
theorem dX5_tubeOf_135 : decode cX5_tubeOf 135 = .ok (.aload_n 0, 1) := by decide +kernel
theorem dX5_tubeOf_136 : decode cX5_tubeOf 136 = .ok (.getfield 7, 3) := by decide +kernel
theorem dX5_tubeOf_139 : decode cX5_tubeOf 139 = .ok (.iload_n 3, 1) := by decide +kernel
theorem dX5_tubeOf_140 : decode cX5_tubeOf 140 = .ok (.iload 8, 2) := by decide +kernel
theorem dX5_tubeOf_142 : decode cX5_tubeOf 142 = .ok (.invokestatic 60, 3) := by decide +kernel
theorem dX5_tubeOf_145 : decode cX5_tubeOf 145 = .ok (.ifCond .eq 8, 3) := by decide +kernel
theorem dX5_tubeOf_148 : decode cX5_tubeOf 148 = .ok (.iload 8, 2) := by decide +kernel
theorem dX5_tubeOf_150 : decode cX5_tubeOf 150 = .ok (.goto 5, 3) := by decide +kernel
theorem dX5_tubeOf_153 : decode cX5_tubeOf 153 = .ok (.iload 7, 2) := by decide +kernel
theorem dX5_tubeOf_155 : decode cX5_tubeOf 155 = .ok (.istore 7, 2) := by decide +kernel
theorem dX5_tubeOf_157 : decode cX5_tubeOf 157 = .ok (.iinc 8 1, 3) := by decide +kernel
theorem dX5_tubeOf_160 : decode cX5_tubeOf 160 = .ok (.goto (-78), 3) := by decide +kernel
theorem dX5_tubeOf_163 : decode cX5_tubeOf 163 = .ok (.iload_n 2, 1) := by decide +kernel
theorem dX5_tubeOf_164 : decode cX5_tubeOf 164 = .ok (.tableswitch 50 0 4 #[36, 38, 41, 44, 47], 36) := by decide +kernel
theorem dX5_tubeOf_200 : decode cX5_tubeOf 200 = .ok (.iload_n 3, 1) := by decide +kernel
theorem dX5_tubeOf_201 : decode cX5_tubeOf 201 = .ok (.ireturn, 1) := by decide +kernel
theorem dX5_tubeOf_202 : decode cX5_tubeOf 202 = .ok (.iload 4, 2) := by decide +kernel
theorem dX5_tubeOf_204 : decode cX5_tubeOf 204 = .ok (.ireturn, 1) := by decide +kernel
theorem dX5_tubeOf_205 : decode cX5_tubeOf 205 = .ok (.iload 5, 2) := by decide +kernel
theorem dX5_tubeOf_207 : decode cX5_tubeOf 207 = .ok (.ireturn, 1) := by decide +kernel
theorem dX5_tubeOf_208 : decode cX5_tubeOf 208 = .ok (.iload 6, 2) := by decide +kernel
theorem dX5_tubeOf_210 : decode cX5_tubeOf 210 = .ok (.ireturn, 1) := by decide +kernel
theorem dX5_tubeOf_211 : decode cX5_tubeOf 211 = .ok (.iload 7, 2) := by decide +kernel
theorem dX5_tubeOf_213 : decode cX5_tubeOf 213 = .ok (.ireturn, 1) := by decide +kernel
theorem dX5_tubeOf_214 : decode cX5_tubeOf 214 = .ok (.aload_n 0, 1) := by decide +kernel
theorem dX5_tubeOf_215 : decode cX5_tubeOf 215 = .ok (.getfield 7, 3) := by decide +kernel
theorem dX5_tubeOf_218 : decode cX5_tubeOf 218 = .ok (.iload_n 3, 1) := by decide +kernel
theorem dX5_tubeOf_219 : decode cX5_tubeOf 219 = .ok (.invokestatic 82, 3) := by decide +kernel
theorem dX5_tubeOf_222 : decode cX5_tubeOf 222 = .ok (.iload 4, 2) := by decide +kernel
theorem dX5_tubeOf_224 : decode cX5_tubeOf 224 = .ok (.if_icmp .lt 7, 3) := by decide +kernel
theorem dX5_tubeOf_227 : decode cX5_tubeOf 227 = .ok (.iconst 1, 1) := by decide +kernel
theorem dX5_tubeOf_228 : decode cX5_tubeOf 228 = .ok (.goto 4, 3) := by decide +kernel
theorem dX5_tubeOf_231 : decode cX5_tubeOf 231 = .ok (.iconst 0, 1) := by decide +kernel
theorem dX5_tubeOf_232 : decode cX5_tubeOf 232 = .ok (.ireturn, 1) := by decide +kernel
set_option maxRecDepth 20000 in
theorem ggX5_pipeOf_X5_isPipe : GoodIn wsX5_pipeOf wsX5_isPipe := goodIn_r _ [6, 7, 8, 5, 9] (by decide +kernel) (by decide +kernel)
set_option maxRecDepth 20000 in
theorem gX5_pipeOf_X5_isPipe : GoodIn wsX5_pipeOf (va_wsS RX5 234 yX5_isPipe wsX5_isPipe) := goodIn_app (goodIn_of _ (by decide +kernel)) ggX5_pipeOf_X5_isPipe
set_option maxRecDepth 20000 in
theorem ggX5_pipeOf_X5_in : GoodIn wsX5_pipeOf wsX5_in := goodIn_r _ [9] (by decide +kernel) (by decide +kernel)
set_option maxRecDepth 20000 in
theorem gX5_pipeOf_X5_in : GoodIn wsX5_pipeOf (va_wsS RX5 42 yX5_in wsX5_in) := goodIn_app (goodIn_of _ (by decide +kernel)) ggX5_pipeOf_X5_in
set_option maxRecDepth 20000 in
theorem ggX5_pipeOf_X5_refused : GoodIn wsX5_pipeOf wsX5_refused := goodIn_r _ [13, 14, 15, 16, 17, 18, 19, 20, 21, 22, 23, 24, 25, 26, 27] (by decide +kernel) (by decide +kernel)
set_option maxRecDepth 20000 in
theorem gX5_pipeOf_X5_refused : GoodIn wsX5_pipeOf (wsV RX5 127 RX5 yX5_refused wsX5_refused) := goodIn_app (goodIn_of _ (by decide +kernel)) ggX5_pipeOf_X5_refused
theorem dX5_pipeOf_0 : decode cX5_pipeOf 0 = .ok (.aload_n 0, 1) := by decide +kernel
theorem dX5_pipeOf_1 : decode cX5_pipeOf 1 = .ok (.aload_n 0, 1) := by decide +kernel
theorem dX5_pipeOf_2 : decode cX5_pipeOf 2 = .ok (.getfield 7, 3) := by decide +kernel
theorem dX5_pipeOf_5 : decode cX5_pipeOf 5 = .ok (.iload_n 1, 1) := by decide +kernel
theorem dX5_pipeOf_6 : decode cX5_pipeOf 6 = .ok (.invokestatic 234, 3) := by decide +kernel
theorem dX5_pipeOf_9 : decode cX5_pipeOf 9 = .ok (.ifCond .ne 7, 3) := by decide +kernel
theorem dX5_pipeOf_12 : decode cX5_pipeOf 12 = .ok (.iconst 1, 1) := by decide +kernel
theorem dX5_pipeOf_13 : decode cX5_pipeOf 13 = .ok (.goto 20, 3) := by decide +kernel
theorem dX5_pipeOf_16 : decode cX5_pipeOf 16 = .ok (.iload_n 2, 1) := by decide +kernel
theorem dX5_pipeOf_17 : decode cX5_pipeOf 17 = .ok (.i2l, 1) := by decide +kernel
theorem dX5_pipeOf_18 : decode cX5_pipeOf 18 = .ok (.lconst 0, 1) := by decide +kernel
theorem dX5_pipeOf_19 : decode cX5_pipeOf 19 = .ok (.ldc2_w 237, 3) := by decide +kernel
theorem dX5_pipeOf_22 : decode cX5_pipeOf 22 = .ok (.invokestatic 42, 3) := by decide +kernel
theorem dX5_pipeOf_25 : decode cX5_pipeOf 25 = .ok (.ifCond .ne 7, 3) := by decide +kernel
theorem dX5_pipeOf_28 : decode cX5_pipeOf 28 = .ok (.iconst 2, 1) := by decide +kernel
theorem dX5_pipeOf_29 : decode cX5_pipeOf 29 = .ok (.goto 4, 3) := by decide +kernel
theorem dX5_pipeOf_32 : decode cX5_pipeOf 32 = .ok (.iconst 0, 1) := by decide +kernel
theorem dX5_pipeOf_33 : decode cX5_pipeOf 33 = .ok (.invokevirtual 127, 3) := by decide +kernel
theorem dX5_pipeOf_36 : decode cX5_pipeOf 36 = .ok (.ifCond .eq 5, 3) := by decide +kernel
theorem dX5_pipeOf_39 : decode cX5_pipeOf 39 = .ok (.iconst 0, 1) := by decide +kernel
theorem dX5_pipeOf_40 : decode cX5_pipeOf 40 = .ok (.ireturn, 1) := by decide +kernel
theorem dX5_pipeOf_41 : decode cX5_pipeOf 41 = .ok (.aload_n 0, 1) := by decide +kernel
theorem dX5_pipeOf_42 : decode cX5_pipeOf 42 = .ok (.getfield 7, 3) := by decide +kernel
theorem dX5_pipeOf_45 : decode cX5_pipeOf 45 = .ok (.sipush 156, 3) := by decide +kernel
theorem dX5_pipeOf_48 : decode cX5_pipeOf 48 = .ok (.iconst 5, 1) := by decide +kernel
theorem dX5_pipeOf_49 : decode cX5_pipeOf 49 = .ok (.iload_n 1, 1) := by decide +kernel
theorem dX5_pipeOf_50 : decode cX5_pipeOf 50 = .ok (.imul, 1) := by decide +kernel
theorem dX5_pipeOf_51 : decode cX5_pipeOf 51 = .ok (.iadd, 1) := by decide +kernel
theorem dX5_pipeOf_52 : decode cX5_pipeOf 52 = .ok (.iload_n 2, 1) := by decide +kernel
theorem dX5_pipeOf_53 : decode cX5_pipeOf 53 = .ok (.iadd, 1) := by decide +kernel
theorem dX5_pipeOf_54 : decode cX5_pipeOf 54 = .ok (.iaload, 1) := by decide +kernel
theorem dX5_pipeOf_55 : decode cX5_pipeOf 55 = .ok (.ireturn, 1) := by decide +kernel
set_option maxRecDepth 20000 in
theorem ggX5_layers_X5_isSite : GoodIn wsX5_layers wsX5_isSite := goodIn_r _ [5, 6, 7, 4, 8] (by decide +kernel) (by decide +kernel)
set_option maxRecDepth 20000 in
theorem gX5_layers_X5_isSite : GoodIn wsX5_layers (va_wsS RX5 166 yX5_isSite wsX5_isSite) := goodIn_app (goodIn_of _ (by decide +kernel)) ggX5_layers_X5_isSite
set_option maxRecDepth 20000 in
theorem ggX5_layers_X5_in : GoodIn wsX5_layers wsX5_in := goodIn_r _ [8] (by decide +kernel) (by decide +kernel)
set_option maxRecDepth 20000 in
theorem gX5_layers_X5_in : GoodIn wsX5_layers (va_wsS RX5 42 yX5_in wsX5_in) := goodIn_app (goodIn_of _ (by decide +kernel)) ggX5_layers_X5_in
set_option maxRecDepth 20000 in
theorem ggX5_layers_X5_refused : GoodIn wsX5_layers wsX5_refused := goodIn_r _ [12, 13, 32, 33, 34, 35, 36, 37, 38, 39, 40, 41, 42, 43, 44] (by decide +kernel) (by decide +kernel)
set_option maxRecDepth 20000 in
theorem gX5_layers_X5_refused : GoodIn wsX5_layers (wsV RX5 127 RX5 yX5_refused wsX5_refused) := goodIn_app (goodIn_of _ (by decide +kernel)) ggX5_layers_X5_refused
set_option maxRecDepth 20000 in
theorem ggX5_layers_X5_countLayers : GoodIn wsX5_layers wsX5_countLayers := goodIn_r _ [16, 17, 18, 4, 19, 20, 21, 22, 23, 24, 25] (by decide +kernel) (by decide +kernel)
set_option maxRecDepth 20000 in
theorem gX5_layers_X5_countLayers : GoodIn wsX5_layers (va_wsS RX5 112 yX5_countLayers wsX5_countLayers) := goodIn_app (goodIn_of _ (by decide +kernel)) ggX5_layers_X5_countLayers
set_option maxRecDepth 20000 in
theorem ggX5_layers_X5_joinedLayers : GoodIn wsX5_layers wsX5_joinedLayers := goodIn_r _ [28, 20, 21, 4, 22, 23, 24, 25, 29, 30, 31] (by decide +kernel) (by decide +kernel)
set_option maxRecDepth 20000 in
theorem gX5_layers_X5_joinedLayers : GoodIn wsX5_layers (va_wsS RX5 239 yX5_joinedLayers wsX5_joinedLayers) := goodIn_app (goodIn_of _ (by decide +kernel)) ggX5_layers_X5_joinedLayers
theorem dX5_layers_0 : decode cX5_layers 0 = .ok (.aload_n 0, 1) := by decide +kernel
theorem dX5_layers_1 : decode cX5_layers 1 = .ok (.aload_n 0, 1) := by decide +kernel
theorem dX5_layers_2 : decode cX5_layers 2 = .ok (.getfield 7, 3) := by decide +kernel
theorem dX5_layers_5 : decode cX5_layers 5 = .ok (.iload_n 1, 1) := by decide +kernel
theorem dX5_layers_6 : decode cX5_layers 6 = .ok (.invokestatic 166, 3) := by decide +kernel
theorem dX5_layers_9 : decode cX5_layers 9 = .ok (.ifCond .ne 7, 3) := by decide +kernel
theorem dX5_layers_12 : decode cX5_layers 12 = .ok (.iconst 1, 1) := by decide +kernel
theorem dX5_layers_13 : decode cX5_layers 13 = .ok (.goto 18, 3) := by decide +kernel
theorem dX5_layers_16 : decode cX5_layers 16 = .ok (.iload_n 2, 1) := by decide +kernel
theorem dX5_layers_17 : decode cX5_layers 17 = .ok (.i2l, 1) := by decide +kernel
theorem dX5_layers_18 : decode cX5_layers 18 = .ok (.lconst 0, 1) := by decide +kernel
theorem dX5_layers_19 : decode cX5_layers 19 = .ok (.lconst 1, 1) := by decide +kernel
theorem dX5_layers_20 : decode cX5_layers 20 = .ok (.invokestatic 42, 3) := by decide +kernel
theorem dX5_layers_23 : decode cX5_layers 23 = .ok (.ifCond .ne 7, 3) := by decide +kernel
theorem dX5_layers_26 : decode cX5_layers 26 = .ok (.iconst 2, 1) := by decide +kernel
theorem dX5_layers_27 : decode cX5_layers 27 = .ok (.goto 4, 3) := by decide +kernel
theorem dX5_layers_30 : decode cX5_layers 30 = .ok (.iconst 0, 1) := by decide +kernel
theorem dX5_layers_31 : decode cX5_layers 31 = .ok (.invokevirtual 127, 3) := by decide +kernel
theorem dX5_layers_34 : decode cX5_layers 34 = .ok (.ifCond .eq 5, 3) := by decide +kernel
theorem dX5_layers_37 : decode cX5_layers 37 = .ok (.iconst 0, 1) := by decide +kernel
theorem dX5_layers_38 : decode cX5_layers 38 = .ok (.ireturn, 1) := by decide +kernel
theorem dX5_layers_39 : decode cX5_layers 39 = .ok (.iload_n 2, 1) := by decide +kernel
theorem dX5_layers_40 : decode cX5_layers 40 = .ok (.ifCond .ne 14, 3) := by decide +kernel
theorem dX5_layers_43 : decode cX5_layers 43 = .ok (.aload_n 0, 1) := by decide +kernel
theorem dX5_layers_44 : decode cX5_layers 44 = .ok (.getfield 7, 3) := by decide +kernel
theorem dX5_layers_47 : decode cX5_layers 47 = .ok (.iload_n 1, 1) := by decide +kernel
theorem dX5_layers_48 : decode cX5_layers 48 = .ok (.invokestatic 112, 3) := by decide +kernel
theorem dX5_layers_51 : decode cX5_layers 51 = .ok (.goto 11, 3) := by decide +kernel
theorem dX5_layers_54 : decode cX5_layers 54 = .ok (.aload_n 0, 1) := by decide +kernel
theorem dX5_layers_55 : decode cX5_layers 55 = .ok (.getfield 7, 3) := by decide +kernel
theorem dX5_layers_58 : decode cX5_layers 58 = .ok (.iload_n 1, 1) := by decide +kernel
theorem dX5_layers_59 : decode cX5_layers 59 = .ok (.invokestatic 239, 3) := by decide +kernel
theorem dX5_layers_62 : decode cX5_layers 62 = .ok (.ireturn, 1) := by decide +kernel
set_option maxRecDepth 20000 in
theorem ggX5_oldest_X5_allCells : GoodIn wsX5_oldest wsX5_allCells := goodIn_r _ [5, 6, 7, 4, 8, 9, 10, 11, 12, 13, 14] (by decide +kernel) (by decide +kernel)
set_option maxRecDepth 20000 in
theorem gX5_oldest_X5_allCells : GoodIn wsX5_oldest (va_wsS RX5 95 yX5_allCells wsX5_allCells) := goodIn_app (goodIn_of _ (by decide +kernel)) ggX5_oldest_X5_allCells
set_option maxRecDepth 20000 in
theorem ggX5_oldest_X5_in : GoodIn wsX5_oldest wsX5_in := goodIn_r _ [17] (by decide +kernel) (by decide +kernel)
set_option maxRecDepth 20000 in
theorem gX5_oldest_X5_in : GoodIn wsX5_oldest (va_wsS RX5 42 yX5_in wsX5_in) := goodIn_app (goodIn_of _ (by decide +kernel)) ggX5_oldest_X5_in
set_option maxRecDepth 20000 in
theorem ggX5_oldest_X5_refused : GoodIn wsX5_oldest wsX5_refused := goodIn_r _ [21, 22, 23, 24, 25, 26, 27, 28, 29, 30, 31, 32, 33, 34, 35] (by decide +kernel) (by decide +kernel)
set_option maxRecDepth 20000 in
theorem gX5_oldest_X5_refused : GoodIn wsX5_oldest (wsV RX5 127 RX5 yX5_refused wsX5_refused) := goodIn_app (goodIn_of _ (by decide +kernel)) ggX5_oldest_X5_refused
set_option maxRecDepth 20000 in
theorem ggX5_oldest_X5_cell : GoodIn wsX5_oldest wsX5_cell := goodIn_r _ [14] (by decide +kernel) (by decide +kernel)
set_option maxRecDepth 20000 in
theorem gX5_oldest_X5_cell : GoodIn wsX5_oldest (va_wsS RX5 56 yX5_cell wsX5_cell) := goodIn_app (goodIn_of _ (by decide +kernel)) ggX5_oldest_X5_cell
theorem dX5_oldest_0 : decode cX5_oldest 0 = .ok (.aload_n 0, 1) := by decide +kernel
theorem dX5_oldest_1 : decode cX5_oldest 1 = .ok (.iload_n 1, 1) := by decide +kernel
theorem dX5_oldest_2 : decode cX5_oldest 2 = .ok (.i2l, 1) := by decide +kernel
theorem dX5_oldest_3 : decode cX5_oldest 3 = .ok (.lconst 0, 1) := by decide +kernel
theorem dX5_oldest_4 : decode cX5_oldest 4 = .ok (.aload_n 0, 1) := by decide +kernel
theorem dX5_oldest_5 : decode cX5_oldest 5 = .ok (.getfield 7, 3) := by decide +kernel
theorem dX5_oldest_8 : decode cX5_oldest 8 = .ok (.invokestatic 95, 3) := by decide +kernel
theorem dX5_oldest_11 : decode cX5_oldest 11 = .ok (.iconst 1, 1) := by decide +kernel
theorem dX5_oldest_12 : decode cX5_oldest 12 = .ok (.isub, 1) := by decide +kernel
theorem dX5_oldest_13 : decode cX5_oldest 13 = .ok (.i2l, 1) := by decide +kernel
theorem dX5_oldest_14 : decode cX5_oldest 14 = .ok (.invokestatic 42, 3) := by decide +kernel
theorem dX5_oldest_17 : decode cX5_oldest 17 = .ok (.ifCond .eq 7, 3) := by decide +kernel
theorem dX5_oldest_20 : decode cX5_oldest 20 = .ok (.iconst 0, 1) := by decide +kernel
theorem dX5_oldest_21 : decode cX5_oldest 21 = .ok (.goto 4, 3) := by decide +kernel
theorem dX5_oldest_24 : decode cX5_oldest 24 = .ok (.iconst 1, 1) := by decide +kernel
theorem dX5_oldest_25 : decode cX5_oldest 25 = .ok (.invokevirtual 127, 3) := by decide +kernel
theorem dX5_oldest_28 : decode cX5_oldest 28 = .ok (.ifCond .eq 5, 3) := by decide +kernel
theorem dX5_oldest_31 : decode cX5_oldest 31 = .ok (.iconst 0, 1) := by decide +kernel
theorem dX5_oldest_32 : decode cX5_oldest 32 = .ok (.ireturn, 1) := by decide +kernel
theorem dX5_oldest_33 : decode cX5_oldest 33 = .ok (.iload_n 1, 1) := by decide +kernel
theorem dX5_oldest_34 : decode cX5_oldest 34 = .ok (.istore_n 2, 1) := by decide +kernel
theorem dX5_oldest_35 : decode cX5_oldest 35 = .ok (.iconst 1, 1) := by decide +kernel
theorem dX5_oldest_36 : decode cX5_oldest 36 = .ok (.istore_n 3, 1) := by decide +kernel
theorem dX5_oldest_37 : decode cX5_oldest 37 = .ok (.iload_n 3, 1) := by decide +kernel
theorem dX5_oldest_38 : decode cX5_oldest 38 = .ok (.aload_n 0, 1) := by decide +kernel
theorem dX5_oldest_39 : decode cX5_oldest 39 = .ok (.getfield 7, 3) := by decide +kernel
theorem dX5_oldest_42 : decode cX5_oldest 42 = .ok (.sipush 199, 3) := by decide +kernel
theorem dX5_oldest_45 : decode cX5_oldest 45 = .ok (.iaload, 1) := by decide +kernel
theorem dX5_oldest_46 : decode cX5_oldest 46 = .ok (.if_icmp .gt 79, 3) := by decide +kernel
theorem dX5_oldest_49 : decode cX5_oldest 49 = .ok (.iconst 0, 1) := by decide +kernel
theorem dX5_oldest_50 : decode cX5_oldest 50 = .ok (.istore 4, 2) := by decide +kernel
theorem dX5_oldest_52 : decode cX5_oldest 52 = .ok (.iload 4, 2) := by decide +kernel
theorem dX5_oldest_54 : decode cX5_oldest 54 = .ok (.aload_n 0, 1) := by decide +kernel
theorem dX5_oldest_55 : decode cX5_oldest 55 = .ok (.getfield 7, 3) := by decide +kernel
theorem dX5_oldest_58 : decode cX5_oldest 58 = .ok (.sipush 196, 3) := by decide +kernel
theorem dX5_oldest_61 : decode cX5_oldest 61 = .ok (.iaload, 1) := by decide +kernel
theorem dX5_oldest_62 : decode cX5_oldest 62 = .ok (.if_icmp .ge 57, 3) := by decide +kernel
theorem dX5_oldest_65 : decode cX5_oldest 65 = .ok (.iconst 0, 1) := by decide +kernel
theorem dX5_oldest_66 : decode cX5_oldest 66 = .ok (.istore 5, 2) := by decide +kernel
theorem dX5_oldest_68 : decode cX5_oldest 68 = .ok (.iload 5, 2) := by decide +kernel
theorem dX5_oldest_70 : decode cX5_oldest 70 = .ok (.bipush 30, 2) := by decide +kernel
theorem dX5_oldest_72 : decode cX5_oldest 72 = .ok (.if_icmp .ge 41, 3) := by decide +kernel
theorem dX5_oldest_75 : decode cX5_oldest 75 = .ok (.aload_n 0, 1) := by decide +kernel
theorem dX5_oldest_76 : decode cX5_oldest 76 = .ok (.getfield 7, 3) := by decide +kernel
theorem dX5_oldest_79 : decode cX5_oldest 79 = .ok (.iload 4, 2) := by decide +kernel
theorem dX5_oldest_81 : decode cX5_oldest 81 = .ok (.iload 5, 2) := by decide +kernel
theorem dX5_oldest_83 : decode cX5_oldest 83 = .ok (.invokestatic 56, 3) := by decide +kernel
theorem dX5_oldest_86 : decode cX5_oldest 86 = .ok (.iaload, 1) := by decide +kernel
theorem dX5_oldest_87 : decode cX5_oldest 87 = .ok (.iload_n 3, 1) := by decide +kernel
theorem dX5_oldest_88 : decode cX5_oldest 88 = .ok (.if_icmp .ne 19, 3) := by decide +kernel
theorem dX5_oldest_91 : decode cX5_oldest 91 = .ok (.iload_n 2, 1) := by decide +kernel
theorem dX5_oldest_92 : decode cX5_oldest 92 = .ok (.ifCond .ne 12, 3) := by decide +kernel
theorem dX5_oldest_95 : decode cX5_oldest 95 = .ok (.bipush 100, 2) := by decide +kernel
theorem dX5_oldest_97 : decode cX5_oldest 97 = .ok (.iload 4, 2) := by decide +kernel
theorem dX5_oldest_99 : decode cX5_oldest 99 = .ok (.imul, 1) := by decide +kernel
theorem dX5_oldest_100 : decode cX5_oldest 100 = .ok (.iload 5, 2) := by decide +kernel
theorem dX5_oldest_102 : decode cX5_oldest 102 = .ok (.iadd, 1) := by decide +kernel
theorem dX5_oldest_103 : decode cX5_oldest 103 = .ok (.ireturn, 1) := by decide +kernel
theorem dX5_oldest_104 : decode cX5_oldest 104 = .ok (.iinc 2 (-1), 3) := by decide +kernel
theorem dX5_oldest_107 : decode cX5_oldest 107 = .ok (.iinc 5 1, 3) := by decide +kernel
theorem dX5_oldest_110 : decode cX5_oldest 110 = .ok (.goto (-42), 3) := by decide +kernel
theorem dX5_oldest_113 : decode cX5_oldest 113 = .ok (.iinc 4 1, 3) := by decide +kernel
theorem dX5_oldest_116 : decode cX5_oldest 116 = .ok (.goto (-64), 3) := by decide +kernel
theorem dX5_oldest_119 : decode cX5_oldest 119 = .ok (.iinc 3 1, 3) := by decide +kernel
theorem dX5_oldest_122 : decode cX5_oldest 122 = .ok (.goto (-85), 3) := by decide +kernel
theorem dX5_oldest_125 : decode cX5_oldest 125 = .ok (.iconst (-1), 1) := by decide +kernel
theorem dX5_oldest_126 : decode cX5_oldest 126 = .ok (.ireturn, 1) := by decide +kernel
set_option maxRecDepth 20000 in
theorem ggX5_site_X5_refused : GoodIn wsX5_site wsX5_refused := goodIn_r _ [6, 7, 17, 18, 19, 20, 21, 22, 23, 24, 25, 26, 27, 28, 29] (by decide +kernel) (by decide +kernel)
set_option maxRecDepth 20000 in
theorem gX5_site_X5_refused : GoodIn wsX5_site (wsV RX5 127 RX5 yX5_refused wsX5_refused) := goodIn_app (goodIn_of _ (by decide +kernel)) ggX5_site_X5_refused
set_option maxRecDepth 20000 in
theorem ggX5_site_X5_remember : GoodIn wsX5_site wsX5_remember := goodIn_r _ [11, 12, 13, 1, 17, 18, 19, 20, 21, 22, 23, 24, 25, 26, 27, 28, 29] (by decide +kernel) (by decide +kernel)
set_option maxRecDepth 20000 in
theorem gX5_site_X5_remember : GoodIn wsX5_site (wsV RX5 242 RX5 yX5_remember wsX5_remember) := goodIn_app (goodIn_of _ (by decide +kernel)) ggX5_site_X5_remember
set_option maxRecDepth 20000 in
theorem ggX5_site_X5_addSite : GoodIn wsX5_site wsX5_addSite := goodIn_r _ [16] (by decide +kernel) (by decide +kernel)
set_option maxRecDepth 20000 in
theorem gX5_site_X5_addSite : GoodIn wsX5_site (va_wsS RX5 182 yX5_addSite wsX5_addSite) := goodIn_app (goodIn_of _ (by decide +kernel)) ggX5_site_X5_addSite
theorem dX5_site_0 : decode cX5_site 0 = .ok (.aload_n 0, 1) := by decide +kernel
theorem dX5_site_1 : decode cX5_site 1 = .ok (.aload_n 0, 1) := by decide +kernel
theorem dX5_site_2 : decode cX5_site 2 = .ok (.getfield 7, 3) := by decide +kernel
theorem dX5_site_5 : decode cX5_site 5 = .ok (.sipush 196, 3) := by decide +kernel
theorem dX5_site_8 : decode cX5_site 8 = .ok (.iaload, 1) := by decide +kernel
theorem dX5_site_9 : decode cX5_site 9 = .ok (.iconst 4, 1) := by decide +kernel
theorem dX5_site_10 : decode cX5_site 10 = .ok (.if_icmp .ne 7, 3) := by decide +kernel
theorem dX5_site_13 : decode cX5_site 13 = .ok (.iconst 1, 1) := by decide +kernel
theorem dX5_site_14 : decode cX5_site 14 = .ok (.goto 4, 3) := by decide +kernel
theorem dX5_site_17 : decode cX5_site 17 = .ok (.iconst 0, 1) := by decide +kernel
theorem dX5_site_18 : decode cX5_site 18 = .ok (.invokevirtual 127, 3) := by decide +kernel
theorem dX5_site_21 : decode cX5_site 21 = .ok (.ifCond .eq 5, 3) := by decide +kernel
theorem dX5_site_24 : decode cX5_site 24 = .ok (.iconst 0, 1) := by decide +kernel
theorem dX5_site_25 : decode cX5_site 25 = .ok (.ireturn, 1) := by decide +kernel
theorem dX5_site_26 : decode cX5_site 26 = .ok (.aload_n 0, 1) := by decide +kernel
theorem dX5_site_27 : decode cX5_site 27 = .ok (.invokevirtual 242, 3) := by decide +kernel
theorem dX5_site_30 : decode cX5_site 30 = .ok (.aload_n 0, 1) := by decide +kernel
theorem dX5_site_31 : decode cX5_site 31 = .ok (.getfield 7, 3) := by decide +kernel
theorem dX5_site_34 : decode cX5_site 34 = .ok (.invokestatic 182, 3) := by decide +kernel
theorem dX5_site_37 : decode cX5_site 37 = .ok (.ireturn, 1) := by decide +kernel
set_option maxRecDepth 20000 in
theorem ggX5_tube_X5_isSite : GoodIn wsX5_tube wsX5_isSite := goodIn_r _ [6, 7, 8, 5, 9] (by decide +kernel) (by decide +kernel)
set_option maxRecDepth 20000 in
theorem gX5_tube_X5_isSite : GoodIn wsX5_tube (va_wsS RX5 166 yX5_isSite wsX5_isSite) := goodIn_app (goodIn_of _ (by decide +kernel)) ggX5_tube_X5_isSite
set_option maxRecDepth 20000 in
theorem ggX5_tube_X5_in : GoodIn wsX5_tube wsX5_in := goodIn_r _ [9] (by decide +kernel) (by decide +kernel)
set_option maxRecDepth 20000 in
theorem gX5_tube_X5_in : GoodIn wsX5_tube (va_wsS RX5 42 yX5_in wsX5_in) := goodIn_app (goodIn_of _ (by decide +kernel)) ggX5_tube_X5_in
set_option maxRecDepth 20000 in
theorem ggX5_tube_X5_refused : GoodIn wsX5_tube wsX5_refused := goodIn_r _ [13, 14, 24, 25, 26, 27, 28, 29, 30, 31, 32, 33, 34, 35, 36] (by decide +kernel) (by decide +kernel)
set_option maxRecDepth 20000 in
theorem gX5_tube_X5_refused : GoodIn wsX5_tube (wsV RX5 127 RX5 yX5_refused wsX5_refused) := goodIn_app (goodIn_of _ (by decide +kernel)) ggX5_tube_X5_refused
set_option maxRecDepth 20000 in
theorem ggX5_tube_X5_remember : GoodIn wsX5_tube wsX5_remember := goodIn_r _ [18, 19, 20, 1, 24, 25, 26, 27, 28, 29, 30, 31, 32, 33, 34, 35, 36] (by decide +kernel) (by decide +kernel)
set_option maxRecDepth 20000 in
theorem gX5_tube_X5_remember : GoodIn wsX5_tube (wsV RX5 242 RX5 yX5_remember wsX5_remember) := goodIn_app (goodIn_of _ (by decide +kernel)) ggX5_tube_X5_remember
set_option maxRecDepth 20000 in
theorem ggX5_tube_X5_addTube : GoodIn wsX5_tube wsX5_addTube := goodIn_r _ [23] (by decide +kernel) (by decide +kernel)
set_option maxRecDepth 20000 in
theorem gX5_tube_X5_addTube : GoodIn wsX5_tube (va_wsS RX5 169 yX5_addTube wsX5_addTube) := goodIn_app (goodIn_of _ (by decide +kernel)) ggX5_tube_X5_addTube
theorem dX5_tube_0 : decode cX5_tube 0 = .ok (.aload_n 0, 1) := by decide +kernel
theorem dX5_tube_1 : decode cX5_tube 1 = .ok (.aload_n 0, 1) := by decide +kernel
theorem dX5_tube_2 : decode cX5_tube 2 = .ok (.getfield 7, 3) := by decide +kernel
theorem dX5_tube_5 : decode cX5_tube 5 = .ok (.iload_n 1, 1) := by decide +kernel
theorem dX5_tube_6 : decode cX5_tube 6 = .ok (.invokestatic 166, 3) := by decide +kernel
theorem dX5_tube_9 : decode cX5_tube 9 = .ok (.ifCond .ne 7, 3) := by decide +kernel
theorem dX5_tube_12 : decode cX5_tube 12 = .ok (.iconst 1, 1) := by decide +kernel
theorem dX5_tube_13 : decode cX5_tube 13 = .ok (.goto 37, 3) := by decide +kernel
theorem dX5_tube_16 : decode cX5_tube 16 = .ok (.iload_n 2, 1) := by decide +kernel
theorem dX5_tube_17 : decode cX5_tube 17 = .ok (.i2l, 1) := by decide +kernel
theorem dX5_tube_18 : decode cX5_tube 18 = .ok (.lconst 1, 1) := by decide +kernel
theorem dX5_tube_19 : decode cX5_tube 19 = .ok (.ldc2_w 50, 3) := by decide +kernel
theorem dX5_tube_22 : decode cX5_tube 22 = .ok (.invokestatic 42, 3) := by decide +kernel
theorem dX5_tube_25 : decode cX5_tube 25 = .ok (.ifCond .ne 7, 3) := by decide +kernel
theorem dX5_tube_28 : decode cX5_tube 28 = .ok (.iconst 2, 1) := by decide +kernel
theorem dX5_tube_29 : decode cX5_tube 29 = .ok (.goto 21, 3) := by decide +kernel
theorem dX5_tube_32 : decode cX5_tube 32 = .ok (.aload_n 0, 1) := by decide +kernel
theorem dX5_tube_33 : decode cX5_tube 33 = .ok (.getfield 7, 3) := by decide +kernel
theorem dX5_tube_36 : decode cX5_tube 36 = .ok (.sipush 197, 3) := by decide +kernel
theorem dX5_tube_39 : decode cX5_tube 39 = .ok (.iaload, 1) := by decide +kernel
theorem dX5_tube_40 : decode cX5_tube 40 = .ok (.bipush 8, 2) := by decide +kernel
theorem dX5_tube_42 : decode cX5_tube 42 = .ok (.if_icmp .ne 7, 3) := by decide +kernel
theorem dX5_tube_45 : decode cX5_tube 45 = .ok (.iconst 3, 1) := by decide +kernel
theorem dX5_tube_46 : decode cX5_tube 46 = .ok (.goto 4, 3) := by decide +kernel
theorem dX5_tube_49 : decode cX5_tube 49 = .ok (.iconst 0, 1) := by decide +kernel
theorem dX5_tube_50 : decode cX5_tube 50 = .ok (.invokevirtual 127, 3) := by decide +kernel
theorem dX5_tube_53 : decode cX5_tube 53 = .ok (.ifCond .eq 5, 3) := by decide +kernel
theorem dX5_tube_56 : decode cX5_tube 56 = .ok (.iconst 0, 1) := by decide +kernel
theorem dX5_tube_57 : decode cX5_tube 57 = .ok (.ireturn, 1) := by decide +kernel
theorem dX5_tube_58 : decode cX5_tube 58 = .ok (.aload_n 0, 1) := by decide +kernel
theorem dX5_tube_59 : decode cX5_tube 59 = .ok (.invokevirtual 242, 3) := by decide +kernel
theorem dX5_tube_62 : decode cX5_tube 62 = .ok (.aload_n 0, 1) := by decide +kernel
theorem dX5_tube_63 : decode cX5_tube 63 = .ok (.getfield 7, 3) := by decide +kernel
theorem dX5_tube_66 : decode cX5_tube 66 = .ok (.iload_n 1, 1) := by decide +kernel
theorem dX5_tube_67 : decode cX5_tube 67 = .ok (.iload_n 2, 1) := by decide +kernel
theorem dX5_tube_68 : decode cX5_tube 68 = .ok (.invokestatic 169, 3) := by decide +kernel
theorem dX5_tube_71 : decode cX5_tube 71 = .ok (.ireturn, 1) := by decide +kernel
set_option maxRecDepth 20000 in
theorem ggX5_pipe_X5_isSite : GoodIn wsX5_pipe wsX5_isSite := goodIn_r _ [5, 6, 7, 4, 8] (by decide +kernel) (by decide +kernel)
set_option maxRecDepth 20000 in
theorem gX5_pipe_X5_isSite : GoodIn wsX5_pipe (va_wsS RX5 166 yX5_isSite wsX5_isSite) := goodIn_app (goodIn_of _ (by decide +kernel)) ggX5_pipe_X5_isSite
set_option maxRecDepth 20000 in
theorem ggX5_pipe_X5_isCell : GoodIn wsX5_pipe wsX5_isCell := goodIn_r _ [11, 12, 6, 7, 4, 8] (by decide +kernel) (by decide +kernel)
set_option maxRecDepth 20000 in
theorem gX5_pipe_X5_isCell : GoodIn wsX5_pipe (va_wsS RX5 218 yX5_isCell wsX5_isCell) := goodIn_app (goodIn_of _ (by decide +kernel)) ggX5_pipe_X5_isCell
set_option maxRecDepth 20000 in
theorem ggX5_pipe_X5_canLay : GoodIn wsX5_pipe wsX5_canLay := goodIn_r _ [15, 16, 17, 4, 18, 19, 20, 21] (by decide +kernel) (by decide +kernel)
set_option maxRecDepth 20000 in
theorem gX5_pipe_X5_canLay : GoodIn wsX5_pipe (va_wsS RX5 172 yX5_canLay wsX5_canLay) := goodIn_app (goodIn_of _ (by decide +kernel)) ggX5_pipe_X5_canLay
set_option maxRecDepth 20000 in
theorem ggX5_pipe_X5_refused : GoodIn wsX5_pipe wsX5_refused := goodIn_r _ [25, 26, 36, 37, 38, 39, 40, 41, 42, 43, 44, 45, 46, 47, 48] (by decide +kernel) (by decide +kernel)
set_option maxRecDepth 20000 in
theorem gX5_pipe_X5_refused : GoodIn wsX5_pipe (wsV RX5 127 RX5 yX5_refused wsX5_refused) := goodIn_app (goodIn_of _ (by decide +kernel)) ggX5_pipe_X5_refused
set_option maxRecDepth 20000 in
theorem ggX5_pipe_X5_remember : GoodIn wsX5_pipe wsX5_remember := goodIn_r _ [30, 31, 32, 1, 36, 37, 38, 39, 40, 41, 42, 43, 44, 45, 46, 47, 48] (by decide +kernel) (by decide +kernel)
set_option maxRecDepth 20000 in
theorem gX5_pipe_X5_remember : GoodIn wsX5_pipe (wsV RX5 242 RX5 yX5_remember wsX5_remember) := goodIn_app (goodIn_of _ (by decide +kernel)) ggX5_pipe_X5_remember
set_option maxRecDepth 20000 in
theorem ggX5_pipe_X5_addPipe : GoodIn wsX5_pipe wsX5_addPipe := goodIn_r _ [35] (by decide +kernel) (by decide +kernel)
set_option maxRecDepth 20000 in
theorem gX5_pipe_X5_addPipe : GoodIn wsX5_pipe (va_wsS RX5 175 yX5_addPipe wsX5_addPipe) := goodIn_app (goodIn_of _ (by decide +kernel)) ggX5_pipe_X5_addPipe
theorem dX5_pipe_0 : decode cX5_pipe 0 = .ok (.aload_n 0, 1) := by decide +kernel
theorem dX5_pipe_1 : decode cX5_pipe 1 = .ok (.getfield 7, 3) := by decide +kernel
theorem dX5_pipe_4 : decode cX5_pipe 4 = .ok (.iload_n 1, 1) := by decide +kernel
theorem dX5_pipe_5 : decode cX5_pipe 5 = .ok (.invokestatic 166, 3) := by decide +kernel
theorem dX5_pipe_8 : decode cX5_pipe 8 = .ok (.ifCond .eq 14, 3) := by decide +kernel
theorem dX5_pipe_11 : decode cX5_pipe 11 = .ok (.iload_n 2, 1) := by decide +kernel
theorem dX5_pipe_12 : decode cX5_pipe 12 = .ok (.invokestatic 218, 3) := by decide +kernel
theorem dX5_pipe_15 : decode cX5_pipe 15 = .ok (.ifCond .eq 7, 3) := by decide +kernel
theorem dX5_pipe_18 : decode cX5_pipe 18 = .ok (.iconst 1, 1) := by decide +kernel
theorem dX5_pipe_19 : decode cX5_pipe 19 = .ok (.goto 4, 3) := by decide +kernel
theorem dX5_pipe_22 : decode cX5_pipe 22 = .ok (.iconst 0, 1) := by decide +kernel
theorem dX5_pipe_23 : decode cX5_pipe 23 = .ok (.istore_n 3, 1) := by decide +kernel
theorem dX5_pipe_24 : decode cX5_pipe 24 = .ok (.aload_n 0, 1) := by decide +kernel
theorem dX5_pipe_25 : decode cX5_pipe 25 = .ok (.iload_n 3, 1) := by decide +kernel
theorem dX5_pipe_26 : decode cX5_pipe 26 = .ok (.ifCond .ne 7, 3) := by decide +kernel
theorem dX5_pipe_29 : decode cX5_pipe 29 = .ok (.iconst 1, 1) := by decide +kernel
theorem dX5_pipe_30 : decode cX5_pipe 30 = .ok (.goto 20, 3) := by decide +kernel
theorem dX5_pipe_33 : decode cX5_pipe 33 = .ok (.aload_n 0, 1) := by decide +kernel
theorem dX5_pipe_34 : decode cX5_pipe 34 = .ok (.getfield 7, 3) := by decide +kernel
theorem dX5_pipe_37 : decode cX5_pipe 37 = .ok (.iload_n 1, 1) := by decide +kernel
theorem dX5_pipe_38 : decode cX5_pipe 38 = .ok (.iload_n 2, 1) := by decide +kernel
theorem dX5_pipe_39 : decode cX5_pipe 39 = .ok (.invokestatic 172, 3) := by decide +kernel
theorem dX5_pipe_42 : decode cX5_pipe 42 = .ok (.ifCond .ne 7, 3) := by decide +kernel
theorem dX5_pipe_45 : decode cX5_pipe 45 = .ok (.iconst 2, 1) := by decide +kernel
theorem dX5_pipe_46 : decode cX5_pipe 46 = .ok (.goto 4, 3) := by decide +kernel
theorem dX5_pipe_49 : decode cX5_pipe 49 = .ok (.iconst 0, 1) := by decide +kernel
theorem dX5_pipe_50 : decode cX5_pipe 50 = .ok (.invokevirtual 127, 3) := by decide +kernel
theorem dX5_pipe_53 : decode cX5_pipe 53 = .ok (.ifCond .eq 5, 3) := by decide +kernel
theorem dX5_pipe_56 : decode cX5_pipe 56 = .ok (.iconst 0, 1) := by decide +kernel
theorem dX5_pipe_57 : decode cX5_pipe 57 = .ok (.ireturn, 1) := by decide +kernel
theorem dX5_pipe_58 : decode cX5_pipe 58 = .ok (.aload_n 0, 1) := by decide +kernel
theorem dX5_pipe_59 : decode cX5_pipe 59 = .ok (.invokevirtual 242, 3) := by decide +kernel
theorem dX5_pipe_62 : decode cX5_pipe 62 = .ok (.aload_n 0, 1) := by decide +kernel
theorem dX5_pipe_63 : decode cX5_pipe 63 = .ok (.getfield 7, 3) := by decide +kernel
theorem dX5_pipe_66 : decode cX5_pipe 66 = .ok (.iload_n 1, 1) := by decide +kernel
theorem dX5_pipe_67 : decode cX5_pipe 67 = .ok (.iload_n 2, 1) := by decide +kernel
theorem dX5_pipe_68 : decode cX5_pipe 68 = .ok (.invokestatic 175, 3) := by decide +kernel
theorem dX5_pipe_71 : decode cX5_pipe 71 = .ok (.ireturn, 1) := by decide +kernel
set_option maxRecDepth 20000 in
theorem ggX5_fence_X5_isSite : GoodIn wsX5_fence wsX5_isSite := goodIn_r _ [6, 7, 8, 5, 9] (by decide +kernel) (by decide +kernel)
set_option maxRecDepth 20000 in
theorem gX5_fence_X5_isSite : GoodIn wsX5_fence (va_wsS RX5 166 yX5_isSite wsX5_isSite) := goodIn_app (goodIn_of _ (by decide +kernel)) ggX5_fence_X5_isSite
set_option maxRecDepth 20000 in
theorem ggX5_fence_X5_in : GoodIn wsX5_fence wsX5_in := goodIn_r _ [9] (by decide +kernel) (by decide +kernel)
set_option maxRecDepth 20000 in
theorem gX5_fence_X5_in : GoodIn wsX5_fence (va_wsS RX5 42 yX5_in wsX5_in) := goodIn_app (goodIn_of _ (by decide +kernel)) ggX5_fence_X5_in
set_option maxRecDepth 20000 in
theorem ggX5_fence_X5_refused : GoodIn wsX5_fence wsX5_refused := goodIn_r _ [13, 14, 24, 25, 26, 27, 28, 29, 30, 31, 32, 33, 34, 35, 36] (by decide +kernel) (by decide +kernel)
set_option maxRecDepth 20000 in
theorem gX5_fence_X5_refused : GoodIn wsX5_fence (wsV RX5 127 RX5 yX5_refused wsX5_refused) := goodIn_app (goodIn_of _ (by decide +kernel)) ggX5_fence_X5_refused
set_option maxRecDepth 20000 in
theorem ggX5_fence_X5_remember : GoodIn wsX5_fence wsX5_remember := goodIn_r _ [18, 19, 20, 1, 24, 25, 26, 27, 28, 29, 30, 31, 32, 33, 34, 35, 36] (by decide +kernel) (by decide +kernel)
set_option maxRecDepth 20000 in
theorem gX5_fence_X5_remember : GoodIn wsX5_fence (wsV RX5 242 RX5 yX5_remember wsX5_remember) := goodIn_app (goodIn_of _ (by decide +kernel)) ggX5_fence_X5_remember
set_option maxRecDepth 20000 in
theorem ggX5_fence_X5_put : GoodIn wsX5_fence wsX5_put := goodIn_r _ [23] (by decide +kernel) (by decide +kernel)
set_option maxRecDepth 20000 in
theorem gX5_fence_X5_put : GoodIn wsX5_fence (va_wsS RX5 115 yX5_put wsX5_put) := goodIn_app (goodIn_of _ (by decide +kernel)) ggX5_fence_X5_put
theorem dX5_fence_0 : decode cX5_fence 0 = .ok (.aload_n 0, 1) := by decide +kernel
theorem dX5_fence_1 : decode cX5_fence 1 = .ok (.aload_n 0, 1) := by decide +kernel
theorem dX5_fence_2 : decode cX5_fence 2 = .ok (.getfield 7, 3) := by decide +kernel
theorem dX5_fence_5 : decode cX5_fence 5 = .ok (.iload_n 1, 1) := by decide +kernel
theorem dX5_fence_6 : decode cX5_fence 6 = .ok (.invokestatic 166, 3) := by decide +kernel
theorem dX5_fence_9 : decode cX5_fence 9 = .ok (.ifCond .ne 7, 3) := by decide +kernel
theorem dX5_fence_12 : decode cX5_fence 12 = .ok (.iconst 1, 1) := by decide +kernel
theorem dX5_fence_13 : decode cX5_fence 13 = .ok (.goto 20, 3) := by decide +kernel
theorem dX5_fence_16 : decode cX5_fence 16 = .ok (.iload_n 2, 1) := by decide +kernel
theorem dX5_fence_17 : decode cX5_fence 17 = .ok (.i2l, 1) := by decide +kernel
theorem dX5_fence_18 : decode cX5_fence 18 = .ok (.lconst 0, 1) := by decide +kernel
theorem dX5_fence_19 : decode cX5_fence 19 = .ok (.ldc2_w 245, 3) := by decide +kernel
theorem dX5_fence_22 : decode cX5_fence 22 = .ok (.invokestatic 42, 3) := by decide +kernel
theorem dX5_fence_25 : decode cX5_fence 25 = .ok (.ifCond .ne 7, 3) := by decide +kernel
theorem dX5_fence_28 : decode cX5_fence 28 = .ok (.iconst 2, 1) := by decide +kernel
theorem dX5_fence_29 : decode cX5_fence 29 = .ok (.goto 4, 3) := by decide +kernel
theorem dX5_fence_32 : decode cX5_fence 32 = .ok (.iconst 0, 1) := by decide +kernel
theorem dX5_fence_33 : decode cX5_fence 33 = .ok (.invokevirtual 127, 3) := by decide +kernel
theorem dX5_fence_36 : decode cX5_fence 36 = .ok (.ifCond .eq 5, 3) := by decide +kernel
theorem dX5_fence_39 : decode cX5_fence 39 = .ok (.iconst 0, 1) := by decide +kernel
theorem dX5_fence_40 : decode cX5_fence 40 = .ok (.ireturn, 1) := by decide +kernel
theorem dX5_fence_41 : decode cX5_fence 41 = .ok (.aload_n 0, 1) := by decide +kernel
theorem dX5_fence_42 : decode cX5_fence 42 = .ok (.invokevirtual 242, 3) := by decide +kernel
theorem dX5_fence_45 : decode cX5_fence 45 = .ok (.aload_n 0, 1) := by decide +kernel
theorem dX5_fence_46 : decode cX5_fence 46 = .ok (.getfield 7, 3) := by decide +kernel
theorem dX5_fence_49 : decode cX5_fence 49 = .ok (.bipush 35, 2) := by decide +kernel
theorem dX5_fence_51 : decode cX5_fence 51 = .ok (.iload_n 1, 1) := by decide +kernel
theorem dX5_fence_52 : decode cX5_fence 52 = .ok (.imul, 1) := by decide +kernel
theorem dX5_fence_53 : decode cX5_fence 53 = .ok (.iconst 1, 1) := by decide +kernel
theorem dX5_fence_54 : decode cX5_fence 54 = .ok (.iadd, 1) := by decide +kernel
theorem dX5_fence_55 : decode cX5_fence 55 = .ok (.iload_n 2, 1) := by decide +kernel
theorem dX5_fence_56 : decode cX5_fence 56 = .ok (.invokestatic 115, 3) := by decide +kernel
theorem dX5_fence_59 : decode cX5_fence 59 = .ok (.ireturn, 1) := by decide +kernel
set_option maxRecDepth 20000 in
theorem ggX5_shovel_X5_isSite : GoodIn wsX5_shovel wsX5_isSite := goodIn_r _ [5, 6, 7, 4, 8] (by decide +kernel) (by decide +kernel)
set_option maxRecDepth 20000 in
theorem gX5_shovel_X5_isSite : GoodIn wsX5_shovel (va_wsS RX5 166 yX5_isSite wsX5_isSite) := goodIn_app (goodIn_of _ (by decide +kernel)) ggX5_shovel_X5_isSite
set_option maxRecDepth 20000 in
theorem ggX5_shovel_X5_refused : GoodIn wsX5_shovel wsX5_refused := goodIn_r _ [12, 13, 23, 24, 25, 26, 27, 28, 29, 30, 31, 32, 33, 34, 35] (by decide +kernel) (by decide +kernel)
set_option maxRecDepth 20000 in
theorem gX5_shovel_X5_refused : GoodIn wsX5_shovel (wsV RX5 127 RX5 yX5_refused wsX5_refused) := goodIn_app (goodIn_of _ (by decide +kernel)) ggX5_shovel_X5_refused
set_option maxRecDepth 20000 in
theorem ggX5_shovel_X5_remember : GoodIn wsX5_shovel wsX5_remember := goodIn_r _ [17, 18, 19, 1, 23, 24, 25, 26, 27, 28, 29, 30, 31, 32, 33, 34, 35] (by decide +kernel) (by decide +kernel)
set_option maxRecDepth 20000 in
theorem gX5_shovel_X5_remember : GoodIn wsX5_shovel (wsV RX5 242 RX5 yX5_remember wsX5_remember) := goodIn_app (goodIn_of _ (by decide +kernel)) ggX5_shovel_X5_remember
set_option maxRecDepth 20000 in
theorem ggX5_shovel_X5_put : GoodIn wsX5_shovel wsX5_put := goodIn_r _ [22] (by decide +kernel) (by decide +kernel)
set_option maxRecDepth 20000 in
theorem gX5_shovel_X5_put : GoodIn wsX5_shovel (va_wsS RX5 115 yX5_put wsX5_put) := goodIn_app (goodIn_of _ (by decide +kernel)) ggX5_shovel_X5_put
theorem dX5_shovel_0 : decode cX5_shovel 0 = .ok (.aload_n 0, 1) := by decide +kernel
theorem dX5_shovel_1 : decode cX5_shovel 1 = .ok (.aload_n 0, 1) := by decide +kernel
theorem dX5_shovel_2 : decode cX5_shovel 2 = .ok (.getfield 7, 3) := by decide +kernel
theorem dX5_shovel_5 : decode cX5_shovel 5 = .ok (.iload_n 1, 1) := by decide +kernel
theorem dX5_shovel_6 : decode cX5_shovel 6 = .ok (.invokestatic 166, 3) := by decide +kernel
theorem dX5_shovel_9 : decode cX5_shovel 9 = .ok (.ifCond .eq 7, 3) := by decide +kernel
theorem dX5_shovel_12 : decode cX5_shovel 12 = .ok (.iconst 0, 1) := by decide +kernel
theorem dX5_shovel_13 : decode cX5_shovel 13 = .ok (.goto 4, 3) := by decide +kernel
theorem dX5_shovel_16 : decode cX5_shovel 16 = .ok (.iconst 1, 1) := by decide +kernel
theorem dX5_shovel_17 : decode cX5_shovel 17 = .ok (.invokevirtual 127, 3) := by decide +kernel
theorem dX5_shovel_20 : decode cX5_shovel 20 = .ok (.ifCond .eq 5, 3) := by decide +kernel
theorem dX5_shovel_23 : decode cX5_shovel 23 = .ok (.iconst 0, 1) := by decide +kernel
theorem dX5_shovel_24 : decode cX5_shovel 24 = .ok (.ireturn, 1) := by decide +kernel
theorem dX5_shovel_25 : decode cX5_shovel 25 = .ok (.aload_n 0, 1) := by decide +kernel
theorem dX5_shovel_26 : decode cX5_shovel 26 = .ok (.invokevirtual 242, 3) := by decide +kernel
theorem dX5_shovel_29 : decode cX5_shovel 29 = .ok (.aload_n 0, 1) := by decide +kernel
theorem dX5_shovel_30 : decode cX5_shovel 30 = .ok (.getfield 7, 3) := by decide +kernel
theorem dX5_shovel_33 : decode cX5_shovel 33 = .ok (.bipush 35, 2) := by decide +kernel
theorem dX5_shovel_35 : decode cX5_shovel 35 = .ok (.iload_n 1, 1) := by decide +kernel
theorem dX5_shovel_36 : decode cX5_shovel 36 = .ok (.imul, 1) := by decide +kernel
theorem dX5_shovel_37 : decode cX5_shovel 37 = .ok (.iconst 0, 1) := by decide +kernel
theorem dX5_shovel_38 : decode cX5_shovel 38 = .ok (.iadd, 1) := by decide +kernel
theorem dX5_shovel_39 : decode cX5_shovel 39 = .ok (.iconst 0, 1) := by decide +kernel
theorem dX5_shovel_40 : decode cX5_shovel 40 = .ok (.invokestatic 115, 3) := by decide +kernel
theorem dX5_shovel_43 : decode cX5_shovel 43 = .ok (.ireturn, 1) := by decide +kernel
set_option maxRecDepth 20000 in
theorem ggX5_days_X5_isWeather : GoodIn wsX5_days wsX5_isWeather := goodIn_r _ [5, 6, 7, 8, 9, 4, 10, 11, 12, 13, 14] (by decide +kernel) (by decide +kernel)
set_option maxRecDepth 20000 in
theorem gX5_days_X5_isWeather : GoodIn wsX5_days (va_wsS RX5 247 yX5_isWeather wsX5_isWeather) := goodIn_app (goodIn_of _ (by decide +kernel)) ggX5_days_X5_isWeather
set_option maxRecDepth 20000 in
theorem ggX5_days_X5_hasDays : GoodIn wsX5_days wsX5_hasDays := goodIn_r _ [17] (by decide +kernel) (by decide +kernel)
set_option maxRecDepth 20000 in
theorem gX5_days_X5_hasDays : GoodIn wsX5_days (va_wsS RX5 154 yX5_hasDays wsX5_hasDays) := goodIn_app (goodIn_of _ (by decide +kernel)) ggX5_days_X5_hasDays
set_option maxRecDepth 20000 in
theorem ggX5_days_X5_refused : GoodIn wsX5_days wsX5_refused := goodIn_r _ [21, 22, 68, 69, 70, 71, 72, 73, 74, 75, 76, 77, 78, 79, 80] (by decide +kernel) (by decide +kernel)
set_option maxRecDepth 20000 in
theorem gX5_days_X5_refused : GoodIn wsX5_days (wsV RX5 127 RX5 yX5_refused wsX5_refused) := goodIn_app (goodIn_of _ (by decide +kernel)) ggX5_days_X5_refused
set_option maxRecDepth 20000 in
theorem ggX5_days_X5_remember : GoodIn wsX5_days wsX5_remember := goodIn_r _ [26, 27, 28, 1, 68, 69, 70, 71, 72, 73, 74, 75, 76, 77, 78, 79, 80] (by decide +kernel) (by decide +kernel)
set_option maxRecDepth 20000 in
theorem gX5_days_X5_remember : GoodIn wsX5_days (wsV RX5 242 RX5 yX5_remember wsX5_remember) := goodIn_app (goodIn_of _ (by decide +kernel)) ggX5_days_X5_remember
set_option maxRecDepth 20000 in
theorem ggX5_days_X5_goDays : GoodIn wsX5_days wsX5_goDays := goodIn_r _ [31, 32, 33, 4, 34, 35, 36, 37, 38, 39, 40, 41, 42, 43, 44, 45, 46, 47, 48, 49, 50, 51, 52, 53, 54, 55, 56, 57, 58, 59, 60, 61, 62, 63, 64, 65, 66, 67] (by decide +kernel) (by decide +kernel)
set_option maxRecDepth 20000 in
theorem gX5_days_X5_goDays : GoodIn wsX5_days (va_wsS RX5 162 yX5_goDays wsX5_goDays) := goodIn_app (goodIn_of _ (by decide +kernel)) ggX5_days_X5_goDays
theorem dX5_days_0 : decode cX5_days 0 = .ok (.aload_n 0, 1) := by decide +kernel
theorem dX5_days_1 : decode cX5_days 1 = .ok (.iload_n 1, 1) := by decide +kernel
theorem dX5_days_2 : decode cX5_days 2 = .ok (.iload_n 2, 1) := by decide +kernel
theorem dX5_days_3 : decode cX5_days 3 = .ok (.iload_n 3, 1) := by decide +kernel
theorem dX5_days_4 : decode cX5_days 4 = .ok (.invokestatic 247, 3) := by decide +kernel
theorem dX5_days_7 : decode cX5_days 7 = .ok (.ifCond .ne 7, 3) := by decide +kernel
theorem dX5_days_10 : decode cX5_days 10 = .ok (.iconst 1, 1) := by decide +kernel
theorem dX5_days_11 : decode cX5_days 11 = .ok (.goto 19, 3) := by decide +kernel
theorem dX5_days_14 : decode cX5_days 14 = .ok (.aload_n 0, 1) := by decide +kernel
theorem dX5_days_15 : decode cX5_days 15 = .ok (.getfield 7, 3) := by decide +kernel
theorem dX5_days_18 : decode cX5_days 18 = .ok (.iload_n 3, 1) := by decide +kernel
theorem dX5_days_19 : decode cX5_days 19 = .ok (.invokestatic 154, 3) := by decide +kernel
theorem dX5_days_22 : decode cX5_days 22 = .ok (.ifCond .ne 7, 3) := by decide +kernel
theorem dX5_days_25 : decode cX5_days 25 = .ok (.iconst 2, 1) := by decide +kernel
theorem dX5_days_26 : decode cX5_days 26 = .ok (.goto 4, 3) := by decide +kernel
theorem dX5_days_29 : decode cX5_days 29 = .ok (.iconst 0, 1) := by decide +kernel
theorem dX5_days_30 : decode cX5_days 30 = .ok (.invokevirtual 127, 3) := by decide +kernel
theorem dX5_days_33 : decode cX5_days 33 = .ok (.ifCond .eq 5, 3) := by decide +kernel
theorem dX5_days_36 : decode cX5_days 36 = .ok (.iconst 0, 1) := by decide +kernel
theorem dX5_days_37 : decode cX5_days 37 = .ok (.ireturn, 1) := by decide +kernel
theorem dX5_days_38 : decode cX5_days 38 = .ok (.aload_n 0, 1) := by decide +kernel
theorem dX5_days_39 : decode cX5_days 39 = .ok (.invokevirtual 242, 3) := by decide +kernel
theorem dX5_days_42 : decode cX5_days 42 = .ok (.aload_n 0, 1) := by decide +kernel
theorem dX5_days_43 : decode cX5_days 43 = .ok (.getfield 7, 3) := by decide +kernel
theorem dX5_days_46 : decode cX5_days 46 = .ok (.iload_n 1, 1) := by decide +kernel
theorem dX5_days_47 : decode cX5_days 47 = .ok (.iload_n 2, 1) := by decide +kernel
theorem dX5_days_48 : decode cX5_days 48 = .ok (.iload_n 3, 1) := by decide +kernel
theorem dX5_days_49 : decode cX5_days 49 = .ok (.invokestatic 162, 3) := by decide +kernel
theorem dX5_days_52 : decode cX5_days 52 = .ok (.ireturn, 1) := by decide +kernel
set_option maxRecDepth 20000 in
theorem ggX5_winter_X5_remember : GoodIn wsX5_winter wsX5_remember := goodIn_r _ [7, 8, 9, 2, 16, 17, 18, 19, 20, 21, 22, 23, 24, 25, 26, 27, 28] (by decide +kernel) (by decide +kernel)
set_option maxRecDepth 20000 in
theorem gX5_winter_X5_remember : GoodIn wsX5_winter (wsV RX5 242 RX5 yX5_remember wsX5_remember) := goodIn_app (goodIn_of _ (by decide +kernel)) ggX5_winter_X5_remember
set_option maxRecDepth 20000 in
theorem ggX5_winter_X5_beginWinter : GoodIn wsX5_winter wsX5_beginWinter := goodIn_r _ [12, 13, 14, 6, 15] (by decide +kernel) (by decide +kernel)
set_option maxRecDepth 20000 in
theorem gX5_winter_X5_beginWinter : GoodIn wsX5_winter (va_wsS RX5 191 yX5_beginWinter wsX5_beginWinter) := goodIn_app (goodIn_of _ (by decide +kernel)) ggX5_winter_X5_beginWinter
theorem dX5_winter_0 : decode cX5_winter 0 = .ok (.aload_n 0, 1) := by decide +kernel
theorem dX5_winter_1 : decode cX5_winter 1 = .ok (.iconst 0, 1) := by decide +kernel
theorem dX5_winter_2 : decode cX5_winter 2 = .ok (.putfield 36, 3) := by decide +kernel
theorem dX5_winter_5 : decode cX5_winter 5 = .ok (.aload_n 0, 1) := by decide +kernel
theorem dX5_winter_6 : decode cX5_winter 6 = .ok (.invokevirtual 242, 3) := by decide +kernel
theorem dX5_winter_9 : decode cX5_winter 9 = .ok (.aload_n 0, 1) := by decide +kernel
theorem dX5_winter_10 : decode cX5_winter 10 = .ok (.getfield 7, 3) := by decide +kernel
theorem dX5_winter_13 : decode cX5_winter 13 = .ok (.invokestatic 191, 3) := by decide +kernel
theorem dX5_winter_16 : decode cX5_winter 16 = .ok (.ireturn, 1) := by decide +kernel
set_option maxRecDepth 20000 in
theorem ggX5_set_X5_isSetting : GoodIn wsX5_set wsX5_isSetting := goodIn_r _ [5, 6, 7, 8, 9, 10, 4, 11] (by decide +kernel) (by decide +kernel)
set_option maxRecDepth 20000 in
theorem gX5_set_X5_isSetting : GoodIn wsX5_set (va_wsS RX5 178 yX5_isSetting wsX5_isSetting) := goodIn_app (goodIn_of _ (by decide +kernel)) ggX5_set_X5_isSetting
set_option maxRecDepth 20000 in
theorem ggX5_set_X5_refused : GoodIn wsX5_set wsX5_refused := goodIn_r _ [15, 16, 26, 27, 28, 29, 30, 31, 32, 33, 34, 35, 36, 37, 38] (by decide +kernel) (by decide +kernel)
set_option maxRecDepth 20000 in
theorem gX5_set_X5_refused : GoodIn wsX5_set (wsV RX5 127 RX5 yX5_refused wsX5_refused) := goodIn_app (goodIn_of _ (by decide +kernel)) ggX5_set_X5_refused
set_option maxRecDepth 20000 in
theorem ggX5_set_X5_remember : GoodIn wsX5_set wsX5_remember := goodIn_r _ [20, 21, 22, 1, 26, 27, 28, 29, 30, 31, 32, 33, 34, 35, 36, 37, 38] (by decide +kernel) (by decide +kernel)
set_option maxRecDepth 20000 in
theorem gX5_set_X5_remember : GoodIn wsX5_set (wsV RX5 242 RX5 yX5_remember wsX5_remember) := goodIn_app (goodIn_of _ (by decide +kernel)) ggX5_set_X5_remember
set_option maxRecDepth 20000 in
theorem ggX5_set_X5_put : GoodIn wsX5_set wsX5_put := goodIn_r _ [25] (by decide +kernel) (by decide +kernel)
set_option maxRecDepth 20000 in
theorem gX5_set_X5_put : GoodIn wsX5_set (va_wsS RX5 115 yX5_put wsX5_put) := goodIn_app (goodIn_of _ (by decide +kernel)) ggX5_set_X5_put
theorem dX5_set_0 : decode cX5_set 0 = .ok (.aload_n 0, 1) := by decide +kernel
theorem dX5_set_1 : decode cX5_set 1 = .ok (.iload_n 1, 1) := by decide +kernel
theorem dX5_set_2 : decode cX5_set 2 = .ok (.iload_n 2, 1) := by decide +kernel
theorem dX5_set_3 : decode cX5_set 3 = .ok (.invokestatic 178, 3) := by decide +kernel
theorem dX5_set_6 : decode cX5_set 6 = .ok (.ifCond .eq 7, 3) := by decide +kernel
theorem dX5_set_9 : decode cX5_set 9 = .ok (.iconst 0, 1) := by decide +kernel
theorem dX5_set_10 : decode cX5_set 10 = .ok (.goto 4, 3) := by decide +kernel
theorem dX5_set_13 : decode cX5_set 13 = .ok (.iconst 1, 1) := by decide +kernel
theorem dX5_set_14 : decode cX5_set 14 = .ok (.invokevirtual 127, 3) := by decide +kernel
theorem dX5_set_17 : decode cX5_set 17 = .ok (.ifCond .eq 5, 3) := by decide +kernel
theorem dX5_set_20 : decode cX5_set 20 = .ok (.iconst 0, 1) := by decide +kernel
theorem dX5_set_21 : decode cX5_set 21 = .ok (.ireturn, 1) := by decide +kernel
theorem dX5_set_22 : decode cX5_set 22 = .ok (.aload_n 0, 1) := by decide +kernel
theorem dX5_set_23 : decode cX5_set 23 = .ok (.invokevirtual 242, 3) := by decide +kernel
theorem dX5_set_26 : decode cX5_set 26 = .ok (.aload_n 0, 1) := by decide +kernel
theorem dX5_set_27 : decode cX5_set 27 = .ok (.getfield 7, 3) := by decide +kernel
theorem dX5_set_30 : decode cX5_set 30 = .ok (.sipush 202, 3) := by decide +kernel
theorem dX5_set_33 : decode cX5_set 33 = .ok (.iload_n 1, 1) := by decide +kernel
theorem dX5_set_34 : decode cX5_set 34 = .ok (.iadd, 1) := by decide +kernel
theorem dX5_set_35 : decode cX5_set 35 = .ok (.iload_n 2, 1) := by decide +kernel
theorem dX5_set_36 : decode cX5_set 36 = .ok (.invokestatic 115, 3) := by decide +kernel
theorem dX5_set_39 : decode cX5_set 39 = .ok (.ireturn, 1) := by decide +kernel
set_option maxRecDepth 20000 in
theorem ggX5_undo_X5_refused : GoodIn wsX5_undo wsX5_refused := goodIn_r _ [8, 9, 10, 11, 12, 13, 14, 15, 16, 17, 18, 19, 20, 21, 22] (by decide +kernel) (by decide +kernel)
set_option maxRecDepth 20000 in
theorem gX5_undo_X5_refused : GoodIn wsX5_undo (wsV RX5 127 RX5 yX5_refused wsX5_refused) := goodIn_app (goodIn_of _ (by decide +kernel)) ggX5_undo_X5_refused
theorem dX5_undo_0 : decode cX5_undo 0 = .ok (.aload_n 0, 1) := by decide +kernel
theorem dX5_undo_1 : decode cX5_undo 1 = .ok (.aload_n 0, 1) := by decide +kernel
theorem dX5_undo_2 : decode cX5_undo 2 = .ok (.getfield 119, 3) := by decide +kernel
theorem dX5_undo_5 : decode cX5_undo 5 = .ok (.ifCond .ne 7, 3) := by decide +kernel
theorem dX5_undo_8 : decode cX5_undo 8 = .ok (.iconst 1, 1) := by decide +kernel
theorem dX5_undo_9 : decode cX5_undo 9 = .ok (.goto 4, 3) := by decide +kernel
theorem dX5_undo_12 : decode cX5_undo 12 = .ok (.iconst 0, 1) := by decide +kernel
theorem dX5_undo_13 : decode cX5_undo 13 = .ok (.invokevirtual 127, 3) := by decide +kernel
theorem dX5_undo_16 : decode cX5_undo 16 = .ok (.ifCond .eq 5, 3) := by decide +kernel
theorem dX5_undo_19 : decode cX5_undo 19 = .ok (.iconst 0, 1) := by decide +kernel
theorem dX5_undo_20 : decode cX5_undo 20 = .ok (.ireturn, 1) := by decide +kernel
theorem dX5_undo_21 : decode cX5_undo 21 = .ok (.aload_n 0, 1) := by decide +kernel
theorem dX5_undo_22 : decode cX5_undo 22 = .ok (.dup, 1) := by decide +kernel
theorem dX5_undo_23 : decode cX5_undo 23 = .ok (.getfield 119, 3) := by decide +kernel
theorem dX5_undo_26 : decode cX5_undo 26 = .ok (.iconst 1, 1) := by decide +kernel
theorem dX5_undo_27 : decode cX5_undo 27 = .ok (.isub, 1) := by decide +kernel
theorem dX5_undo_28 : decode cX5_undo 28 = .ok (.putfield 119, 3) := by decide +kernel
theorem dX5_undo_31 : decode cX5_undo 31 = .ok (.iconst 0, 1) := by decide +kernel
theorem dX5_undo_32 : decode cX5_undo 32 = .ok (.istore_n 1, 1) := by decide +kernel
theorem dX5_undo_33 : decode cX5_undo 33 = .ok (.iload_n 1, 1) := by decide +kernel
theorem dX5_undo_34 : decode cX5_undo 34 = .ok (.sipush 205, 3) := by decide +kernel
theorem dX5_undo_37 : decode cX5_undo 37 = .ok (.if_icmp .ge 30, 3) := by decide +kernel
theorem dX5_undo_40 : decode cX5_undo 40 = .ok (.aload_n 0, 1) := by decide +kernel
theorem dX5_undo_41 : decode cX5_undo 41 = .ok (.getfield 7, 3) := by decide +kernel
theorem dX5_undo_44 : decode cX5_undo 44 = .ok (.iload_n 1, 1) := by decide +kernel
theorem dX5_undo_45 : decode cX5_undo 45 = .ok (.aload_n 0, 1) := by decide +kernel
theorem dX5_undo_46 : decode cX5_undo 46 = .ok (.getfield 19, 3) := by decide +kernel
theorem dX5_undo_49 : decode cX5_undo 49 = .ok (.sipush 205, 3) := by decide +kernel
theorem dX5_undo_52 : decode cX5_undo 52 = .ok (.aload_n 0, 1) := by decide +kernel
theorem dX5_undo_53 : decode cX5_undo 53 = .ok (.getfield 119, 3) := by decide +kernel
theorem dX5_undo_56 : decode cX5_undo 56 = .ok (.imul, 1) := by decide +kernel
theorem dX5_undo_57 : decode cX5_undo 57 = .ok (.iload_n 1, 1) := by decide +kernel
theorem dX5_undo_58 : decode cX5_undo 58 = .ok (.iadd, 1) := by decide +kernel
theorem dX5_undo_59 : decode cX5_undo 59 = .ok (.iaload, 1) := by decide +kernel
theorem dX5_undo_60 : decode cX5_undo 60 = .ok (.iastore, 1) := by decide +kernel
theorem dX5_undo_61 : decode cX5_undo 61 = .ok (.iinc 1 1, 3) := by decide +kernel
theorem dX5_undo_64 : decode cX5_undo 64 = .ok (.goto (-31), 3) := by decide +kernel
theorem dX5_undo_67 : decode cX5_undo 67 = .ok (.aload_n 0, 1) := by decide +kernel
theorem dX5_undo_68 : decode cX5_undo 68 = .ok (.getfield 119, 3) := by decide +kernel
theorem dX5_undo_71 : decode cX5_undo 71 = .ok (.ireturn, 1) := by decide +kernel
set_option maxRecDepth 20000 in
theorem ggX5_goneIn_X5_isSite : GoodIn wsX5_goneIn wsX5_isSite := goodIn_r _ [7, 8, 9, 6, 10] (by decide +kernel) (by decide +kernel)
set_option maxRecDepth 20000 in
theorem gX5_goneIn_X5_isSite : GoodIn wsX5_goneIn (va_wsS RX5 166 yX5_isSite wsX5_isSite) := goodIn_app (goodIn_of _ (by decide +kernel)) ggX5_goneIn_X5_isSite
set_option maxRecDepth 20000 in
theorem ggX5_goneIn_X5_in : GoodIn wsX5_goneIn wsX5_in := goodIn_r _ [10] (by decide +kernel) (by decide +kernel)
set_option maxRecDepth 20000 in
theorem gX5_goneIn_X5_in : GoodIn wsX5_goneIn (va_wsS RX5 42 yX5_in wsX5_in) := goodIn_app (goodIn_of _ (by decide +kernel)) ggX5_goneIn_X5_in
set_option maxRecDepth 20000 in
theorem ggX5_goneIn_X5_refused : GoodIn wsX5_goneIn wsX5_refused := goodIn_r _ [14, 15, 52, 53, 54, 55, 56, 57, 58, 59, 60, 61, 62, 63, 64] (by decide +kernel) (by decide +kernel)
set_option maxRecDepth 20000 in
theorem gX5_goneIn_X5_refused : GoodIn wsX5_goneIn (wsV RX5 127 RX5 yX5_refused wsX5_refused) := goodIn_app (goodIn_of _ (by decide +kernel)) ggX5_goneIn_X5_refused
set_option maxRecDepth 20000 in
theorem ggX5_goneIn_X5_copy : GoodIn wsX5_goneIn wsX5_copy := goodIn_r _ [18] (by decide +kernel) (by decide +kernel)
set_option maxRecDepth 20000 in
theorem gX5_goneIn_X5_copy : GoodIn wsX5_goneIn (va_wsS RX5 204 yX5_copy wsX5_copy) := goodIn_app (goodIn_of _ (by decide +kernel)) ggX5_goneIn_X5_copy
set_option maxRecDepth 20000 in
theorem ggX5_goneIn_X5_cells : GoodIn wsX5_goneIn wsX5_cells := goodIn_r _ [21, 22, 23, 6, 24, 25, 26, 27] (by decide +kernel) (by decide +kernel)
set_option maxRecDepth 20000 in
theorem gX5_goneIn_X5_cells : GoodIn wsX5_goneIn (va_wsS RX5 89 yX5_cells wsX5_cells) := goodIn_app (goodIn_of _ (by decide +kernel)) ggX5_goneIn_X5_cells
set_option maxRecDepth 20000 in
theorem ggX5_goneIn_X5_day : GoodIn wsX5_goneIn wsX5_day := goodIn_r _ [30, 31, 32, 6, 33, 34, 35, 36, 37, 38, 39, 40, 41, 42, 22, 23, 24, 25, 26, 27, 43, 44, 45, 46, 47, 48, 49, 50, 51] (by decide +kernel) (by decide +kernel)
set_option maxRecDepth 20000 in
theorem gX5_goneIn_X5_day : GoodIn wsX5_goneIn (va_wsS RX5 92 yX5_day wsX5_day) := goodIn_app (goodIn_of _ (by decide +kernel)) ggX5_goneIn_X5_day
theorem dX5_goneIn_0 : decode cX5_goneIn 0 = .ok (.aload_n 0, 1) := by decide +kernel
theorem dX5_goneIn_1 : decode cX5_goneIn 1 = .ok (.aload_n 0, 1) := by decide +kernel
theorem dX5_goneIn_2 : decode cX5_goneIn 2 = .ok (.getfield 7, 3) := by decide +kernel
theorem dX5_goneIn_5 : decode cX5_goneIn 5 = .ok (.iload_n 1, 1) := by decide +kernel
theorem dX5_goneIn_6 : decode cX5_goneIn 6 = .ok (.invokestatic 166, 3) := by decide +kernel
theorem dX5_goneIn_9 : decode cX5_goneIn 9 = .ok (.ifCond .ne 7, 3) := by decide +kernel
theorem dX5_goneIn_12 : decode cX5_goneIn 12 = .ok (.iconst 1, 1) := by decide +kernel
theorem dX5_goneIn_13 : decode cX5_goneIn 13 = .ok (.goto 20, 3) := by decide +kernel
theorem dX5_goneIn_16 : decode cX5_goneIn 16 = .ok (.iload_n 2, 1) := by decide +kernel
theorem dX5_goneIn_17 : decode cX5_goneIn 17 = .ok (.i2l, 1) := by decide +kernel
theorem dX5_goneIn_18 : decode cX5_goneIn 18 = .ok (.lconst 1, 1) := by decide +kernel
theorem dX5_goneIn_19 : decode cX5_goneIn 19 = .ok (.ldc2_w 50, 3) := by decide +kernel
theorem dX5_goneIn_22 : decode cX5_goneIn 22 = .ok (.invokestatic 42, 3) := by decide +kernel
theorem dX5_goneIn_25 : decode cX5_goneIn 25 = .ok (.ifCond .ne 7, 3) := by decide +kernel
theorem dX5_goneIn_28 : decode cX5_goneIn 28 = .ok (.iconst 2, 1) := by decide +kernel
theorem dX5_goneIn_29 : decode cX5_goneIn 29 = .ok (.goto 4, 3) := by decide +kernel
theorem dX5_goneIn_32 : decode cX5_goneIn 32 = .ok (.iconst 0, 1) := by decide +kernel
theorem dX5_goneIn_33 : decode cX5_goneIn 33 = .ok (.invokevirtual 127, 3) := by decide +kernel
theorem dX5_goneIn_36 : decode cX5_goneIn 36 = .ok (.ifCond .eq 5, 3) := by decide +kernel
theorem dX5_goneIn_39 : decode cX5_goneIn 39 = .ok (.iconst 0, 1) := by decide +kernel
theorem dX5_goneIn_40 : decode cX5_goneIn 40 = .ok (.ireturn, 1) := by decide +kernel
theorem dX5_goneIn_41 : decode cX5_goneIn 41 = .ok (.aload_n 0, 1) := by decide +kernel
theorem dX5_goneIn_42 : decode cX5_goneIn 42 = .ok (.getfield 7, 3) := by decide +kernel
theorem dX5_goneIn_45 : decode cX5_goneIn 45 = .ok (.aload_n 0, 1) := by decide +kernel
theorem dX5_goneIn_46 : decode cX5_goneIn 46 = .ok (.getfield 13, 3) := by decide +kernel
theorem dX5_goneIn_49 : decode cX5_goneIn 49 = .ok (.invokestatic 204, 3) := by decide +kernel
theorem dX5_goneIn_52 : decode cX5_goneIn 52 = .ok (.iconst 0, 1) := by decide +kernel
theorem dX5_goneIn_53 : decode cX5_goneIn 53 = .ok (.istore_n 3, 1) := by decide +kernel
theorem dX5_goneIn_54 : decode cX5_goneIn 54 = .ok (.iload_n 3, 1) := by decide +kernel
theorem dX5_goneIn_55 : decode cX5_goneIn 55 = .ok (.sipush 400, 3) := by decide +kernel
theorem dX5_goneIn_58 : decode cX5_goneIn 58 = .ok (.if_icmp .gt 31, 3) := by decide +kernel
theorem dX5_goneIn_61 : decode cX5_goneIn 61 = .ok (.aload_n 0, 1) := by decide +kernel
theorem dX5_goneIn_62 : decode cX5_goneIn 62 = .ok (.getfield 13, 3) := by decide +kernel
theorem dX5_goneIn_65 : decode cX5_goneIn 65 = .ok (.iload_n 1, 1) := by decide +kernel
theorem dX5_goneIn_66 : decode cX5_goneIn 66 = .ok (.invokestatic 89, 3) := by decide +kernel
theorem dX5_goneIn_69 : decode cX5_goneIn 69 = .ok (.ifCond .ne 5, 3) := by decide +kernel
theorem dX5_goneIn_72 : decode cX5_goneIn 72 = .ok (.iload_n 3, 1) := by decide +kernel
theorem dX5_goneIn_73 : decode cX5_goneIn 73 = .ok (.ireturn, 1) := by decide +kernel
theorem dX5_goneIn_74 : decode cX5_goneIn 74 = .ok (.aload_n 0, 1) := by decide +kernel
theorem dX5_goneIn_75 : decode cX5_goneIn 75 = .ok (.getfield 13, 3) := by decide +kernel
theorem dX5_goneIn_78 : decode cX5_goneIn 78 = .ok (.iload_n 2, 1) := by decide +kernel
theorem dX5_goneIn_79 : decode cX5_goneIn 79 = .ok (.iconst 0, 1) := by decide +kernel
theorem dX5_goneIn_80 : decode cX5_goneIn 80 = .ok (.invokestatic 92, 3) := by decide +kernel
theorem dX5_goneIn_83 : decode cX5_goneIn 83 = .ok (.iinc 3 1, 3) := by decide +kernel
theorem dX5_goneIn_86 : decode cX5_goneIn 86 = .ok (.goto (-32), 3) := by decide +kernel
theorem dX5_goneIn_89 : decode cX5_goneIn 89 = .ok (.iconst (-1), 1) := by decide +kernel
theorem dX5_goneIn_90 : decode cX5_goneIn 90 = .ok (.ireturn, 1) := by decide +kernel
set_option maxRecDepth 20000 in
theorem ggX5_reachedIn_X5_isSite : GoodIn wsX5_reachedIn wsX5_isSite := goodIn_r _ [8, 9, 10, 7, 11] (by decide +kernel) (by decide +kernel)
set_option maxRecDepth 20000 in
theorem gX5_reachedIn_X5_isSite : GoodIn wsX5_reachedIn (va_wsS RX5 166 yX5_isSite wsX5_isSite) := goodIn_app (goodIn_of _ (by decide +kernel)) ggX5_reachedIn_X5_isSite
set_option maxRecDepth 20000 in
theorem ggX5_reachedIn_X5_isCell : GoodIn wsX5_reachedIn wsX5_isCell := goodIn_r _ [14, 15, 9, 10, 7, 11] (by decide +kernel) (by decide +kernel)
set_option maxRecDepth 20000 in
theorem gX5_reachedIn_X5_isCell : GoodIn wsX5_reachedIn (va_wsS RX5 218 yX5_isCell wsX5_isCell) := goodIn_app (goodIn_of _ (by decide +kernel)) ggX5_reachedIn_X5_isCell
set_option maxRecDepth 20000 in
theorem ggX5_reachedIn_X5_in : GoodIn wsX5_reachedIn wsX5_in := goodIn_r _ [11] (by decide +kernel) (by decide +kernel)
set_option maxRecDepth 20000 in
theorem gX5_reachedIn_X5_in : GoodIn wsX5_reachedIn (va_wsS RX5 42 yX5_in wsX5_in) := goodIn_app (goodIn_of _ (by decide +kernel)) ggX5_reachedIn_X5_in
set_option maxRecDepth 20000 in
theorem ggX5_reachedIn_X5_refused : GoodIn wsX5_reachedIn wsX5_refused := goodIn_r _ [19, 20, 54, 55, 56, 57, 58, 59, 60, 61, 62, 63, 64, 65, 66] (by decide +kernel) (by decide +kernel)
set_option maxRecDepth 20000 in
theorem gX5_reachedIn_X5_refused : GoodIn wsX5_reachedIn (wsV RX5 127 RX5 yX5_refused wsX5_refused) := goodIn_app (goodIn_of _ (by decide +kernel)) ggX5_reachedIn_X5_refused
set_option maxRecDepth 20000 in
theorem ggX5_reachedIn_X5_copy : GoodIn wsX5_reachedIn wsX5_copy := goodIn_r _ [23] (by decide +kernel) (by decide +kernel)
set_option maxRecDepth 20000 in
theorem gX5_reachedIn_X5_copy : GoodIn wsX5_reachedIn (va_wsS RX5 204 yX5_copy wsX5_copy) := goodIn_app (goodIn_of _ (by decide +kernel)) ggX5_reachedIn_X5_copy
set_option maxRecDepth 20000 in
theorem ggX5_reachedIn_X5_frozen : GoodIn wsX5_reachedIn wsX5_frozen := goodIn_r _ [26, 27, 28, 7, 29] (by decide +kernel) (by decide +kernel)
set_option maxRecDepth 20000 in
theorem gX5_reachedIn_X5_frozen : GoodIn wsX5_reachedIn (va_wsS RX5 60 yX5_frozen wsX5_frozen) := goodIn_app (goodIn_of _ (by decide +kernel)) ggX5_reachedIn_X5_frozen
set_option maxRecDepth 20000 in
theorem ggX5_reachedIn_X5_day : GoodIn wsX5_reachedIn wsX5_day := goodIn_r _ [32, 33, 34, 7, 35, 36, 37, 38, 39, 40, 41, 42, 43, 44, 24, 25, 26, 27, 28, 29, 45, 46, 47, 48, 49, 50, 51, 52, 53] (by decide +kernel) (by decide +kernel)
set_option maxRecDepth 20000 in
theorem gX5_reachedIn_X5_day : GoodIn wsX5_reachedIn (va_wsS RX5 92 yX5_day wsX5_day) := goodIn_app (goodIn_of _ (by decide +kernel)) ggX5_reachedIn_X5_day
theorem dX5_reachedIn_0 : decode cX5_reachedIn 0 = .ok (.aload_n 0, 1) := by decide +kernel
theorem dX5_reachedIn_1 : decode cX5_reachedIn 1 = .ok (.getfield 7, 3) := by decide +kernel
theorem dX5_reachedIn_4 : decode cX5_reachedIn 4 = .ok (.iload_n 1, 1) := by decide +kernel
theorem dX5_reachedIn_5 : decode cX5_reachedIn 5 = .ok (.invokestatic 166, 3) := by decide +kernel
theorem dX5_reachedIn_8 : decode cX5_reachedIn 8 = .ok (.ifCond .eq 14, 3) := by decide +kernel
theorem dX5_reachedIn_11 : decode cX5_reachedIn 11 = .ok (.iload_n 2, 1) := by decide +kernel
theorem dX5_reachedIn_12 : decode cX5_reachedIn 12 = .ok (.invokestatic 218, 3) := by decide +kernel
theorem dX5_reachedIn_15 : decode cX5_reachedIn 15 = .ok (.ifCond .eq 7, 3) := by decide +kernel
theorem dX5_reachedIn_18 : decode cX5_reachedIn 18 = .ok (.iconst 1, 1) := by decide +kernel
theorem dX5_reachedIn_19 : decode cX5_reachedIn 19 = .ok (.goto 4, 3) := by decide +kernel
theorem dX5_reachedIn_22 : decode cX5_reachedIn 22 = .ok (.iconst 0, 1) := by decide +kernel
theorem dX5_reachedIn_23 : decode cX5_reachedIn 23 = .ok (.istore 4, 2) := by decide +kernel
theorem dX5_reachedIn_25 : decode cX5_reachedIn 25 = .ok (.aload_n 0, 1) := by decide +kernel
theorem dX5_reachedIn_26 : decode cX5_reachedIn 26 = .ok (.iload 4, 2) := by decide +kernel
theorem dX5_reachedIn_28 : decode cX5_reachedIn 28 = .ok (.ifCond .ne 7, 3) := by decide +kernel
theorem dX5_reachedIn_31 : decode cX5_reachedIn 31 = .ok (.iconst 1, 1) := by decide +kernel
theorem dX5_reachedIn_32 : decode cX5_reachedIn 32 = .ok (.goto 22, 3) := by decide +kernel
theorem dX5_reachedIn_35 : decode cX5_reachedIn 35 = .ok (.iload_n 3, 1) := by decide +kernel
theorem dX5_reachedIn_36 : decode cX5_reachedIn 36 = .ok (.i2l, 1) := by decide +kernel
theorem dX5_reachedIn_37 : decode cX5_reachedIn 37 = .ok (.ldc2_w 48, 3) := by decide +kernel
theorem dX5_reachedIn_40 : decode cX5_reachedIn 40 = .ok (.ldc2_w 251, 3) := by decide +kernel
theorem dX5_reachedIn_43 : decode cX5_reachedIn 43 = .ok (.invokestatic 42, 3) := by decide +kernel
theorem dX5_reachedIn_46 : decode cX5_reachedIn 46 = .ok (.ifCond .ne 7, 3) := by decide +kernel
theorem dX5_reachedIn_49 : decode cX5_reachedIn 49 = .ok (.iconst 2, 1) := by decide +kernel
theorem dX5_reachedIn_50 : decode cX5_reachedIn 50 = .ok (.goto 4, 3) := by decide +kernel
theorem dX5_reachedIn_53 : decode cX5_reachedIn 53 = .ok (.iconst 0, 1) := by decide +kernel
theorem dX5_reachedIn_54 : decode cX5_reachedIn 54 = .ok (.invokevirtual 127, 3) := by decide +kernel
theorem dX5_reachedIn_57 : decode cX5_reachedIn 57 = .ok (.ifCond .eq 5, 3) := by decide +kernel
theorem dX5_reachedIn_60 : decode cX5_reachedIn 60 = .ok (.iconst 0, 1) := by decide +kernel
theorem dX5_reachedIn_61 : decode cX5_reachedIn 61 = .ok (.ireturn, 1) := by decide +kernel
theorem dX5_reachedIn_62 : decode cX5_reachedIn 62 = .ok (.aload_n 0, 1) := by decide +kernel
theorem dX5_reachedIn_63 : decode cX5_reachedIn 63 = .ok (.getfield 7, 3) := by decide +kernel
theorem dX5_reachedIn_66 : decode cX5_reachedIn 66 = .ok (.aload_n 0, 1) := by decide +kernel
theorem dX5_reachedIn_67 : decode cX5_reachedIn 67 = .ok (.getfield 13, 3) := by decide +kernel
theorem dX5_reachedIn_70 : decode cX5_reachedIn 70 = .ok (.invokestatic 204, 3) := by decide +kernel
theorem dX5_reachedIn_73 : decode cX5_reachedIn 73 = .ok (.iconst 0, 1) := by decide +kernel
theorem dX5_reachedIn_74 : decode cX5_reachedIn 74 = .ok (.istore 5, 2) := by decide +kernel
theorem dX5_reachedIn_76 : decode cX5_reachedIn 76 = .ok (.iload 5, 2) := by decide +kernel
theorem dX5_reachedIn_78 : decode cX5_reachedIn 78 = .ok (.sipush 400, 3) := by decide +kernel
theorem dX5_reachedIn_81 : decode cX5_reachedIn 81 = .ok (.if_icmp .gt 33, 3) := by decide +kernel
theorem dX5_reachedIn_84 : decode cX5_reachedIn 84 = .ok (.aload_n 0, 1) := by decide +kernel
theorem dX5_reachedIn_85 : decode cX5_reachedIn 85 = .ok (.getfield 13, 3) := by decide +kernel
theorem dX5_reachedIn_88 : decode cX5_reachedIn 88 = .ok (.iload_n 1, 1) := by decide +kernel
theorem dX5_reachedIn_89 : decode cX5_reachedIn 89 = .ok (.iload_n 2, 1) := by decide +kernel
theorem dX5_reachedIn_90 : decode cX5_reachedIn 90 = .ok (.invokestatic 60, 3) := by decide +kernel
theorem dX5_reachedIn_93 : decode cX5_reachedIn 93 = .ok (.ifCond .eq 6, 3) := by decide +kernel
theorem dX5_reachedIn_96 : decode cX5_reachedIn 96 = .ok (.iload 5, 2) := by decide +kernel
theorem dX5_reachedIn_98 : decode cX5_reachedIn 98 = .ok (.ireturn, 1) := by decide +kernel
theorem dX5_reachedIn_99 : decode cX5_reachedIn 99 = .ok (.aload_n 0, 1) := by decide +kernel
theorem dX5_reachedIn_100 : decode cX5_reachedIn 100 = .ok (.getfield 13, 3) := by decide +kernel
theorem dX5_reachedIn_103 : decode cX5_reachedIn 103 = .ok (.iload_n 3, 1) := by decide +kernel
theorem dX5_reachedIn_104 : decode cX5_reachedIn 104 = .ok (.iconst 0, 1) := by decide +kernel
theorem dX5_reachedIn_105 : decode cX5_reachedIn 105 = .ok (.invokestatic 92, 3) := by decide +kernel
theorem dX5_reachedIn_108 : decode cX5_reachedIn 108 = .ok (.iinc 5 1, 3) := by decide +kernel
theorem dX5_reachedIn_111 : decode cX5_reachedIn 111 = .ok (.goto (-35), 3) := by decide +kernel
theorem dX5_reachedIn_114 : decode cX5_reachedIn 114 = .ok (.iconst (-1), 1) := by decide +kernel
theorem dX5_reachedIn_115 : decode cX5_reachedIn 115 = .ok (.ireturn, 1) := by decide +kernel
set_option maxRecDepth 20000 in
theorem ggX5_bestFence_X5_isSite : GoodIn wsX5_bestFence wsX5_isSite := goodIn_r _ [6, 7, 8, 5, 9] (by decide +kernel) (by decide +kernel)
set_option maxRecDepth 20000 in
theorem gX5_bestFence_X5_isSite : GoodIn wsX5_bestFence (va_wsS RX5 166 yX5_isSite wsX5_isSite) := goodIn_app (goodIn_of _ (by decide +kernel)) ggX5_bestFence_X5_isSite
set_option maxRecDepth 20000 in
theorem ggX5_bestFence_X5_isWeather : GoodIn wsX5_bestFence wsX5_isWeather := goodIn_r _ [12, 13, 14, 15, 16, 5, 17, 18, 7, 8, 9] (by decide +kernel) (by decide +kernel)
set_option maxRecDepth 20000 in
theorem gX5_bestFence_X5_isWeather : GoodIn wsX5_bestFence (va_wsS RX5 247 yX5_isWeather wsX5_isWeather) := goodIn_app (goodIn_of _ (by decide +kernel)) ggX5_bestFence_X5_isWeather
set_option maxRecDepth 20000 in
theorem ggX5_bestFence_X5_refused : GoodIn wsX5_bestFence wsX5_refused := goodIn_r _ [22, 23, 66, 67, 68, 69, 70, 71, 72, 73, 74, 75, 76, 77, 78] (by decide +kernel) (by decide +kernel)
set_option maxRecDepth 20000 in
theorem gX5_bestFence_X5_refused : GoodIn wsX5_bestFence (wsV RX5 127 RX5 yX5_refused wsX5_refused) := goodIn_app (goodIn_of _ (by decide +kernel)) ggX5_bestFence_X5_refused
set_option maxRecDepth 20000 in
theorem ggX5_bestFence_X5_copy : GoodIn wsX5_bestFence wsX5_copy := goodIn_r _ [26] (by decide +kernel) (by decide +kernel)
set_option maxRecDepth 20000 in
theorem gX5_bestFence_X5_copy : GoodIn wsX5_bestFence (va_wsS RX5 204 yX5_copy wsX5_copy) := goodIn_app (goodIn_of _ (by decide +kernel)) ggX5_bestFence_X5_copy
set_option maxRecDepth 20000 in
theorem ggX5_bestFence_X5_goDays : GoodIn wsX5_bestFence wsX5_goDays := goodIn_r _ [29, 30, 31, 5, 32, 33, 34, 35, 36, 37, 38, 39, 40, 41, 42, 43, 44, 45, 46, 47, 48, 49, 50, 51, 52, 53, 54, 55, 56, 57, 58, 59, 60, 61, 62, 63, 64, 65] (by decide +kernel) (by decide +kernel)
set_option maxRecDepth 20000 in
theorem gX5_bestFence_X5_goDays : GoodIn wsX5_bestFence (va_wsS RX5 162 yX5_goDays wsX5_goDays) := goodIn_app (goodIn_of _ (by decide +kernel)) ggX5_bestFence_X5_goDays
set_option maxRecDepth 20000 in
theorem ggX5_bestFence_X5_cells : GoodIn wsX5_bestFence wsX5_cells := goodIn_r _ [65, 45, 46, 5, 47, 48, 49, 50] (by decide +kernel) (by decide +kernel)
set_option maxRecDepth 20000 in
theorem gX5_bestFence_X5_cells : GoodIn wsX5_bestFence (va_wsS RX5 89 yX5_cells wsX5_cells) := goodIn_app (goodIn_of _ (by decide +kernel)) ggX5_bestFence_X5_cells
theorem dX5_bestFence_0 : decode cX5_bestFence 0 = .ok (.aload_n 0, 1) := by decide +kernel
theorem dX5_bestFence_1 : decode cX5_bestFence 1 = .ok (.aload_n 0, 1) := by decide +kernel
theorem dX5_bestFence_2 : decode cX5_bestFence 2 = .ok (.getfield 7, 3) := by decide +kernel
theorem dX5_bestFence_5 : decode cX5_bestFence 5 = .ok (.iload_n 1, 1) := by decide +kernel
theorem dX5_bestFence_6 : decode cX5_bestFence 6 = .ok (.invokestatic 166, 3) := by decide +kernel
theorem dX5_bestFence_9 : decode cX5_bestFence 9 = .ok (.ifCond .ne 7, 3) := by decide +kernel
theorem dX5_bestFence_12 : decode cX5_bestFence 12 = .ok (.iconst 1, 1) := by decide +kernel
theorem dX5_bestFence_13 : decode cX5_bestFence 13 = .ok (.goto 18, 3) := by decide +kernel
theorem dX5_bestFence_16 : decode cX5_bestFence 16 = .ok (.iload_n 2, 1) := by decide +kernel
theorem dX5_bestFence_17 : decode cX5_bestFence 17 = .ok (.iload_n 3, 1) := by decide +kernel
theorem dX5_bestFence_18 : decode cX5_bestFence 18 = .ok (.iload 4, 2) := by decide +kernel
theorem dX5_bestFence_20 : decode cX5_bestFence 20 = .ok (.invokestatic 247, 3) := by decide +kernel
theorem dX5_bestFence_23 : decode cX5_bestFence 23 = .ok (.ifCond .ne 7, 3) := by decide +kernel
theorem dX5_bestFence_26 : decode cX5_bestFence 26 = .ok (.iconst 2, 1) := by decide +kernel
theorem dX5_bestFence_27 : decode cX5_bestFence 27 = .ok (.goto 4, 3) := by decide +kernel
theorem dX5_bestFence_30 : decode cX5_bestFence 30 = .ok (.iconst 0, 1) := by decide +kernel
theorem dX5_bestFence_31 : decode cX5_bestFence 31 = .ok (.invokevirtual 127, 3) := by decide +kernel
theorem dX5_bestFence_34 : decode cX5_bestFence 34 = .ok (.ifCond .eq 5, 3) := by decide +kernel
theorem dX5_bestFence_37 : decode cX5_bestFence 37 = .ok (.iconst 0, 1) := by decide +kernel
theorem dX5_bestFence_38 : decode cX5_bestFence 38 = .ok (.ireturn, 1) := by decide +kernel
theorem dX5_bestFence_39 : decode cX5_bestFence 39 = .ok (.iconst (-1), 1) := by decide +kernel
theorem dX5_bestFence_40 : decode cX5_bestFence 40 = .ok (.istore 5, 2) := by decide +kernel
theorem dX5_bestFence_42 : decode cX5_bestFence 42 = .ok (.iconst 0, 1) := by decide +kernel
theorem dX5_bestFence_43 : decode cX5_bestFence 43 = .ok (.istore 6, 2) := by decide +kernel
theorem dX5_bestFence_45 : decode cX5_bestFence 45 = .ok (.iconst 0, 1) := by decide +kernel
theorem dX5_bestFence_46 : decode cX5_bestFence 46 = .ok (.istore 7, 2) := by decide +kernel
theorem dX5_bestFence_48 : decode cX5_bestFence 48 = .ok (.iload 7, 2) := by decide +kernel
theorem dX5_bestFence_50 : decode cX5_bestFence 50 = .ok (.bipush 20, 2) := by decide +kernel
theorem dX5_bestFence_52 : decode cX5_bestFence 52 = .ok (.if_icmp .gt 104, 3) := by decide +kernel
theorem dX5_bestFence_55 : decode cX5_bestFence 55 = .ok (.aload_n 0, 1) := by decide +kernel
theorem dX5_bestFence_56 : decode cX5_bestFence 56 = .ok (.getfield 7, 3) := by decide +kernel
theorem dX5_bestFence_59 : decode cX5_bestFence 59 = .ok (.aload_n 0, 1) := by decide +kernel
theorem dX5_bestFence_60 : decode cX5_bestFence 60 = .ok (.getfield 13, 3) := by decide +kernel
theorem dX5_bestFence_63 : decode cX5_bestFence 63 = .ok (.invokestatic 204, 3) := by decide +kernel
theorem dX5_bestFence_66 : decode cX5_bestFence 66 = .ok (.aload_n 0, 1) := by decide +kernel
theorem dX5_bestFence_67 : decode cX5_bestFence 67 = .ok (.getfield 13, 3) := by decide +kernel
theorem dX5_bestFence_70 : decode cX5_bestFence 70 = .ok (.bipush 35, 2) := by decide +kernel
theorem dX5_bestFence_72 : decode cX5_bestFence 72 = .ok (.iload_n 1, 1) := by decide +kernel
theorem dX5_bestFence_73 : decode cX5_bestFence 73 = .ok (.imul, 1) := by decide +kernel
theorem dX5_bestFence_74 : decode cX5_bestFence 74 = .ok (.iconst 1, 1) := by decide +kernel
theorem dX5_bestFence_75 : decode cX5_bestFence 75 = .ok (.iadd, 1) := by decide +kernel
theorem dX5_bestFence_76 : decode cX5_bestFence 76 = .ok (.iload 7, 2) := by decide +kernel
theorem dX5_bestFence_78 : decode cX5_bestFence 78 = .ok (.iastore, 1) := by decide +kernel
theorem dX5_bestFence_79 : decode cX5_bestFence 79 = .ok (.aload_n 0, 1) := by decide +kernel
theorem dX5_bestFence_80 : decode cX5_bestFence 80 = .ok (.getfield 13, 3) := by decide +kernel
theorem dX5_bestFence_83 : decode cX5_bestFence 83 = .ok (.iload_n 2, 1) := by decide +kernel
theorem dX5_bestFence_84 : decode cX5_bestFence 84 = .ok (.iload_n 3, 1) := by decide +kernel
theorem dX5_bestFence_85 : decode cX5_bestFence 85 = .ok (.iload 4, 2) := by decide +kernel
theorem dX5_bestFence_87 : decode cX5_bestFence 87 = .ok (.invokestatic 162, 3) := by decide +kernel
theorem dX5_bestFence_90 : decode cX5_bestFence 90 = .ok (.istore 8, 2) := by decide +kernel
theorem dX5_bestFence_92 : decode cX5_bestFence 92 = .ok (.aload_n 0, 1) := by decide +kernel
theorem dX5_bestFence_93 : decode cX5_bestFence 93 = .ok (.getfield 13, 3) := by decide +kernel
theorem dX5_bestFence_96 : decode cX5_bestFence 96 = .ok (.iload_n 1, 1) := by decide +kernel
theorem dX5_bestFence_97 : decode cX5_bestFence 97 = .ok (.invokestatic 89, 3) := by decide +kernel
theorem dX5_bestFence_100 : decode cX5_bestFence 100 = .ok (.istore 9, 2) := by decide +kernel
theorem dX5_bestFence_102 : decode cX5_bestFence 102 = .ok (.iload 5, 2) := by decide +kernel
theorem dX5_bestFence_104 : decode cX5_bestFence 104 = .ok (.iconst (-1), 1) := by decide +kernel
theorem dX5_bestFence_105 : decode cX5_bestFence 105 = .ok (.if_icmp .eq 10, 3) := by decide +kernel
theorem dX5_bestFence_108 : decode cX5_bestFence 108 = .ok (.iload 9, 2) := by decide +kernel
theorem dX5_bestFence_110 : decode cX5_bestFence 110 = .ok (.iload 6, 2) := by decide +kernel
theorem dX5_bestFence_112 : decode cX5_bestFence 112 = .ok (.if_icmp .ge 7, 3) := by decide +kernel
theorem dX5_bestFence_115 : decode cX5_bestFence 115 = .ok (.iconst 1, 1) := by decide +kernel
theorem dX5_bestFence_116 : decode cX5_bestFence 116 = .ok (.goto 4, 3) := by decide +kernel
theorem dX5_bestFence_119 : decode cX5_bestFence 119 = .ok (.iconst 0, 1) := by decide +kernel
theorem dX5_bestFence_120 : decode cX5_bestFence 120 = .ok (.istore 10, 2) := by decide +kernel
theorem dX5_bestFence_122 : decode cX5_bestFence 122 = .ok (.iload 10, 2) := by decide +kernel
theorem dX5_bestFence_124 : decode cX5_bestFence 124 = .ok (.ifCond .eq 8, 3) := by decide +kernel
theorem dX5_bestFence_127 : decode cX5_bestFence 127 = .ok (.iload 7, 2) := by decide +kernel
theorem dX5_bestFence_129 : decode cX5_bestFence 129 = .ok (.goto 5, 3) := by decide +kernel
theorem dX5_bestFence_132 : decode cX5_bestFence 132 = .ok (.iload 5, 2) := by decide +kernel
theorem dX5_bestFence_134 : decode cX5_bestFence 134 = .ok (.istore 5, 2) := by decide +kernel
theorem dX5_bestFence_136 : decode cX5_bestFence 136 = .ok (.iload 10, 2) := by decide +kernel
theorem dX5_bestFence_138 : decode cX5_bestFence 138 = .ok (.ifCond .eq 8, 3) := by decide +kernel
theorem dX5_bestFence_141 : decode cX5_bestFence 141 = .ok (.iload 9, 2) := by decide +kernel
theorem dX5_bestFence_143 : decode cX5_bestFence 143 = .ok (.goto 5, 3) := by decide +kernel
theorem dX5_bestFence_146 : decode cX5_bestFence 146 = .ok (.iload 6, 2) := by decide +kernel
theorem dX5_bestFence_148 : decode cX5_bestFence 148 = .ok (.istore 6, 2) := by decide +kernel
theorem dX5_bestFence_150 : decode cX5_bestFence 150 = .ok (.iinc 7 1, 3) := by decide +kernel
theorem dX5_bestFence_153 : decode cX5_bestFence 153 = .ok (.goto (-105), 3) := by decide +kernel
theorem dX5_bestFence_156 : decode cX5_bestFence 156 = .ok (.iload 5, 2) := by decide +kernel
theorem dX5_bestFence_158 : decode cX5_bestFence 158 = .ok (.ireturn, 1) := by decide +kernel
set_option maxRecDepth 20000 in
theorem ggX5_heaveIn_X5_isPipe : GoodIn wsX5_heaveIn wsX5_isPipe := goodIn_r _ [6, 7, 8, 5, 9] (by decide +kernel) (by decide +kernel)
set_option maxRecDepth 20000 in
theorem gX5_heaveIn_X5_isPipe : GoodIn wsX5_heaveIn (va_wsS RX5 234 yX5_isPipe wsX5_isPipe) := goodIn_app (goodIn_of _ (by decide +kernel)) ggX5_heaveIn_X5_isPipe
set_option maxRecDepth 20000 in
theorem ggX5_heaveIn_X5_isWeather : GoodIn wsX5_heaveIn wsX5_isWeather := goodIn_r _ [12, 13, 14, 15, 16, 5, 17, 18, 7, 8, 9] (by decide +kernel) (by decide +kernel)
set_option maxRecDepth 20000 in
theorem gX5_heaveIn_X5_isWeather : GoodIn wsX5_heaveIn (va_wsS RX5 247 yX5_isWeather wsX5_isWeather) := goodIn_app (goodIn_of _ (by decide +kernel)) ggX5_heaveIn_X5_isWeather
set_option maxRecDepth 20000 in
theorem ggX5_heaveIn_X5_refused : GoodIn wsX5_heaveIn wsX5_refused := goodIn_r _ [22, 23, 66, 67, 68, 69, 70, 71, 72, 73, 74, 75, 76, 77, 78] (by decide +kernel) (by decide +kernel)
set_option maxRecDepth 20000 in
theorem gX5_heaveIn_X5_refused : GoodIn wsX5_heaveIn (wsV RX5 127 RX5 yX5_refused wsX5_refused) := goodIn_app (goodIn_of _ (by decide +kernel)) ggX5_heaveIn_X5_refused
set_option maxRecDepth 20000 in
theorem ggX5_heaveIn_X5_copy : GoodIn wsX5_heaveIn wsX5_copy := goodIn_r _ [26] (by decide +kernel) (by decide +kernel)
set_option maxRecDepth 20000 in
theorem gX5_heaveIn_X5_copy : GoodIn wsX5_heaveIn (va_wsS RX5 204 yX5_copy wsX5_copy) := goodIn_app (goodIn_of _ (by decide +kernel)) ggX5_heaveIn_X5_copy
set_option maxRecDepth 20000 in
theorem ggX5_heaveIn_X5_goDays : GoodIn wsX5_heaveIn wsX5_goDays := goodIn_r _ [29, 30, 31, 5, 32, 33, 34, 35, 36, 37, 38, 39, 40, 41, 42, 43, 44, 45, 46, 47, 48, 49, 50, 51, 52, 53, 54, 55, 56, 57, 58, 59, 60, 61, 62, 63, 64, 65] (by decide +kernel) (by decide +kernel)
set_option maxRecDepth 20000 in
theorem gX5_heaveIn_X5_goDays : GoodIn wsX5_heaveIn (va_wsS RX5 162 yX5_goDays wsX5_goDays) := goodIn_app (goodIn_of _ (by decide +kernel)) ggX5_heaveIn_X5_goDays
theorem dX5_heaveIn_0 : decode cX5_heaveIn 0 = .ok (.aload_n 0, 1) := by decide +kernel
theorem dX5_heaveIn_1 : decode cX5_heaveIn 1 = .ok (.aload_n 0, 1) := by decide +kernel
theorem dX5_heaveIn_2 : decode cX5_heaveIn 2 = .ok (.getfield 7, 3) := by decide +kernel
theorem dX5_heaveIn_5 : decode cX5_heaveIn 5 = .ok (.iload_n 1, 1) := by decide +kernel
theorem dX5_heaveIn_6 : decode cX5_heaveIn 6 = .ok (.invokestatic 234, 3) := by decide +kernel
theorem dX5_heaveIn_9 : decode cX5_heaveIn 9 = .ok (.ifCond .ne 7, 3) := by decide +kernel
theorem dX5_heaveIn_12 : decode cX5_heaveIn 12 = .ok (.iconst 1, 1) := by decide +kernel
theorem dX5_heaveIn_13 : decode cX5_heaveIn 13 = .ok (.goto 17, 3) := by decide +kernel
theorem dX5_heaveIn_16 : decode cX5_heaveIn 16 = .ok (.iload_n 2, 1) := by decide +kernel
theorem dX5_heaveIn_17 : decode cX5_heaveIn 17 = .ok (.iconst 0, 1) := by decide +kernel
theorem dX5_heaveIn_18 : decode cX5_heaveIn 18 = .ok (.iload_n 3, 1) := by decide +kernel
theorem dX5_heaveIn_19 : decode cX5_heaveIn 19 = .ok (.invokestatic 247, 3) := by decide +kernel
theorem dX5_heaveIn_22 : decode cX5_heaveIn 22 = .ok (.ifCond .ne 7, 3) := by decide +kernel
theorem dX5_heaveIn_25 : decode cX5_heaveIn 25 = .ok (.iconst 2, 1) := by decide +kernel
theorem dX5_heaveIn_26 : decode cX5_heaveIn 26 = .ok (.goto 4, 3) := by decide +kernel
theorem dX5_heaveIn_29 : decode cX5_heaveIn 29 = .ok (.iconst 0, 1) := by decide +kernel
theorem dX5_heaveIn_30 : decode cX5_heaveIn 30 = .ok (.invokevirtual 127, 3) := by decide +kernel
theorem dX5_heaveIn_33 : decode cX5_heaveIn 33 = .ok (.ifCond .eq 5, 3) := by decide +kernel
theorem dX5_heaveIn_36 : decode cX5_heaveIn 36 = .ok (.iconst 0, 1) := by decide +kernel
theorem dX5_heaveIn_37 : decode cX5_heaveIn 37 = .ok (.ireturn, 1) := by decide +kernel
theorem dX5_heaveIn_38 : decode cX5_heaveIn 38 = .ok (.aload_n 0, 1) := by decide +kernel
theorem dX5_heaveIn_39 : decode cX5_heaveIn 39 = .ok (.getfield 7, 3) := by decide +kernel
theorem dX5_heaveIn_42 : decode cX5_heaveIn 42 = .ok (.aload_n 0, 1) := by decide +kernel
theorem dX5_heaveIn_43 : decode cX5_heaveIn 43 = .ok (.getfield 13, 3) := by decide +kernel
theorem dX5_heaveIn_46 : decode cX5_heaveIn 46 = .ok (.invokestatic 204, 3) := by decide +kernel
theorem dX5_heaveIn_49 : decode cX5_heaveIn 49 = .ok (.aload_n 0, 1) := by decide +kernel
theorem dX5_heaveIn_50 : decode cX5_heaveIn 50 = .ok (.getfield 13, 3) := by decide +kernel
theorem dX5_heaveIn_53 : decode cX5_heaveIn 53 = .ok (.iload_n 2, 1) := by decide +kernel
theorem dX5_heaveIn_54 : decode cX5_heaveIn 54 = .ok (.iconst 0, 1) := by decide +kernel
theorem dX5_heaveIn_55 : decode cX5_heaveIn 55 = .ok (.iload_n 3, 1) := by decide +kernel
theorem dX5_heaveIn_56 : decode cX5_heaveIn 56 = .ok (.invokestatic 162, 3) := by decide +kernel
theorem dX5_heaveIn_59 : decode cX5_heaveIn 59 = .ok (.istore 4, 2) := by decide +kernel
theorem dX5_heaveIn_61 : decode cX5_heaveIn 61 = .ok (.aload_n 0, 1) := by decide +kernel
theorem dX5_heaveIn_62 : decode cX5_heaveIn 62 = .ok (.getfield 13, 3) := by decide +kernel
theorem dX5_heaveIn_65 : decode cX5_heaveIn 65 = .ok (.sipush 156, 3) := by decide +kernel
theorem dX5_heaveIn_68 : decode cX5_heaveIn 68 = .ok (.iconst 5, 1) := by decide +kernel
theorem dX5_heaveIn_69 : decode cX5_heaveIn 69 = .ok (.iload_n 1, 1) := by decide +kernel
theorem dX5_heaveIn_70 : decode cX5_heaveIn 70 = .ok (.imul, 1) := by decide +kernel
theorem dX5_heaveIn_71 : decode cX5_heaveIn 71 = .ok (.iadd, 1) := by decide +kernel
theorem dX5_heaveIn_72 : decode cX5_heaveIn 72 = .ok (.iconst 2, 1) := by decide +kernel
theorem dX5_heaveIn_73 : decode cX5_heaveIn 73 = .ok (.iadd, 1) := by decide +kernel
theorem dX5_heaveIn_74 : decode cX5_heaveIn 74 = .ok (.iaload, 1) := by decide +kernel
theorem dX5_heaveIn_75 : decode cX5_heaveIn 75 = .ok (.ireturn, 1) := by decide +kernel
set_option maxRecDepth 20000 in
theorem ggX5_deepest_X5_cells : GoodIn wsX5_deepest wsX5_cells := goodIn_r _ [6, 7, 8, 5, 9, 10, 11, 12] (by decide +kernel) (by decide +kernel)
set_option maxRecDepth 20000 in
theorem gX5_deepest_X5_cells : GoodIn wsX5_deepest (va_wsS RX5 89 yX5_cells wsX5_cells) := goodIn_app (goodIn_of _ (by decide +kernel)) ggX5_deepest_X5_cells
set_option maxRecDepth 20000 in
theorem ggX5_deepest_X5_lowest : GoodIn wsX5_deepest wsX5_lowest := goodIn_r _ [15, 7, 8, 5, 9, 10, 11, 12] (by decide +kernel) (by decide +kernel)
set_option maxRecDepth 20000 in
theorem gX5_deepest_X5_lowest : GoodIn wsX5_deepest (va_wsS RX5 82 yX5_lowest wsX5_lowest) := goodIn_app (goodIn_of _ (by decide +kernel)) ggX5_deepest_X5_lowest
theorem dX5_deepest_0 : decode cX5_deepest 0 = .ok (.aload_n 0, 1) := by decide +kernel
theorem dX5_deepest_1 : decode cX5_deepest 1 = .ok (.iconst 0, 1) := by decide +kernel
theorem dX5_deepest_2 : decode cX5_deepest 2 = .ok (.putfield 36, 3) := by decide +kernel
theorem dX5_deepest_5 : decode cX5_deepest 5 = .ok (.iconst (-1), 1) := by decide +kernel
theorem dX5_deepest_6 : decode cX5_deepest 6 = .ok (.istore_n 1, 1) := by decide +kernel
theorem dX5_deepest_7 : decode cX5_deepest 7 = .ok (.iconst 0, 1) := by decide +kernel
theorem dX5_deepest_8 : decode cX5_deepest 8 = .ok (.istore_n 2, 1) := by decide +kernel
theorem dX5_deepest_9 : decode cX5_deepest 9 = .ok (.iload_n 2, 1) := by decide +kernel
theorem dX5_deepest_10 : decode cX5_deepest 10 = .ok (.aload_n 0, 1) := by decide +kernel
theorem dX5_deepest_11 : decode cX5_deepest 11 = .ok (.getfield 7, 3) := by decide +kernel
theorem dX5_deepest_14 : decode cX5_deepest 14 = .ok (.sipush 196, 3) := by decide +kernel
theorem dX5_deepest_17 : decode cX5_deepest 17 = .ok (.iaload, 1) := by decide +kernel
theorem dX5_deepest_18 : decode cX5_deepest 18 = .ok (.if_icmp .ge 93, 3) := by decide +kernel
theorem dX5_deepest_21 : decode cX5_deepest 21 = .ok (.aload_n 0, 1) := by decide +kernel
theorem dX5_deepest_22 : decode cX5_deepest 22 = .ok (.getfield 7, 3) := by decide +kernel
theorem dX5_deepest_25 : decode cX5_deepest 25 = .ok (.iload_n 2, 1) := by decide +kernel
theorem dX5_deepest_26 : decode cX5_deepest 26 = .ok (.invokestatic 89, 3) := by decide +kernel
theorem dX5_deepest_29 : decode cX5_deepest 29 = .ok (.ifCond .le 7, 3) := by decide +kernel
theorem dX5_deepest_32 : decode cX5_deepest 32 = .ok (.iconst 1, 1) := by decide +kernel
theorem dX5_deepest_33 : decode cX5_deepest 33 = .ok (.goto 4, 3) := by decide +kernel
theorem dX5_deepest_36 : decode cX5_deepest 36 = .ok (.iconst 0, 1) := by decide +kernel
theorem dX5_deepest_37 : decode cX5_deepest 37 = .ok (.istore_n 3, 1) := by decide +kernel
theorem dX5_deepest_38 : decode cX5_deepest 38 = .ok (.iload_n 1, 1) := by decide +kernel
theorem dX5_deepest_39 : decode cX5_deepest 39 = .ok (.iconst (-1), 1) := by decide +kernel
theorem dX5_deepest_40 : decode cX5_deepest 40 = .ok (.if_icmp .ne 7, 3) := by decide +kernel
theorem dX5_deepest_43 : decode cX5_deepest 43 = .ok (.iconst 1, 1) := by decide +kernel
theorem dX5_deepest_44 : decode cX5_deepest 44 = .ok (.goto 20, 3) := by decide +kernel
theorem dX5_deepest_47 : decode cX5_deepest 47 = .ok (.aload_n 0, 1) := by decide +kernel
theorem dX5_deepest_48 : decode cX5_deepest 48 = .ok (.getfield 7, 3) := by decide +kernel
theorem dX5_deepest_51 : decode cX5_deepest 51 = .ok (.iload_n 2, 1) := by decide +kernel
theorem dX5_deepest_52 : decode cX5_deepest 52 = .ok (.invokestatic 82, 3) := by decide +kernel
theorem dX5_deepest_55 : decode cX5_deepest 55 = .ok (.aload_n 0, 1) := by decide +kernel
theorem dX5_deepest_56 : decode cX5_deepest 56 = .ok (.getfield 7, 3) := by decide +kernel
theorem dX5_deepest_59 : decode cX5_deepest 59 = .ok (.iload_n 1, 1) := by decide +kernel
theorem dX5_deepest_60 : decode cX5_deepest 60 = .ok (.invokestatic 82, 3) := by decide +kernel
theorem dX5_deepest_63 : decode cX5_deepest 63 = .ok (.isub, 1) := by decide +kernel
theorem dX5_deepest_64 : decode cX5_deepest 64 = .ok (.istore 4, 2) := by decide +kernel
theorem dX5_deepest_66 : decode cX5_deepest 66 = .ok (.iload_n 3, 1) := by decide +kernel
theorem dX5_deepest_67 : decode cX5_deepest 67 = .ok (.ifCond .eq 36, 3) := by decide +kernel
theorem dX5_deepest_70 : decode cX5_deepest 70 = .ok (.iload 4, 2) := by decide +kernel
theorem dX5_deepest_72 : decode cX5_deepest 72 = .ok (.ifCond .gt 27, 3) := by decide +kernel
theorem dX5_deepest_75 : decode cX5_deepest 75 = .ok (.iload 4, 2) := by decide +kernel
theorem dX5_deepest_77 : decode cX5_deepest 77 = .ok (.ifCond .ne 26, 3) := by decide +kernel
theorem dX5_deepest_80 : decode cX5_deepest 80 = .ok (.aload_n 0, 1) := by decide +kernel
theorem dX5_deepest_81 : decode cX5_deepest 81 = .ok (.getfield 7, 3) := by decide +kernel
theorem dX5_deepest_84 : decode cX5_deepest 84 = .ok (.iload_n 2, 1) := by decide +kernel
theorem dX5_deepest_85 : decode cX5_deepest 85 = .ok (.invokestatic 89, 3) := by decide +kernel
theorem dX5_deepest_88 : decode cX5_deepest 88 = .ok (.aload_n 0, 1) := by decide +kernel
theorem dX5_deepest_89 : decode cX5_deepest 89 = .ok (.getfield 7, 3) := by decide +kernel
theorem dX5_deepest_92 : decode cX5_deepest 92 = .ok (.iload_n 1, 1) := by decide +kernel
theorem dX5_deepest_93 : decode cX5_deepest 93 = .ok (.invokestatic 89, 3) := by decide +kernel
theorem dX5_deepest_96 : decode cX5_deepest 96 = .ok (.if_icmp .le 7, 3) := by decide +kernel
theorem dX5_deepest_99 : decode cX5_deepest 99 = .ok (.iload_n 2, 1) := by decide +kernel
theorem dX5_deepest_100 : decode cX5_deepest 100 = .ok (.goto 4, 3) := by decide +kernel
theorem dX5_deepest_103 : decode cX5_deepest 103 = .ok (.iload_n 1, 1) := by decide +kernel
theorem dX5_deepest_104 : decode cX5_deepest 104 = .ok (.istore_n 1, 1) := by decide +kernel
theorem dX5_deepest_105 : decode cX5_deepest 105 = .ok (.iinc 2 1, 3) := by decide +kernel
theorem dX5_deepest_108 : decode cX5_deepest 108 = .ok (.goto (-99), 3) := by decide +kernel
theorem dX5_deepest_111 : decode cX5_deepest 111 = .ok (.iload_n 1, 1) := by decide +kernel
theorem dX5_deepest_112 : decode cX5_deepest 112 = .ok (.ireturn, 1) := by decide +kernel
set_option maxRecDepth 20000 in
theorem ggX5_runDays_X5_isWeather : GoodIn wsX5_runDays wsX5_isWeather := goodIn_r _ [5, 6, 7, 8, 9, 4, 10, 11, 12, 13, 14] (by decide +kernel) (by decide +kernel)
set_option maxRecDepth 20000 in
theorem gX5_runDays_X5_isWeather : GoodIn wsX5_runDays (va_wsS RX5 247 yX5_isWeather wsX5_isWeather) := goodIn_app (goodIn_of _ (by decide +kernel)) ggX5_runDays_X5_isWeather
set_option maxRecDepth 20000 in
theorem ggX5_runDays_X5_hasDays : GoodIn wsX5_runDays wsX5_hasDays := goodIn_r _ [17] (by decide +kernel) (by decide +kernel)
set_option maxRecDepth 20000 in
theorem gX5_runDays_X5_hasDays : GoodIn wsX5_runDays (va_wsS RX5 154 yX5_hasDays wsX5_hasDays) := goodIn_app (goodIn_of _ (by decide +kernel)) ggX5_runDays_X5_hasDays
set_option maxRecDepth 20000 in
theorem ggX5_runDays_X5_goDays : GoodIn wsX5_runDays wsX5_goDays := goodIn_r _ [20, 21, 22, 4, 23, 24, 25, 26, 27, 28, 29, 30, 31, 32, 33, 34, 35, 36, 37, 38, 39, 40, 41, 42, 43, 44, 45, 46, 47, 48, 49, 50, 51, 52, 53, 54, 55, 56] (by decide +kernel) (by decide +kernel)
set_option maxRecDepth 20000 in
theorem gX5_runDays_X5_goDays : GoodIn wsX5_runDays (va_wsS RX5 162 yX5_goDays wsX5_goDays) := goodIn_app (goodIn_of _ (by decide +kernel)) ggX5_runDays_X5_goDays
theorem dX5_runDays_0 : decode cX5_runDays 0 = .ok (.iload_n 1, 1) := by decide +kernel
theorem dX5_runDays_1 : decode cX5_runDays 1 = .ok (.iload_n 2, 1) := by decide +kernel
theorem dX5_runDays_2 : decode cX5_runDays 2 = .ok (.iload_n 3, 1) := by decide +kernel
theorem dX5_runDays_3 : decode cX5_runDays 3 = .ok (.invokestatic 247, 3) := by decide +kernel
theorem dX5_runDays_6 : decode cX5_runDays 6 = .ok (.ifCond .eq 31, 3) := by decide +kernel
theorem dX5_runDays_9 : decode cX5_runDays 9 = .ok (.aload_n 0, 1) := by decide +kernel
theorem dX5_runDays_10 : decode cX5_runDays 10 = .ok (.getfield 13, 3) := by decide +kernel
theorem dX5_runDays_13 : decode cX5_runDays 13 = .ok (.iload_n 3, 1) := by decide +kernel
theorem dX5_runDays_14 : decode cX5_runDays 14 = .ok (.invokestatic 154, 3) := by decide +kernel
theorem dX5_runDays_17 : decode cX5_runDays 17 = .ok (.ifCond .eq 20, 3) := by decide +kernel
theorem dX5_runDays_20 : decode cX5_runDays 20 = .ok (.aload_n 0, 1) := by decide +kernel
theorem dX5_runDays_21 : decode cX5_runDays 21 = .ok (.getfield 13, 3) := by decide +kernel
theorem dX5_runDays_24 : decode cX5_runDays 24 = .ok (.iload_n 1, 1) := by decide +kernel
theorem dX5_runDays_25 : decode cX5_runDays 25 = .ok (.iload_n 2, 1) := by decide +kernel
theorem dX5_runDays_26 : decode cX5_runDays 26 = .ok (.iload_n 3, 1) := by decide +kernel
theorem dX5_runDays_27 : decode cX5_runDays 27 = .ok (.invokestatic 162, 3) := by decide +kernel
theorem dX5_runDays_30 : decode cX5_runDays 30 = .ok (.ifCond .lt 7, 3) := by decide +kernel
theorem dX5_runDays_33 : decode cX5_runDays 33 = .ok (.iconst 1, 1) := by decide +kernel
theorem dX5_runDays_34 : decode cX5_runDays 34 = .ok (.goto 4, 3) := by decide +kernel
theorem dX5_runDays_37 : decode cX5_runDays 37 = .ok (.iconst 0, 1) := by decide +kernel
theorem dX5_runDays_38 : decode cX5_runDays 38 = .ok (.ireturn, 1) := by decide +kernel
set_option maxRecDepth 20000 in
theorem ggX5_runFence_X5_isSite : GoodIn wsX5_runFence wsX5_isSite := goodIn_r _ [6, 7, 8, 5, 9] (by decide +kernel) (by decide +kernel)
set_option maxRecDepth 20000 in
theorem gX5_runFence_X5_isSite : GoodIn wsX5_runFence (va_wsS RX5 166 yX5_isSite wsX5_isSite) := goodIn_app (goodIn_of _ (by decide +kernel)) ggX5_runFence_X5_isSite
set_option maxRecDepth 20000 in
theorem ggX5_runFence_X5_in : GoodIn wsX5_runFence wsX5_in := goodIn_r _ [9] (by decide +kernel) (by decide +kernel)
set_option maxRecDepth 20000 in
theorem gX5_runFence_X5_in : GoodIn wsX5_runFence (va_wsS RX5 42 yX5_in wsX5_in) := goodIn_app (goodIn_of _ (by decide +kernel)) ggX5_runFence_X5_in
set_option maxRecDepth 20000 in
theorem ggX5_runFence_X5_put : GoodIn wsX5_runFence wsX5_put := goodIn_r _ [12] (by decide +kernel) (by decide +kernel)
set_option maxRecDepth 20000 in
theorem gX5_runFence_X5_put : GoodIn wsX5_runFence (va_wsS RX5 115 yX5_put wsX5_put) := goodIn_app (goodIn_of _ (by decide +kernel)) ggX5_runFence_X5_put
theorem dX5_runFence_0 : decode cX5_runFence 0 = .ok (.aload_n 0, 1) := by decide +kernel
theorem dX5_runFence_1 : decode cX5_runFence 1 = .ok (.getfield 13, 3) := by decide +kernel
theorem dX5_runFence_4 : decode cX5_runFence 4 = .ok (.iload_n 1, 1) := by decide +kernel
theorem dX5_runFence_5 : decode cX5_runFence 5 = .ok (.invokestatic 166, 3) := by decide +kernel
theorem dX5_runFence_8 : decode cX5_runFence 8 = .ok (.ifCond .eq 36, 3) := by decide +kernel
theorem dX5_runFence_11 : decode cX5_runFence 11 = .ok (.iload_n 2, 1) := by decide +kernel
theorem dX5_runFence_12 : decode cX5_runFence 12 = .ok (.i2l, 1) := by decide +kernel
theorem dX5_runFence_13 : decode cX5_runFence 13 = .ok (.lconst 0, 1) := by decide +kernel
theorem dX5_runFence_14 : decode cX5_runFence 14 = .ok (.ldc2_w 245, 3) := by decide +kernel
theorem dX5_runFence_17 : decode cX5_runFence 17 = .ok (.invokestatic 42, 3) := by decide +kernel
theorem dX5_runFence_20 : decode cX5_runFence 20 = .ok (.ifCond .eq 24, 3) := by decide +kernel
theorem dX5_runFence_23 : decode cX5_runFence 23 = .ok (.aload_n 0, 1) := by decide +kernel
theorem dX5_runFence_24 : decode cX5_runFence 24 = .ok (.getfield 13, 3) := by decide +kernel
theorem dX5_runFence_27 : decode cX5_runFence 27 = .ok (.bipush 35, 2) := by decide +kernel
theorem dX5_runFence_29 : decode cX5_runFence 29 = .ok (.iload_n 1, 1) := by decide +kernel
theorem dX5_runFence_30 : decode cX5_runFence 30 = .ok (.imul, 1) := by decide +kernel
theorem dX5_runFence_31 : decode cX5_runFence 31 = .ok (.iconst 1, 1) := by decide +kernel
theorem dX5_runFence_32 : decode cX5_runFence 32 = .ok (.iadd, 1) := by decide +kernel
theorem dX5_runFence_33 : decode cX5_runFence 33 = .ok (.iload_n 2, 1) := by decide +kernel
theorem dX5_runFence_34 : decode cX5_runFence 34 = .ok (.invokestatic 115, 3) := by decide +kernel
theorem dX5_runFence_37 : decode cX5_runFence 37 = .ok (.ifCond .lt 7, 3) := by decide +kernel
theorem dX5_runFence_40 : decode cX5_runFence 40 = .ok (.iconst 1, 1) := by decide +kernel
theorem dX5_runFence_41 : decode cX5_runFence 41 = .ok (.goto 4, 3) := by decide +kernel
theorem dX5_runFence_44 : decode cX5_runFence 44 = .ok (.iconst 0, 1) := by decide +kernel
theorem dX5_runFence_45 : decode cX5_runFence 45 = .ok (.ireturn, 1) := by decide +kernel
set_option maxRecDepth 20000 in
theorem ggX5_runShovel_X5_isSite : GoodIn wsX5_runShovel wsX5_isSite := goodIn_r _ [5, 6, 7, 4, 8] (by decide +kernel) (by decide +kernel)
set_option maxRecDepth 20000 in
theorem gX5_runShovel_X5_isSite : GoodIn wsX5_runShovel (va_wsS RX5 166 yX5_isSite wsX5_isSite) := goodIn_app (goodIn_of _ (by decide +kernel)) ggX5_runShovel_X5_isSite
set_option maxRecDepth 20000 in
theorem ggX5_runShovel_X5_put : GoodIn wsX5_runShovel wsX5_put := goodIn_r _ [11] (by decide +kernel) (by decide +kernel)
set_option maxRecDepth 20000 in
theorem gX5_runShovel_X5_put : GoodIn wsX5_runShovel (va_wsS RX5 115 yX5_put wsX5_put) := goodIn_app (goodIn_of _ (by decide +kernel)) ggX5_runShovel_X5_put
theorem dX5_runShovel_0 : decode cX5_runShovel 0 = .ok (.aload_n 0, 1) := by decide +kernel
theorem dX5_runShovel_1 : decode cX5_runShovel 1 = .ok (.getfield 13, 3) := by decide +kernel
theorem dX5_runShovel_4 : decode cX5_runShovel 4 = .ok (.iload_n 1, 1) := by decide +kernel
theorem dX5_runShovel_5 : decode cX5_runShovel 5 = .ok (.invokestatic 166, 3) := by decide +kernel
theorem dX5_runShovel_8 : decode cX5_runShovel 8 = .ok (.ifCond .eq 24, 3) := by decide +kernel
theorem dX5_runShovel_11 : decode cX5_runShovel 11 = .ok (.aload_n 0, 1) := by decide +kernel
theorem dX5_runShovel_12 : decode cX5_runShovel 12 = .ok (.getfield 13, 3) := by decide +kernel
theorem dX5_runShovel_15 : decode cX5_runShovel 15 = .ok (.bipush 35, 2) := by decide +kernel
theorem dX5_runShovel_17 : decode cX5_runShovel 17 = .ok (.iload_n 1, 1) := by decide +kernel
theorem dX5_runShovel_18 : decode cX5_runShovel 18 = .ok (.imul, 1) := by decide +kernel
theorem dX5_runShovel_19 : decode cX5_runShovel 19 = .ok (.iconst 0, 1) := by decide +kernel
theorem dX5_runShovel_20 : decode cX5_runShovel 20 = .ok (.iadd, 1) := by decide +kernel
theorem dX5_runShovel_21 : decode cX5_runShovel 21 = .ok (.iconst 0, 1) := by decide +kernel
theorem dX5_runShovel_22 : decode cX5_runShovel 22 = .ok (.invokestatic 115, 3) := by decide +kernel
theorem dX5_runShovel_25 : decode cX5_runShovel 25 = .ok (.ifCond .lt 7, 3) := by decide +kernel
theorem dX5_runShovel_28 : decode cX5_runShovel 28 = .ok (.iconst 1, 1) := by decide +kernel
theorem dX5_runShovel_29 : decode cX5_runShovel 29 = .ok (.goto 4, 3) := by decide +kernel
theorem dX5_runShovel_32 : decode cX5_runShovel 32 = .ok (.iconst 0, 1) := by decide +kernel
theorem dX5_runShovel_33 : decode cX5_runShovel 33 = .ok (.ireturn, 1) := by decide +kernel
set_option maxRecDepth 20000 in
theorem ggX5_runSet_X5_isSetting : GoodIn wsX5_runSet wsX5_isSetting := goodIn_r _ [5, 6, 7, 8, 9, 10, 4, 11] (by decide +kernel) (by decide +kernel)
set_option maxRecDepth 20000 in
theorem gX5_runSet_X5_isSetting : GoodIn wsX5_runSet (va_wsS RX5 178 yX5_isSetting wsX5_isSetting) := goodIn_app (goodIn_of _ (by decide +kernel)) ggX5_runSet_X5_isSetting
set_option maxRecDepth 20000 in
theorem ggX5_runSet_X5_put : GoodIn wsX5_runSet wsX5_put := goodIn_r _ [14] (by decide +kernel) (by decide +kernel)
set_option maxRecDepth 20000 in
theorem gX5_runSet_X5_put : GoodIn wsX5_runSet (va_wsS RX5 115 yX5_put wsX5_put) := goodIn_app (goodIn_of _ (by decide +kernel)) ggX5_runSet_X5_put
theorem dX5_runSet_0 : decode cX5_runSet 0 = .ok (.iload_n 1, 1) := by decide +kernel
theorem dX5_runSet_1 : decode cX5_runSet 1 = .ok (.iload_n 2, 1) := by decide +kernel
theorem dX5_runSet_2 : decode cX5_runSet 2 = .ok (.invokestatic 178, 3) := by decide +kernel
theorem dX5_runSet_5 : decode cX5_runSet 5 = .ok (.ifCond .eq 23, 3) := by decide +kernel
theorem dX5_runSet_8 : decode cX5_runSet 8 = .ok (.aload_n 0, 1) := by decide +kernel
theorem dX5_runSet_9 : decode cX5_runSet 9 = .ok (.getfield 13, 3) := by decide +kernel
theorem dX5_runSet_12 : decode cX5_runSet 12 = .ok (.sipush 202, 3) := by decide +kernel
theorem dX5_runSet_15 : decode cX5_runSet 15 = .ok (.iload_n 1, 1) := by decide +kernel
theorem dX5_runSet_16 : decode cX5_runSet 16 = .ok (.iadd, 1) := by decide +kernel
theorem dX5_runSet_17 : decode cX5_runSet 17 = .ok (.iload_n 2, 1) := by decide +kernel
theorem dX5_runSet_18 : decode cX5_runSet 18 = .ok (.invokestatic 115, 3) := by decide +kernel
theorem dX5_runSet_21 : decode cX5_runSet 21 = .ok (.ifCond .lt 7, 3) := by decide +kernel
theorem dX5_runSet_24 : decode cX5_runSet 24 = .ok (.iconst 1, 1) := by decide +kernel
theorem dX5_runSet_25 : decode cX5_runSet 25 = .ok (.goto 4, 3) := by decide +kernel
theorem dX5_runSet_28 : decode cX5_runSet 28 = .ok (.iconst 0, 1) := by decide +kernel
theorem dX5_runSet_29 : decode cX5_runSet 29 = .ok (.ireturn, 1) := by decide +kernel
set_option maxRecDepth 20000 in
theorem ggX5_command_X5_runDays : GoodIn wsX5_command wsX5_runDays := goodIn_r _ [7, 2, 8, 9, 6, 10, 11, 12, 13, 14, 15, 16, 17, 18, 19, 20, 21, 22, 23, 24, 25, 26, 27, 28, 29, 30, 31, 32, 33, 34, 35, 36, 37, 38, 39, 40, 41, 42, 43, 44, 45, 46, 47, 48, 49, 50, 51, 52, 53, 54, 55, 56, 57, 58, 59, 60, 61, 99, 100, 101, 102, 103, 104, 105, 106, 107, 108, 109, 110, 111] (by decide +kernel) (by decide +kernel)
set_option maxRecDepth 20000 in
theorem gX5_command_X5_runDays : GoodIn wsX5_command (wsV RX5 254 RX5 yX5_runDays wsX5_runDays) := goodIn_app (goodIn_of _ (by decide +kernel)) ggX5_command_X5_runDays
set_option maxRecDepth 20000 in
theorem ggX5_command_X5_runFence : GoodIn wsX5_command wsX5_runFence := goodIn_r _ [65, 2, 66, 67, 68, 6, 69, 17, 18, 19, 70, 71, 72, 99, 100, 101, 102, 103, 104, 105, 106, 107, 108, 109, 110, 111] (by decide +kernel) (by decide +kernel)
set_option maxRecDepth 20000 in
theorem gX5_command_X5_runFence : GoodIn wsX5_command (wsV RX5 257 RX5 yX5_runFence wsX5_runFence) := goodIn_app (goodIn_of _ (by decide +kernel)) ggX5_command_X5_runFence
set_option maxRecDepth 20000 in
theorem ggX5_command_X5_runShovel : GoodIn wsX5_command wsX5_runShovel := goodIn_r _ [76, 2, 67, 68, 6, 69, 17, 18, 19, 70, 71, 72, 99, 100, 101, 102, 103, 104, 105, 106, 107, 108, 109, 110, 111] (by decide +kernel) (by decide +kernel)
set_option maxRecDepth 20000 in
theorem gX5_command_X5_runShovel : GoodIn wsX5_command (wsV RX5 260 RX5 yX5_runShovel wsX5_runShovel) := goodIn_app (goodIn_of _ (by decide +kernel)) ggX5_command_X5_runShovel
set_option maxRecDepth 20000 in
theorem ggX5_command_X5_runSet : GoodIn wsX5_command wsX5_runSet := goodIn_r _ [80, 2, 81, 82, 6, 83, 11, 84, 85, 17, 18, 19, 70, 71, 72, 99, 100, 101, 102, 103, 104, 105, 106, 107, 108, 109, 110, 111] (by decide +kernel) (by decide +kernel)
set_option maxRecDepth 20000 in
theorem gX5_command_X5_runSet : GoodIn wsX5_command (wsV RX5 263 RX5 yX5_runSet wsX5_runSet) := goodIn_app (goodIn_of _ (by decide +kernel)) ggX5_command_X5_runSet
set_option maxRecDepth 20000 in
theorem ggX5_command_X5_isSite : GoodIn wsX5_command wsX5_isSite := goodIn_r _ [69, 17, 18, 6, 19] (by decide +kernel) (by decide +kernel)
set_option maxRecDepth 20000 in
theorem gX5_command_X5_isSite : GoodIn wsX5_command (va_wsS RX5 166 yX5_isSite wsX5_isSite) := goodIn_app (goodIn_of _ (by decide +kernel)) ggX5_command_X5_isSite
set_option maxRecDepth 20000 in
theorem ggX5_command_X5_isCell : GoodIn wsX5_command wsX5_isCell := goodIn_r _ [88, 89, 17, 18, 6, 19] (by decide +kernel) (by decide +kernel)
set_option maxRecDepth 20000 in
theorem gX5_command_X5_isCell : GoodIn wsX5_command (va_wsS RX5 218 yX5_isCell wsX5_isCell) := goodIn_app (goodIn_of _ (by decide +kernel)) ggX5_command_X5_isCell
set_option maxRecDepth 20000 in
theorem ggX5_command_X5_frozen : GoodIn wsX5_command wsX5_frozen := goodIn_r _ [43, 44, 45, 6, 46] (by decide +kernel) (by decide +kernel)
set_option maxRecDepth 20000 in
theorem gX5_command_X5_frozen : GoodIn wsX5_command (va_wsS RX5 60 yX5_frozen wsX5_frozen) := goodIn_app (goodIn_of _ (by decide +kernel)) ggX5_command_X5_frozen
set_option maxRecDepth 20000 in
theorem ggX5_command_X5_cells : GoodIn wsX5_command wsX5_cells := goodIn_r _ [61, 41, 42, 6, 43, 44, 45, 46] (by decide +kernel) (by decide +kernel)
set_option maxRecDepth 20000 in
theorem gX5_command_X5_cells : GoodIn wsX5_command (va_wsS RX5 89 yX5_cells wsX5_cells) := goodIn_app (goodIn_of _ (by decide +kernel)) ggX5_command_X5_cells
set_option maxRecDepth 20000 in
theorem ggX5_command_X5_countLayers : GoodIn wsX5_command wsX5_countLayers := goodIn_r _ [92, 93, 94, 6, 95, 41, 42, 43, 44, 45, 46] (by decide +kernel) (by decide +kernel)
set_option maxRecDepth 20000 in
theorem gX5_command_X5_countLayers : GoodIn wsX5_command (va_wsS RX5 112 yX5_countLayers wsX5_countLayers) := goodIn_app (goodIn_of _ (by decide +kernel)) ggX5_command_X5_countLayers
set_option maxRecDepth 20000 in
theorem ggX5_command_X5_isPipe : GoodIn wsX5_command wsX5_isPipe := goodIn_r _ [98, 17, 18, 6, 19] (by decide +kernel) (by decide +kernel)
set_option maxRecDepth 20000 in
theorem gX5_command_X5_isPipe : GoodIn wsX5_command (va_wsS RX5 234 yX5_isPipe wsX5_isPipe) := goodIn_app (goodIn_of _ (by decide +kernel)) ggX5_command_X5_isPipe
theorem dX5_command_0 : decode cX5_command 0 = .ok (.iload_n 1, 1) := by decide +kernel
theorem dX5_command_1 : decode cX5_command 1 = .ok (.sipush 10000, 3) := by decide +kernel
theorem dX5_command_4 : decode cX5_command 4 = .ok (.idiv, 1) := by decide +kernel
theorem dX5_command_5 : decode cX5_command 5 = .ok (.bipush 10, 2) := by decide +kernel
theorem dX5_command_7 : decode cX5_command 7 = .ok (.irem, 1) := by decide +kernel
theorem dX5_command_8 : decode cX5_command 8 = .ok (.istore_n 2, 1) := by decide +kernel
theorem dX5_command_9 : decode cX5_command 9 = .ok (.iload_n 1, 1) := by decide +kernel
theorem dX5_command_10 : decode cX5_command 10 = .ok (.sipush 1000, 3) := by decide +kernel
theorem dX5_command_13 : decode cX5_command 13 = .ok (.idiv, 1) := by decide +kernel
theorem dX5_command_14 : decode cX5_command 14 = .ok (.bipush 100, 2) := by decide +kernel
theorem dX5_command_16 : decode cX5_command 16 = .ok (.irem, 1) := by decide +kernel
theorem dX5_command_17 : decode cX5_command 17 = .ok (.istore_n 3, 1) := by decide +kernel
theorem dX5_command_18 : decode cX5_command 18 = .ok (.iload_n 1, 1) := by decide +kernel
theorem dX5_command_19 : decode cX5_command 19 = .ok (.bipush 10, 2) := by decide +kernel
theorem dX5_command_21 : decode cX5_command 21 = .ok (.idiv, 1) := by decide +kernel
theorem dX5_command_22 : decode cX5_command 22 = .ok (.bipush 100, 2) := by decide +kernel
theorem dX5_command_24 : decode cX5_command 24 = .ok (.irem, 1) := by decide +kernel
theorem dX5_command_25 : decode cX5_command 25 = .ok (.istore 4, 2) := by decide +kernel
theorem dX5_command_27 : decode cX5_command 27 = .ok (.iload_n 1, 1) := by decide +kernel
theorem dX5_command_28 : decode cX5_command 28 = .ok (.sipush 1000, 3) := by decide +kernel
theorem dX5_command_31 : decode cX5_command 31 = .ok (.idiv, 1) := by decide +kernel
theorem dX5_command_32 : decode cX5_command 32 = .ok (.bipush 10, 2) := by decide +kernel
theorem dX5_command_34 : decode cX5_command 34 = .ok (.irem, 1) := by decide +kernel
theorem dX5_command_35 : decode cX5_command 35 = .ok (.istore 5, 2) := by decide +kernel
theorem dX5_command_37 : decode cX5_command 37 = .ok (.iload_n 1, 1) := by decide +kernel
theorem dX5_command_38 : decode cX5_command 38 = .ok (.bipush 10, 2) := by decide +kernel
theorem dX5_command_40 : decode cX5_command 40 = .ok (.irem, 1) := by decide +kernel
theorem dX5_command_41 : decode cX5_command 41 = .ok (.istore 6, 2) := by decide +kernel
theorem dX5_command_43 : decode cX5_command 43 = .ok (.iload_n 1, 1) := by decide +kernel
theorem dX5_command_44 : decode cX5_command 44 = .ok (.sipush 10000, 3) := by decide +kernel
theorem dX5_command_47 : decode cX5_command 47 = .ok (.irem, 1) := by decide +kernel
theorem dX5_command_48 : decode cX5_command 48 = .ok (.istore 7, 2) := by decide +kernel
theorem dX5_command_50 : decode cX5_command 50 = .ok (.iload_n 1, 1) := by decide +kernel
theorem dX5_command_51 : decode cX5_command 51 = .ok (.ldc 253, 2) := by decide +kernel
theorem dX5_command_53 : decode cX5_command 53 = .ok (.idiv, 1) := by decide +kernel
theorem dX5_command_54 : decode cX5_command 54 = .ok (.tableswitch 332 1 9 #[50, 61, 83, 109, 128, 154, 214, 251, 288], 50) := by decide +kernel
theorem dX5_command_104 : decode cX5_command 104 = .ok (.aload_n 0, 1) := by decide +kernel
theorem dX5_command_105 : decode cX5_command 105 = .ok (.iload_n 3, 1) := by decide +kernel
theorem dX5_command_106 : decode cX5_command 106 = .ok (.ineg, 1) := by decide +kernel
theorem dX5_command_107 : decode cX5_command 107 = .ok (.iload 4, 2) := by decide +kernel
theorem dX5_command_109 : decode cX5_command 109 = .ok (.iload 6, 2) := by decide +kernel
theorem dX5_command_111 : decode cX5_command 111 = .ok (.invokevirtual 254, 3) := by decide +kernel
theorem dX5_command_114 : decode cX5_command 114 = .ok (.ireturn, 1) := by decide +kernel
theorem dX5_command_115 : decode cX5_command 115 = .ok (.iload 4, 2) := by decide +kernel
theorem dX5_command_117 : decode cX5_command 117 = .ok (.ifCond .ne 18, 3) := by decide +kernel
theorem dX5_command_120 : decode cX5_command 120 = .ok (.aload_n 0, 1) := by decide +kernel
theorem dX5_command_121 : decode cX5_command 121 = .ok (.iload_n 3, 1) := by decide +kernel
theorem dX5_command_122 : decode cX5_command 122 = .ok (.iconst 0, 1) := by decide +kernel
theorem dX5_command_123 : decode cX5_command 123 = .ok (.iload 6, 2) := by decide +kernel
theorem dX5_command_125 : decode cX5_command 125 = .ok (.invokevirtual 254, 3) := by decide +kernel
theorem dX5_command_128 : decode cX5_command 128 = .ok (.ifCond .eq 7, 3) := by decide +kernel
theorem dX5_command_131 : decode cX5_command 131 = .ok (.iconst 1, 1) := by decide +kernel
theorem dX5_command_132 : decode cX5_command 132 = .ok (.goto 4, 3) := by decide +kernel
theorem dX5_command_135 : decode cX5_command 135 = .ok (.iconst 0, 1) := by decide +kernel
theorem dX5_command_136 : decode cX5_command 136 = .ok (.ireturn, 1) := by decide +kernel
theorem dX5_command_137 : decode cX5_command 137 = .ok (.iload 5, 2) := by decide +kernel
theorem dX5_command_139 : decode cX5_command 139 = .ok (.ifCond .ne 22, 3) := by decide +kernel
theorem dX5_command_142 : decode cX5_command 142 = .ok (.iload 6, 2) := by decide +kernel
theorem dX5_command_144 : decode cX5_command 144 = .ok (.ifCond .ne 17, 3) := by decide +kernel
theorem dX5_command_147 : decode cX5_command 147 = .ok (.aload_n 0, 1) := by decide +kernel
theorem dX5_command_148 : decode cX5_command 148 = .ok (.iload_n 2, 1) := by decide +kernel
theorem dX5_command_149 : decode cX5_command 149 = .ok (.iload 4, 2) := by decide +kernel
theorem dX5_command_151 : decode cX5_command 151 = .ok (.invokevirtual 257, 3) := by decide +kernel
theorem dX5_command_154 : decode cX5_command 154 = .ok (.ifCond .eq 7, 3) := by decide +kernel
theorem dX5_command_157 : decode cX5_command 157 = .ok (.iconst 1, 1) := by decide +kernel
theorem dX5_command_158 : decode cX5_command 158 = .ok (.goto 4, 3) := by decide +kernel
theorem dX5_command_161 : decode cX5_command 161 = .ok (.iconst 0, 1) := by decide +kernel
theorem dX5_command_162 : decode cX5_command 162 = .ok (.ireturn, 1) := by decide +kernel
theorem dX5_command_163 : decode cX5_command 163 = .ok (.iload 7, 2) := by decide +kernel
theorem dX5_command_165 : decode cX5_command 165 = .ok (.ifCond .ne 15, 3) := by decide +kernel
theorem dX5_command_168 : decode cX5_command 168 = .ok (.aload_n 0, 1) := by decide +kernel
theorem dX5_command_169 : decode cX5_command 169 = .ok (.iload_n 2, 1) := by decide +kernel
theorem dX5_command_170 : decode cX5_command 170 = .ok (.invokevirtual 260, 3) := by decide +kernel
theorem dX5_command_173 : decode cX5_command 173 = .ok (.ifCond .eq 7, 3) := by decide +kernel
theorem dX5_command_176 : decode cX5_command 176 = .ok (.iconst 1, 1) := by decide +kernel
theorem dX5_command_177 : decode cX5_command 177 = .ok (.goto 4, 3) := by decide +kernel
theorem dX5_command_180 : decode cX5_command 180 = .ok (.iconst 0, 1) := by decide +kernel
theorem dX5_command_181 : decode cX5_command 181 = .ok (.ireturn, 1) := by decide +kernel
theorem dX5_command_182 : decode cX5_command 182 = .ok (.iload 5, 2) := by decide +kernel
theorem dX5_command_184 : decode cX5_command 184 = .ok (.ifCond .ne 22, 3) := by decide +kernel
theorem dX5_command_187 : decode cX5_command 187 = .ok (.iload 6, 2) := by decide +kernel
theorem dX5_command_189 : decode cX5_command 189 = .ok (.ifCond .ne 17, 3) := by decide +kernel
theorem dX5_command_192 : decode cX5_command 192 = .ok (.aload_n 0, 1) := by decide +kernel
theorem dX5_command_193 : decode cX5_command 193 = .ok (.iload_n 2, 1) := by decide +kernel
theorem dX5_command_194 : decode cX5_command 194 = .ok (.iload 4, 2) := by decide +kernel
theorem dX5_command_196 : decode cX5_command 196 = .ok (.invokevirtual 263, 3) := by decide +kernel
theorem dX5_command_199 : decode cX5_command 199 = .ok (.ifCond .eq 7, 3) := by decide +kernel
theorem dX5_command_202 : decode cX5_command 202 = .ok (.iconst 1, 1) := by decide +kernel
theorem dX5_command_203 : decode cX5_command 203 = .ok (.goto 4, 3) := by decide +kernel
theorem dX5_command_206 : decode cX5_command 206 = .ok (.iconst 0, 1) := by decide +kernel
theorem dX5_command_207 : decode cX5_command 207 = .ok (.ireturn, 1) := by decide +kernel
theorem dX5_command_208 : decode cX5_command 208 = .ok (.iload 5, 2) := by decide +kernel
theorem dX5_command_210 : decode cX5_command 210 = .ok (.ifCond .ne 56, 3) := by decide +kernel
theorem dX5_command_213 : decode cX5_command 213 = .ok (.iload 6, 2) := by decide +kernel
theorem dX5_command_215 : decode cX5_command 215 = .ok (.iconst 2, 1) := by decide +kernel
theorem dX5_command_216 : decode cX5_command 216 = .ok (.if_icmp .ge 50, 3) := by decide +kernel
theorem dX5_command_219 : decode cX5_command 219 = .ok (.aload_n 0, 1) := by decide +kernel
theorem dX5_command_220 : decode cX5_command 220 = .ok (.getfield 13, 3) := by decide +kernel
theorem dX5_command_223 : decode cX5_command 223 = .ok (.iload_n 2, 1) := by decide +kernel
theorem dX5_command_224 : decode cX5_command 224 = .ok (.invokestatic 166, 3) := by decide +kernel
theorem dX5_command_227 : decode cX5_command 227 = .ok (.ifCond .eq 39, 3) := by decide +kernel
theorem dX5_command_230 : decode cX5_command 230 = .ok (.iload 4, 2) := by decide +kernel
theorem dX5_command_232 : decode cX5_command 232 = .ok (.invokestatic 218, 3) := by decide +kernel
theorem dX5_command_235 : decode cX5_command 235 = .ok (.ifCond .eq 31, 3) := by decide +kernel
theorem dX5_command_238 : decode cX5_command 238 = .ok (.aload_n 0, 1) := by decide +kernel
theorem dX5_command_239 : decode cX5_command 239 = .ok (.getfield 13, 3) := by decide +kernel
theorem dX5_command_242 : decode cX5_command 242 = .ok (.iload_n 2, 1) := by decide +kernel
theorem dX5_command_243 : decode cX5_command 243 = .ok (.iload 4, 2) := by decide +kernel
theorem dX5_command_245 : decode cX5_command 245 = .ok (.invokestatic 60, 3) := by decide +kernel
theorem dX5_command_248 : decode cX5_command 248 = .ok (.iload 6, 2) := by decide +kernel
theorem dX5_command_250 : decode cX5_command 250 = .ok (.iconst 1, 1) := by decide +kernel
theorem dX5_command_251 : decode cX5_command 251 = .ok (.if_icmp .ne 7, 3) := by decide +kernel
theorem dX5_command_254 : decode cX5_command 254 = .ok (.iconst 1, 1) := by decide +kernel
theorem dX5_command_255 : decode cX5_command 255 = .ok (.goto 4, 3) := by decide +kernel
theorem dX5_command_258 : decode cX5_command 258 = .ok (.iconst 0, 1) := by decide +kernel
theorem dX5_command_259 : decode cX5_command 259 = .ok (.if_icmp .ne 7, 3) := by decide +kernel
theorem dX5_command_262 : decode cX5_command 262 = .ok (.iconst 1, 1) := by decide +kernel
theorem dX5_command_263 : decode cX5_command 263 = .ok (.goto 4, 3) := by decide +kernel
theorem dX5_command_266 : decode cX5_command 266 = .ok (.iconst 0, 1) := by decide +kernel
theorem dX5_command_267 : decode cX5_command 267 = .ok (.ireturn, 1) := by decide +kernel
theorem dX5_command_268 : decode cX5_command 268 = .ok (.iload 7, 2) := by decide +kernel
theorem dX5_command_270 : decode cX5_command 270 = .ok (.bipush 100, 2) := by decide +kernel
theorem dX5_command_272 : decode cX5_command 272 = .ok (.if_icmp .ge 31, 3) := by decide +kernel
theorem dX5_command_275 : decode cX5_command 275 = .ok (.aload_n 0, 1) := by decide +kernel
theorem dX5_command_276 : decode cX5_command 276 = .ok (.getfield 13, 3) := by decide +kernel
theorem dX5_command_279 : decode cX5_command 279 = .ok (.iload_n 2, 1) := by decide +kernel
theorem dX5_command_280 : decode cX5_command 280 = .ok (.invokestatic 166, 3) := by decide +kernel
theorem dX5_command_283 : decode cX5_command 283 = .ok (.ifCond .eq 20, 3) := by decide +kernel
theorem dX5_command_286 : decode cX5_command 286 = .ok (.aload_n 0, 1) := by decide +kernel
theorem dX5_command_287 : decode cX5_command 287 = .ok (.getfield 13, 3) := by decide +kernel
theorem dX5_command_290 : decode cX5_command 290 = .ok (.iload_n 2, 1) := by decide +kernel
theorem dX5_command_291 : decode cX5_command 291 = .ok (.invokestatic 89, 3) := by decide +kernel
theorem dX5_command_294 : decode cX5_command 294 = .ok (.iload 7, 2) := by decide +kernel
theorem dX5_command_296 : decode cX5_command 296 = .ok (.if_icmp .lt 7, 3) := by decide +kernel
theorem dX5_command_299 : decode cX5_command 299 = .ok (.iconst 1, 1) := by decide +kernel
theorem dX5_command_300 : decode cX5_command 300 = .ok (.goto 4, 3) := by decide +kernel
theorem dX5_command_303 : decode cX5_command 303 = .ok (.iconst 0, 1) := by decide +kernel
theorem dX5_command_304 : decode cX5_command 304 = .ok (.ireturn, 1) := by decide +kernel
theorem dX5_command_305 : decode cX5_command 305 = .ok (.iload 7, 2) := by decide +kernel
theorem dX5_command_307 : decode cX5_command 307 = .ok (.bipush 10, 2) := by decide +kernel
theorem dX5_command_309 : decode cX5_command 309 = .ok (.if_icmp .ge 31, 3) := by decide +kernel
theorem dX5_command_312 : decode cX5_command 312 = .ok (.aload_n 0, 1) := by decide +kernel
theorem dX5_command_313 : decode cX5_command 313 = .ok (.getfield 13, 3) := by decide +kernel
theorem dX5_command_316 : decode cX5_command 316 = .ok (.iload_n 2, 1) := by decide +kernel
theorem dX5_command_317 : decode cX5_command 317 = .ok (.invokestatic 166, 3) := by decide +kernel
theorem dX5_command_320 : decode cX5_command 320 = .ok (.ifCond .eq 20, 3) := by decide +kernel
theorem dX5_command_323 : decode cX5_command 323 = .ok (.aload_n 0, 1) := by decide +kernel
theorem dX5_command_324 : decode cX5_command 324 = .ok (.getfield 13, 3) := by decide +kernel
theorem dX5_command_327 : decode cX5_command 327 = .ok (.iload_n 2, 1) := by decide +kernel
theorem dX5_command_328 : decode cX5_command 328 = .ok (.invokestatic 112, 3) := by decide +kernel
theorem dX5_command_331 : decode cX5_command 331 = .ok (.iload 7, 2) := by decide +kernel
theorem dX5_command_333 : decode cX5_command 333 = .ok (.if_icmp .ne 7, 3) := by decide +kernel
theorem dX5_command_336 : decode cX5_command 336 = .ok (.iconst 1, 1) := by decide +kernel
theorem dX5_command_337 : decode cX5_command 337 = .ok (.goto 4, 3) := by decide +kernel
theorem dX5_command_340 : decode cX5_command 340 = .ok (.iconst 0, 1) := by decide +kernel
theorem dX5_command_341 : decode cX5_command 341 = .ok (.ireturn, 1) := by decide +kernel
theorem dX5_command_342 : decode cX5_command 342 = .ok (.iload 7, 2) := by decide +kernel
theorem dX5_command_344 : decode cX5_command 344 = .ok (.sipush 1000, 3) := by decide +kernel
theorem dX5_command_347 : decode cX5_command 347 = .ok (.if_icmp .ge 37, 3) := by decide +kernel
theorem dX5_command_350 : decode cX5_command 350 = .ok (.aload_n 0, 1) := by decide +kernel
theorem dX5_command_351 : decode cX5_command 351 = .ok (.getfield 13, 3) := by decide +kernel
theorem dX5_command_354 : decode cX5_command 354 = .ok (.iload_n 2, 1) := by decide +kernel
theorem dX5_command_355 : decode cX5_command 355 = .ok (.invokestatic 234, 3) := by decide +kernel
theorem dX5_command_358 : decode cX5_command 358 = .ok (.ifCond .eq 26, 3) := by decide +kernel
theorem dX5_command_361 : decode cX5_command 361 = .ok (.aload_n 0, 1) := by decide +kernel
theorem dX5_command_362 : decode cX5_command 362 = .ok (.getfield 13, 3) := by decide +kernel
theorem dX5_command_365 : decode cX5_command 365 = .ok (.sipush 156, 3) := by decide +kernel
theorem dX5_command_368 : decode cX5_command 368 = .ok (.iconst 5, 1) := by decide +kernel
theorem dX5_command_369 : decode cX5_command 369 = .ok (.iload_n 2, 1) := by decide +kernel
theorem dX5_command_370 : decode cX5_command 370 = .ok (.imul, 1) := by decide +kernel
theorem dX5_command_371 : decode cX5_command 371 = .ok (.iadd, 1) := by decide +kernel
theorem dX5_command_372 : decode cX5_command 372 = .ok (.iconst 2, 1) := by decide +kernel
theorem dX5_command_373 : decode cX5_command 373 = .ok (.iadd, 1) := by decide +kernel
theorem dX5_command_374 : decode cX5_command 374 = .ok (.iaload, 1) := by decide +kernel
theorem dX5_command_375 : decode cX5_command 375 = .ok (.iload 7, 2) := by decide +kernel
theorem dX5_command_377 : decode cX5_command 377 = .ok (.if_icmp .lt 7, 3) := by decide +kernel
theorem dX5_command_380 : decode cX5_command 380 = .ok (.iconst 1, 1) := by decide +kernel
theorem dX5_command_381 : decode cX5_command 381 = .ok (.goto 4, 3) := by decide +kernel
theorem dX5_command_384 : decode cX5_command 384 = .ok (.iconst 0, 1) := by decide +kernel
theorem dX5_command_385 : decode cX5_command 385 = .ok (.ireturn, 1) := by decide +kernel
theorem dX5_command_386 : decode cX5_command 386 = .ok (.iconst 0, 1) := by decide +kernel
theorem dX5_command_387 : decode cX5_command 387 = .ok (.ireturn, 1) := by decide +kernel
set_option maxRecDepth 20000 in
theorem ggX5_runScript_X5_in : GoodIn wsX5_runScript wsX5_in := goodIn_r _ [8] (by decide +kernel) (by decide +kernel)
set_option maxRecDepth 20000 in
theorem gX5_runScript_X5_in : GoodIn wsX5_runScript (va_wsS RX5 42 yX5_in wsX5_in) := goodIn_app (goodIn_of _ (by decide +kernel)) ggX5_runScript_X5_in
set_option maxRecDepth 20000 in
theorem ggX5_runScript_X5_tens : GoodIn wsX5_runScript wsX5_tens := goodIn_r _ [11, 12] (by decide +kernel) (by decide +kernel)
set_option maxRecDepth 20000 in
theorem gX5_runScript_X5_tens : GoodIn wsX5_runScript (va_wsS RX5 266 yX5_tens wsX5_tens) := goodIn_app (goodIn_of _ (by decide +kernel)) ggX5_runScript_X5_tens
set_option maxRecDepth 20000 in
theorem ggX5_runScript_X5_refused : GoodIn wsX5_runScript wsX5_refused := goodIn_r _ [16, 17, 118, 119, 120, 121, 122, 123, 124, 125, 126, 127, 128, 129, 130] (by decide +kernel) (by decide +kernel)
set_option maxRecDepth 20000 in
theorem gX5_runScript_X5_refused : GoodIn wsX5_runScript (wsV RX5 127 RX5 yX5_refused wsX5_refused) := goodIn_app (goodIn_of _ (by decide +kernel)) ggX5_runScript_X5_refused
set_option maxRecDepth 20000 in
theorem ggX5_runScript_X5_copy : GoodIn wsX5_runScript wsX5_copy := goodIn_r _ [20] (by decide +kernel) (by decide +kernel)
set_option maxRecDepth 20000 in
theorem gX5_runScript_X5_copy : GoodIn wsX5_runScript (va_wsS RX5 204 yX5_copy wsX5_copy) := goodIn_app (goodIn_of _ (by decide +kernel)) ggX5_runScript_X5_copy
set_option maxRecDepth 20000 in
theorem ggX5_runScript_X5_command : GoodIn wsX5_runScript wsX5_command := goodIn_r _ [24, 25, 3, 26, 27, 28, 7, 29, 30, 31, 32, 33, 34, 35, 36, 37, 38, 5, 6, 8, 39, 40, 41, 42, 43, 44, 45, 46, 47, 48, 49, 50, 51, 52, 53, 54, 55, 56, 57, 58, 59, 60, 61, 62, 63, 64, 65, 66, 67, 68, 69, 70, 71, 72, 73, 74, 75, 76, 77, 78, 79, 80, 81, 82, 83, 84, 85, 86, 87, 88, 89, 90, 91, 92, 93, 94, 95, 96, 97, 98, 99, 100, 101, 102, 103, 104, 105, 106, 107, 108, 109, 110, 111, 112, 113, 114, 115, 116, 117, 118, 119, 120, 121, 122, 123, 124, 125, 126, 127, 128, 129, 130] (by decide +kernel) (by decide +kernel)
set_option maxRecDepth 20000 in
theorem gX5_runScript_X5_command : GoodIn wsX5_runScript (wsV RX5 272 RX5 yX5_command wsX5_command) := goodIn_app (goodIn_of _ (by decide +kernel)) ggX5_runScript_X5_command
theorem dX5_runScript_0 : decode cX5_runScript 0 = .ok (.aload_n 0, 1) := by decide +kernel
theorem dX5_runScript_1 : decode cX5_runScript 1 = .ok (.iload_n 1, 1) := by decide +kernel
theorem dX5_runScript_2 : decode cX5_runScript 2 = .ok (.i2l, 1) := by decide +kernel
theorem dX5_runScript_3 : decode cX5_runScript 3 = .ok (.lconst 1, 1) := by decide +kernel
theorem dX5_runScript_4 : decode cX5_runScript 4 = .ok (.ldc2_w 221, 3) := by decide +kernel
theorem dX5_runScript_7 : decode cX5_runScript 7 = .ok (.invokestatic 42, 3) := by decide +kernel
theorem dX5_runScript_10 : decode cX5_runScript 10 = .ok (.ifCond .eq 24, 3) := by decide +kernel
theorem dX5_runScript_13 : decode cX5_runScript 13 = .ok (.lload_n 2, 1) := by decide +kernel
theorem dX5_runScript_14 : decode cX5_runScript 14 = .ok (.lconst 0, 1) := by decide +kernel
theorem dX5_runScript_15 : decode cX5_runScript 15 = .ok (.bipush 6, 2) := by decide +kernel
theorem dX5_runScript_17 : decode cX5_runScript 17 = .ok (.iload_n 1, 1) := by decide +kernel
theorem dX5_runScript_18 : decode cX5_runScript 18 = .ok (.imul, 1) := by decide +kernel
theorem dX5_runScript_19 : decode cX5_runScript 19 = .ok (.invokestatic 266, 3) := by decide +kernel
theorem dX5_runScript_22 : decode cX5_runScript 22 = .ok (.lconst 1, 1) := by decide +kernel
theorem dX5_runScript_23 : decode cX5_runScript 23 = .ok (.lsub, 1) := by decide +kernel
theorem dX5_runScript_24 : decode cX5_runScript 24 = .ok (.invokestatic 42, 3) := by decide +kernel
theorem dX5_runScript_27 : decode cX5_runScript 27 = .ok (.ifCond .eq 7, 3) := by decide +kernel
theorem dX5_runScript_30 : decode cX5_runScript 30 = .ok (.iconst 0, 1) := by decide +kernel
theorem dX5_runScript_31 : decode cX5_runScript 31 = .ok (.goto 4, 3) := by decide +kernel
theorem dX5_runScript_34 : decode cX5_runScript 34 = .ok (.iconst 1, 1) := by decide +kernel
theorem dX5_runScript_35 : decode cX5_runScript 35 = .ok (.invokevirtual 127, 3) := by decide +kernel
theorem dX5_runScript_38 : decode cX5_runScript 38 = .ok (.ifCond .eq 5, 3) := by decide +kernel
theorem dX5_runScript_41 : decode cX5_runScript 41 = .ok (.iconst 0, 1) := by decide +kernel
theorem dX5_runScript_42 : decode cX5_runScript 42 = .ok (.ireturn, 1) := by decide +kernel
theorem dX5_runScript_43 : decode cX5_runScript 43 = .ok (.aload_n 0, 1) := by decide +kernel
theorem dX5_runScript_44 : decode cX5_runScript 44 = .ok (.getfield 7, 3) := by decide +kernel
theorem dX5_runScript_47 : decode cX5_runScript 47 = .ok (.aload_n 0, 1) := by decide +kernel
theorem dX5_runScript_48 : decode cX5_runScript 48 = .ok (.getfield 13, 3) := by decide +kernel
theorem dX5_runScript_51 : decode cX5_runScript 51 = .ok (.invokestatic 204, 3) := by decide +kernel
theorem dX5_runScript_54 : decode cX5_runScript 54 = .ok (.iconst 0, 1) := by decide +kernel
theorem dX5_runScript_55 : decode cX5_runScript 55 = .ok (.istore 4, 2) := by decide +kernel
theorem dX5_runScript_57 : decode cX5_runScript 57 = .ok (.iload 4, 2) := by decide +kernel
theorem dX5_runScript_59 : decode cX5_runScript 59 = .ok (.iload_n 1, 1) := by decide +kernel
theorem dX5_runScript_60 : decode cX5_runScript 60 = .ok (.if_icmp .ge 38, 3) := by decide +kernel
theorem dX5_runScript_63 : decode cX5_runScript 63 = .ok (.aload_n 0, 1) := by decide +kernel
theorem dX5_runScript_64 : decode cX5_runScript 64 = .ok (.lload_n 2, 1) := by decide +kernel
theorem dX5_runScript_65 : decode cX5_runScript 65 = .ok (.bipush 6, 2) := by decide +kernel
theorem dX5_runScript_67 : decode cX5_runScript 67 = .ok (.iload_n 1, 1) := by decide +kernel
theorem dX5_runScript_68 : decode cX5_runScript 68 = .ok (.iconst 1, 1) := by decide +kernel
theorem dX5_runScript_69 : decode cX5_runScript 69 = .ok (.isub, 1) := by decide +kernel
theorem dX5_runScript_70 : decode cX5_runScript 70 = .ok (.iload 4, 2) := by decide +kernel
theorem dX5_runScript_72 : decode cX5_runScript 72 = .ok (.isub, 1) := by decide +kernel
theorem dX5_runScript_73 : decode cX5_runScript 73 = .ok (.imul, 1) := by decide +kernel
