theorem dX5_border_49 : decode cX5_border 49 = .ok (.getfield 54, 3) := by decide +kernel
theorem dX5_border_52 : decode cX5_border 52 = .ok (.iload_n 1, 1) := by decide +kernel
theorem dX5_border_53 : decode cX5_border 53 = .ok (.fload 4, 2) := by decide +kernel
theorem dX5_border_55 : decode cX5_border 55 = .ok (.invokevirtual 178, 3) := by decide +kernel
theorem dX5_border_58 : decode cX5_border 58 = .ok (.freturn, 1) := by decide +kernel
set_option maxRecDepth 20000 in
theorem ggX5_number_X4_setting : GoodIn wsX5_number wsX4_setting := goodIn_r _ [6, 7, 14, 15, 16, 17, 18, 19, 20, 21, 22, 23, 24] (by decide +kernel) (by decide +kernel)
set_option maxRecDepth 20000 in
theorem gX5_number_X4_setting : GoodIn wsX5_number (wsV RX5 77 RX4 yX4_setting wsX4_setting) := goodIn_app (goodIn_of _ (by decide +kernel)) ggX5_number_X4_setting
theorem dX5_number_0 : decode cX5_number 0 = .ok (.aload_n 0, 1) := by decide +kernel
theorem dX5_number_1 : decode cX5_number 1 = .ok (.getfield 10, 3) := by decide +kernel
theorem dX5_number_4 : decode cX5_number 4 = .ok (.iload_n 1, 1) := by decide +kernel
theorem dX5_number_5 : decode cX5_number 5 = .ok (.invokevirtual 77, 3) := by decide +kernel
theorem dX5_number_8 : decode cX5_number 8 = .ok (.ireturn, 1) := by decide +kernel
set_option maxRecDepth 20000 in
theorem ggX5_wouldChoose_X5_isSpeed : GoodIn wsX5_wouldChoose wsX5_isSpeed := goodIn_r _ [6, 7] (by decide +kernel) (by decide +kernel)
set_option maxRecDepth 20000 in
theorem gX5_wouldChoose_X5_isSpeed : GoodIn wsX5_wouldChoose (va_wsS RX5 46 yX5_isSpeed wsX5_isSpeed) := goodIn_app (goodIn_of _ (by decide +kernel)) ggX5_wouldChoose_X5_isSpeed
set_option maxRecDepth 20000 in
theorem ggX5_wouldChoose_X5_isPedal : GoodIn wsX5_wouldChoose wsX5_isPedal := goodIn_r _ [10, 11] (by decide +kernel) (by decide +kernel)
set_option maxRecDepth 20000 in
theorem gX5_wouldChoose_X5_isPedal : GoodIn wsX5_wouldChoose (va_wsS RX5 92 yX5_isPedal wsX5_isPedal) := goodIn_app (goodIn_of _ (by decide +kernel)) ggX5_wouldChoose_X5_isPedal
set_option maxRecDepth 20000 in
theorem ggX5_wouldChoose_X4_copyFrom : GoodIn wsX5_wouldChoose wsX4_copyFrom := goodIn_r _ [16, 17, 18, 19, 20, 21, 22, 23, 24, 25, 26, 27, 28, 29, 30, 31, 32, 33, 34, 35, 36, 37, 38, 39, 40, 41, 42, 43, 44, 45, 46, 47, 148, 149, 150, 151, 152, 153, 154, 155, 156, 157, 158, 159, 160, 161, 162] (by decide +kernel) (by decide +kernel)
set_option maxRecDepth 20000 in
theorem gX5_wouldChoose_X4_copyFrom : GoodIn wsX5_wouldChoose (wsV RX5 146 RX4 yX4_copyFrom wsX4_copyFrom) := goodIn_app (goodIn_of _ (by decide +kernel)) ggX5_wouldChoose_X4_copyFrom
set_option maxRecDepth 20000 in
theorem ggX5_wouldChoose_X5_floatOf : GoodIn wsX5_wouldChoose wsX5_floatOf := goodIn_r _ [50, 51, 52, 53] (by decide +kernel) (by decide +kernel)
set_option maxRecDepth 20000 in
theorem gX5_wouldChoose_X5_floatOf : GoodIn wsX5_wouldChoose (va_wsS RX5 50 yX5_floatOf wsX5_floatOf) := goodIn_app (goodIn_of _ (by decide +kernel)) ggX5_wouldChoose_X5_floatOf
set_option maxRecDepth 20000 in
theorem ggX5_wouldChoose_X4_passTick : GoodIn wsX5_wouldChoose wsX4_passTick := goodIn_r _ [57, 28, 30, 31, 58, 59, 60, 15, 61, 27, 26, 25, 62, 63, 64, 65, 66, 67, 68, 69, 24, 70, 71, 72, 73, 17, 29, 74, 75, 76, 35, 77, 78, 79, 80, 81, 37, 82, 83, 84, 85, 86, 87, 88, 89, 90, 91, 92, 93, 94, 95, 96, 97, 98, 99, 100, 101, 102, 103, 104, 105, 106, 107, 108, 109, 110, 18, 111, 112, 113, 114, 115, 116, 117, 42, 118, 47, 46, 44, 119, 120, 121, 122, 123, 124, 125, 126, 19, 127, 128, 129, 130, 131, 132, 133, 134, 135, 136, 137, 138, 139, 140, 141, 148, 149, 150, 151, 152, 153, 154, 155, 156, 157, 158, 159, 160, 161, 162] (by decide +kernel) (by decide +kernel)
set_option maxRecDepth 20000 in
theorem gX5_wouldChoose_X4_passTick : GoodIn wsX5_wouldChoose (wsV RX5 181 RX4 yX4_passTick wsX4_passTick) := goodIn_app (goodIn_of _ (by decide +kernel)) ggX5_wouldChoose_X4_passTick
theorem dX5_wouldChoose_0 : decode cX5_wouldChoose 0 = .ok (.iload_n 1, 1) := by decide +kernel
theorem dX5_wouldChoose_1 : decode cX5_wouldChoose 1 = .ok (.invokestatic 46, 3) := by decide +kernel
theorem dX5_wouldChoose_4 : decode cX5_wouldChoose 4 = .ok (.ifCond .eq 10, 3) := by decide +kernel
theorem dX5_wouldChoose_7 : decode cX5_wouldChoose 7 = .ok (.iload_n 2, 1) := by decide +kernel
theorem dX5_wouldChoose_8 : decode cX5_wouldChoose 8 = .ok (.invokestatic 92, 3) := by decide +kernel
theorem dX5_wouldChoose_11 : decode cX5_wouldChoose 11 = .ok (.ifCond .ne 6, 3) := by decide +kernel
theorem dX5_wouldChoose_14 : decode cX5_wouldChoose 14 = .ok (.bipush (-2), 2) := by decide +kernel
theorem dX5_wouldChoose_16 : decode cX5_wouldChoose 16 = .ok (.ireturn, 1) := by decide +kernel
theorem dX5_wouldChoose_17 : decode cX5_wouldChoose 17 = .ok (.aload_n 0, 1) := by decide +kernel
theorem dX5_wouldChoose_18 : decode cX5_wouldChoose 18 = .ok (.getfield 19, 3) := by decide +kernel
theorem dX5_wouldChoose_21 : decode cX5_wouldChoose 21 = .ok (.aload_n 0, 1) := by decide +kernel
theorem dX5_wouldChoose_22 : decode cX5_wouldChoose 22 = .ok (.getfield 10, 3) := by decide +kernel
theorem dX5_wouldChoose_25 : decode cX5_wouldChoose 25 = .ok (.invokevirtual 146, 3) := by decide +kernel
theorem dX5_wouldChoose_28 : decode cX5_wouldChoose 28 = .ok (.aload_n 0, 1) := by decide +kernel
theorem dX5_wouldChoose_29 : decode cX5_wouldChoose 29 = .ok (.getfield 19, 3) := by decide +kernel
theorem dX5_wouldChoose_32 : decode cX5_wouldChoose 32 = .ok (.iload_n 1, 1) := by decide +kernel
theorem dX5_wouldChoose_33 : decode cX5_wouldChoose 33 = .ok (.invokestatic 50, 3) := by decide +kernel
theorem dX5_wouldChoose_36 : decode cX5_wouldChoose 36 = .ok (.iload_n 2, 1) := by decide +kernel
theorem dX5_wouldChoose_37 : decode cX5_wouldChoose 37 = .ok (.invokestatic 50, 3) := by decide +kernel
theorem dX5_wouldChoose_40 : decode cX5_wouldChoose 40 = .ok (.invokevirtual 181, 3) := by decide +kernel
theorem dX5_wouldChoose_43 : decode cX5_wouldChoose 43 = .ok (.ifCond .eq 13, 3) := by decide +kernel
theorem dX5_wouldChoose_46 : decode cX5_wouldChoose 46 = .ok (.aload_n 0, 1) := by decide +kernel
theorem dX5_wouldChoose_47 : decode cX5_wouldChoose 47 = .ok (.getfield 19, 3) := by decide +kernel
theorem dX5_wouldChoose_50 : decode cX5_wouldChoose 50 = .ok (.getfield 149, 3) := by decide +kernel
theorem dX5_wouldChoose_53 : decode cX5_wouldChoose 53 = .ok (.goto 5, 3) := by decide +kernel
theorem dX5_wouldChoose_56 : decode cX5_wouldChoose 56 = .ok (.bipush (-5), 2) := by decide +kernel
theorem dX5_wouldChoose_58 : decode cX5_wouldChoose 58 = .ok (.ireturn, 1) := by decide +kernel
set_option maxRecDepth 20000 in
theorem ggX5_settles_X5_isSpeed : GoodIn wsX5_settles wsX5_isSpeed := goodIn_r _ [6, 7] (by decide +kernel) (by decide +kernel)
set_option maxRecDepth 20000 in
theorem gX5_settles_X5_isSpeed : GoodIn wsX5_settles (va_wsS RX5 46 yX5_isSpeed wsX5_isSpeed) := goodIn_app (goodIn_of _ (by decide +kernel)) ggX5_settles_X5_isSpeed
set_option maxRecDepth 20000 in
theorem ggX5_settles_X5_isPedal : GoodIn wsX5_settles wsX5_isPedal := goodIn_r _ [10, 11] (by decide +kernel) (by decide +kernel)
set_option maxRecDepth 20000 in
theorem gX5_settles_X5_isPedal : GoodIn wsX5_settles (va_wsS RX5 92 yX5_isPedal wsX5_isPedal) := goodIn_app (goodIn_of _ (by decide +kernel)) ggX5_settles_X5_isPedal
set_option maxRecDepth 20000 in
theorem ggX5_settles_X4_copyFrom : GoodIn wsX5_settles wsX4_copyFrom := goodIn_r _ [16, 17, 18, 19, 20, 21, 22, 23, 24, 25, 26, 27, 28, 29, 30, 31, 32, 33, 34, 35, 36, 37, 38, 39, 40, 41, 42, 43, 44, 45, 46, 47, 148, 149, 150, 151, 152, 153, 154, 155, 156, 157, 158, 159, 160, 161, 162] (by decide +kernel) (by decide +kernel)
set_option maxRecDepth 20000 in
theorem gX5_settles_X4_copyFrom : GoodIn wsX5_settles (wsV RX5 146 RX4 yX4_copyFrom wsX4_copyFrom) := goodIn_app (goodIn_of _ (by decide +kernel)) ggX5_settles_X4_copyFrom
set_option maxRecDepth 20000 in
theorem ggX5_settles_X5_floatOf : GoodIn wsX5_settles wsX5_floatOf := goodIn_r _ [50, 51, 52, 53] (by decide +kernel) (by decide +kernel)
set_option maxRecDepth 20000 in
theorem gX5_settles_X5_floatOf : GoodIn wsX5_settles (va_wsS RX5 50 yX5_floatOf wsX5_floatOf) := goodIn_app (goodIn_of _ (by decide +kernel)) ggX5_settles_X5_floatOf
set_option maxRecDepth 20000 in
theorem ggX5_settles_X4_passTick : GoodIn wsX5_settles wsX4_passTick := goodIn_r _ [57, 28, 30, 31, 58, 59, 60, 15, 61, 27, 26, 25, 62, 63, 64, 65, 66, 67, 68, 69, 24, 70, 71, 72, 73, 17, 29, 74, 75, 76, 35, 77, 78, 79, 80, 81, 37, 82, 83, 84, 85, 86, 87, 88, 89, 90, 91, 92, 93, 94, 95, 96, 97, 98, 99, 100, 101, 102, 103, 104, 105, 106, 107, 108, 109, 110, 18, 111, 112, 113, 114, 115, 116, 117, 42, 118, 47, 46, 44, 119, 120, 121, 122, 123, 124, 125, 126, 19, 127, 128, 129, 130, 131, 132, 133, 134, 135, 136, 137, 138, 139, 140, 141, 148, 149, 150, 151, 152, 153, 154, 155, 156, 157, 158, 159, 160, 161, 162] (by decide +kernel) (by decide +kernel)
set_option maxRecDepth 20000 in
theorem gX5_settles_X4_passTick : GoodIn wsX5_settles (wsV RX5 181 RX4 yX4_passTick wsX4_passTick) := goodIn_app (goodIn_of _ (by decide +kernel)) ggX5_settles_X4_passTick
theorem dX5_settles_0 : decode cX5_settles 0 = .ok (.iload_n 1, 1) := by decide +kernel
theorem dX5_settles_1 : decode cX5_settles 1 = .ok (.invokestatic 46, 3) := by decide +kernel
theorem dX5_settles_4 : decode cX5_settles 4 = .ok (.ifCond .eq 10, 3) := by decide +kernel
theorem dX5_settles_7 : decode cX5_settles 7 = .ok (.iload_n 2, 1) := by decide +kernel
theorem dX5_settles_8 : decode cX5_settles 8 = .ok (.invokestatic 92, 3) := by decide +kernel
theorem dX5_settles_11 : decode cX5_settles 11 = .ok (.ifCond .ne 6, 3) := by decide +kernel
theorem dX5_settles_14 : decode cX5_settles 14 = .ok (.bipush (-2), 2) := by decide +kernel
theorem dX5_settles_16 : decode cX5_settles 16 = .ok (.ireturn, 1) := by decide +kernel
theorem dX5_settles_17 : decode cX5_settles 17 = .ok (.aload_n 0, 1) := by decide +kernel
theorem dX5_settles_18 : decode cX5_settles 18 = .ok (.getfield 19, 3) := by decide +kernel
theorem dX5_settles_21 : decode cX5_settles 21 = .ok (.aload_n 0, 1) := by decide +kernel
theorem dX5_settles_22 : decode cX5_settles 22 = .ok (.getfield 10, 3) := by decide +kernel
theorem dX5_settles_25 : decode cX5_settles 25 = .ok (.invokevirtual 146, 3) := by decide +kernel
theorem dX5_settles_28 : decode cX5_settles 28 = .ok (.iload_n 1, 1) := by decide +kernel
theorem dX5_settles_29 : decode cX5_settles 29 = .ok (.invokestatic 50, 3) := by decide +kernel
theorem dX5_settles_32 : decode cX5_settles 32 = .ok (.fstore_n 3, 1) := by decide +kernel
theorem dX5_settles_33 : decode cX5_settles 33 = .ok (.iload_n 2, 1) := by decide +kernel
theorem dX5_settles_34 : decode cX5_settles 34 = .ok (.invokestatic 50, 3) := by decide +kernel
theorem dX5_settles_37 : decode cX5_settles 37 = .ok (.fstore 4, 2) := by decide +kernel
theorem dX5_settles_39 : decode cX5_settles 39 = .ok (.iconst 0, 1) := by decide +kernel
theorem dX5_settles_40 : decode cX5_settles 40 = .ok (.istore 5, 2) := by decide +kernel
theorem dX5_settles_42 : decode cX5_settles 42 = .ok (.iconst 1, 1) := by decide +kernel
theorem dX5_settles_43 : decode cX5_settles 43 = .ok (.istore 6, 2) := by decide +kernel
theorem dX5_settles_45 : decode cX5_settles 45 = .ok (.iload 6, 2) := by decide +kernel
theorem dX5_settles_47 : decode cX5_settles 47 = .ok (.sipush 300, 3) := by decide +kernel
theorem dX5_settles_50 : decode cX5_settles 50 = .ok (.if_icmp .gt 47, 3) := by decide +kernel
theorem dX5_settles_53 : decode cX5_settles 53 = .ok (.iload 6, 2) := by decide +kernel
theorem dX5_settles_55 : decode cX5_settles 55 = .ok (.iload 5, 2) := by decide +kernel
theorem dX5_settles_57 : decode cX5_settles 57 = .ok (.bipush 100, 2) := by decide +kernel
theorem dX5_settles_59 : decode cX5_settles 59 = .ok (.iadd, 1) := by decide +kernel
theorem dX5_settles_60 : decode cX5_settles 60 = .ok (.if_icmp .gt 37, 3) := by decide +kernel
theorem dX5_settles_63 : decode cX5_settles 63 = .ok (.iload 5, 2) := by decide +kernel
theorem dX5_settles_65 : decode cX5_settles 65 = .ok (.sipush 200, 3) := by decide +kernel
theorem dX5_settles_68 : decode cX5_settles 68 = .ok (.if_icmp .le 6, 3) := by decide +kernel
theorem dX5_settles_71 : decode cX5_settles 71 = .ok (.goto 26, 3) := by decide +kernel
theorem dX5_settles_74 : decode cX5_settles 74 = .ok (.aload_n 0, 1) := by decide +kernel
theorem dX5_settles_75 : decode cX5_settles 75 = .ok (.getfield 19, 3) := by decide +kernel
theorem dX5_settles_78 : decode cX5_settles 78 = .ok (.fload_n 3, 1) := by decide +kernel
theorem dX5_settles_79 : decode cX5_settles 79 = .ok (.fload 4, 2) := by decide +kernel
theorem dX5_settles_81 : decode cX5_settles 81 = .ok (.invokevirtual 181, 3) := by decide +kernel
theorem dX5_settles_84 : decode cX5_settles 84 = .ok (.ifCond .eq 7, 3) := by decide +kernel
theorem dX5_settles_87 : decode cX5_settles 87 = .ok (.iload 6, 2) := by decide +kernel
theorem dX5_settles_89 : decode cX5_settles 89 = .ok (.istore 5, 2) := by decide +kernel
theorem dX5_settles_91 : decode cX5_settles 91 = .ok (.iinc 6 1, 3) := by decide +kernel
theorem dX5_settles_94 : decode cX5_settles 94 = .ok (.goto (-49), 3) := by decide +kernel
theorem dX5_settles_97 : decode cX5_settles 97 = .ok (.iload 5, 2) := by decide +kernel
theorem dX5_settles_99 : decode cX5_settles 99 = .ok (.sipush 200, 3) := by decide +kernel
theorem dX5_settles_102 : decode cX5_settles 102 = .ok (.if_icmp .le 8, 3) := by decide +kernel
theorem dX5_settles_105 : decode cX5_settles 105 = .ok (.bipush (-5), 2) := by decide +kernel
theorem dX5_settles_107 : decode cX5_settles 107 = .ok (.goto 5, 3) := by decide +kernel
theorem dX5_settles_110 : decode cX5_settles 110 = .ok (.iload 5, 2) := by decide +kernel
theorem dX5_settles_112 : decode cX5_settles 112 = .ok (.ireturn, 1) := by decide +kernel
set_option maxRecDepth 20000 in
theorem ggX5_change_X2_told : GoodIn wsX5_change wsX2_told := goodIn_r _ [6, 7, 8, 9, 27, 28, 29] (by decide +kernel) (by decide +kernel)
set_option maxRecDepth 20000 in
theorem gX5_change_X2_told : GoodIn wsX5_change (wsV RX5 191 RX2 yX2_told wsX2_told) := goodIn_app (goodIn_of _ (by decide +kernel)) ggX5_change_X2_told
theorem dX5_change_0 : decode cX5_change 0 = .ok (.iload_n 1, 1) := by decide +kernel
theorem dX5_change_1 : decode cX5_change 1 = .ok (.ifCond .lt 12, 3) := by decide +kernel
theorem dX5_change_4 : decode cX5_change 4 = .ok (.iload_n 2, 1) := by decide +kernel
theorem dX5_change_5 : decode cX5_change 5 = .ok (.ifCond .lt 8, 3) := by decide +kernel
theorem dX5_change_8 : decode cX5_change 8 = .ok (.iload_n 2, 1) := by decide +kernel
theorem dX5_change_9 : decode cX5_change 9 = .ok (.iconst 5, 1) := by decide +kernel
theorem dX5_change_10 : decode cX5_change 10 = .ok (.if_icmp .lt 8, 3) := by decide +kernel
theorem dX5_change_13 : decode cX5_change 13 = .ok (.bipush (-2), 2) := by decide +kernel
theorem dX5_change_15 : decode cX5_change 15 = .ok (.goto 15, 3) := by decide +kernel
theorem dX5_change_18 : decode cX5_change 18 = .ok (.aload_n 0, 1) := by decide +kernel
theorem dX5_change_19 : decode cX5_change 19 = .ok (.getfield 10, 3) := by decide +kernel
theorem dX5_change_22 : decode cX5_change 22 = .ok (.getfield 187, 3) := by decide +kernel
theorem dX5_change_25 : decode cX5_change 25 = .ok (.iload_n 1, 1) := by decide +kernel
theorem dX5_change_26 : decode cX5_change 26 = .ok (.iload_n 2, 1) := by decide +kernel
theorem dX5_change_27 : decode cX5_change 27 = .ok (.invokevirtual 191, 3) := by decide +kernel
theorem dX5_change_30 : decode cX5_change 30 = .ok (.ireturn, 1) := by decide +kernel
set_option maxRecDepth 20000 in
theorem ggX5_count_X1_size : GoodIn wsX5_count wsX1_size := goodIn_r _ [8, 9, 28, 29, 30] (by decide +kernel) (by decide +kernel)
set_option maxRecDepth 20000 in
theorem gX5_count_X1_size : GoodIn wsX5_count (wsV RX5 143 RX1 yX1_size wsX1_size) := goodIn_app (goodIn_of _ (by decide +kernel)) ggX5_count_X1_size
set_option maxRecDepth 20000 in
theorem ggX5_count_X0_length : GoodIn wsX5_count wsX0_length := goodIn_r _ [14, 15, 31, 32, 33, 34, 35, 36, 37] (by decide +kernel) (by decide +kernel)
set_option maxRecDepth 20000 in
theorem gX5_count_X0_length : GoodIn wsX5_count (wsV RX5 133 RX0 yX0_length wsX0_length) := goodIn_app (goodIn_of _ (by decide +kernel)) ggX5_count_X0_length
set_option maxRecDepth 20000 in
theorem ggX5_count_X4_counted : GoodIn wsX5_count wsX4_counted := goodIn_r _ [20, 21, 38, 39, 40, 41, 42, 43, 44, 45, 46, 47, 48] (by decide +kernel) (by decide +kernel)
set_option maxRecDepth 20000 in
theorem gX5_count_X4_counted : GoodIn wsX5_count (wsV RX5 195 RX4 yX4_counted wsX4_counted) := goodIn_app (goodIn_of _ (by decide +kernel)) ggX5_count_X4_counted
theorem dX5_count_0 : decode cX5_count 0 = .ok (.iload_n 1, 1) := by decide +kernel
theorem dX5_count_1 : decode cX5_count 1 = .ok (.bipush 13, 2) := by decide +kernel
theorem dX5_count_3 : decode cX5_count 3 = .ok (.if_icmp .ne 11, 3) := by decide +kernel
theorem dX5_count_6 : decode cX5_count 6 = .ok (.aload_n 0, 1) := by decide +kernel
theorem dX5_count_7 : decode cX5_count 7 = .ok (.getfield 25, 3) := by decide +kernel
theorem dX5_count_10 : decode cX5_count 10 = .ok (.invokevirtual 143, 3) := by decide +kernel
theorem dX5_count_13 : decode cX5_count 13 = .ok (.ireturn, 1) := by decide +kernel
theorem dX5_count_14 : decode cX5_count 14 = .ok (.iload_n 1, 1) := by decide +kernel
theorem dX5_count_15 : decode cX5_count 15 = .ok (.bipush 14, 2) := by decide +kernel
theorem dX5_count_17 : decode cX5_count 17 = .ok (.if_icmp .ne 11, 3) := by decide +kernel
theorem dX5_count_20 : decode cX5_count 20 = .ok (.aload_n 0, 1) := by decide +kernel
theorem dX5_count_21 : decode cX5_count 21 = .ok (.getfield 32, 3) := by decide +kernel
theorem dX5_count_24 : decode cX5_count 24 = .ok (.invokevirtual 133, 3) := by decide +kernel
theorem dX5_count_27 : decode cX5_count 27 = .ok (.ireturn, 1) := by decide +kernel
theorem dX5_count_28 : decode cX5_count 28 = .ok (.aload_n 0, 1) := by decide +kernel
theorem dX5_count_29 : decode cX5_count 29 = .ok (.getfield 10, 3) := by decide +kernel
theorem dX5_count_32 : decode cX5_count 32 = .ok (.iload_n 1, 1) := by decide +kernel
theorem dX5_count_33 : decode cX5_count 33 = .ok (.invokevirtual 195, 3) := by decide +kernel
theorem dX5_count_36 : decode cX5_count 36 = .ok (.ireturn, 1) := by decide +kernel
theorem dX5_isSpeed_0 : decode cX5_isSpeed 0 = .ok (.iload_n 0, 1) := by decide +kernel
theorem dX5_isSpeed_1 : decode cX5_isSpeed 1 = .ok (.ifCond .lt 13, 3) := by decide +kernel
theorem dX5_isSpeed_4 : decode cX5_isSpeed 4 = .ok (.iload_n 0, 1) := by decide +kernel
theorem dX5_isSpeed_5 : decode cX5_isSpeed 5 = .ok (.ldc 198, 2) := by decide +kernel
theorem dX5_isSpeed_7 : decode cX5_isSpeed 7 = .ok (.if_icmp .gt 7, 3) := by decide +kernel
theorem dX5_isSpeed_10 : decode cX5_isSpeed 10 = .ok (.iconst 1, 1) := by decide +kernel
theorem dX5_isSpeed_11 : decode cX5_isSpeed 11 = .ok (.goto 4, 3) := by decide +kernel
theorem dX5_isSpeed_14 : decode cX5_isSpeed 14 = .ok (.iconst 0, 1) := by decide +kernel
theorem dX5_isSpeed_15 : decode cX5_isSpeed 15 = .ok (.ireturn, 1) := by decide +kernel
theorem dX5_isPedal_0 : decode cX5_isPedal 0 = .ok (.iload_n 0, 1) := by decide +kernel
theorem dX5_isPedal_1 : decode cX5_isPedal 1 = .ok (.ifCond .lt 13, 3) := by decide +kernel
theorem dX5_isPedal_4 : decode cX5_isPedal 4 = .ok (.iload_n 0, 1) := by decide +kernel
theorem dX5_isPedal_5 : decode cX5_isPedal 5 = .ok (.ldc 199, 2) := by decide +kernel
theorem dX5_isPedal_7 : decode cX5_isPedal 7 = .ok (.if_icmp .gt 7, 3) := by decide +kernel
theorem dX5_isPedal_10 : decode cX5_isPedal 10 = .ok (.iconst 1, 1) := by decide +kernel
theorem dX5_isPedal_11 : decode cX5_isPedal 11 = .ok (.goto 4, 3) := by decide +kernel
theorem dX5_isPedal_14 : decode cX5_isPedal 14 = .ok (.iconst 0, 1) := by decide +kernel
theorem dX5_isPedal_15 : decode cX5_isPedal 15 = .ok (.ireturn, 1) := by decide +kernel
theorem dX5_floatOf_0 : decode cX5_floatOf 0 = .ok (.iload_n 0, 1) := by decide +kernel
theorem dX5_floatOf_1 : decode cX5_floatOf 1 = .ok (.bipush 23, 2) := by decide +kernel
theorem dX5_floatOf_3 : decode cX5_floatOf 3 = .ok (.ishr, 1) := by decide +kernel
theorem dX5_floatOf_4 : decode cX5_floatOf 4 = .ok (.istore_n 1, 1) := by decide +kernel
theorem dX5_floatOf_5 : decode cX5_floatOf 5 = .ok (.iload_n 0, 1) := by decide +kernel
theorem dX5_floatOf_6 : decode cX5_floatOf 6 = .ok (.ldc 200, 2) := by decide +kernel
theorem dX5_floatOf_8 : decode cX5_floatOf 8 = .ok (.iand, 1) := by decide +kernel
theorem dX5_floatOf_9 : decode cX5_floatOf 9 = .ok (.istore_n 2, 1) := by decide +kernel
theorem dX5_floatOf_10 : decode cX5_floatOf 10 = .ok (.iload_n 1, 1) := by decide +kernel
theorem dX5_floatOf_11 : decode cX5_floatOf 11 = .ok (.ifCond .le 11, 3) := by decide +kernel
theorem dX5_floatOf_14 : decode cX5_floatOf 14 = .ok (.iload_n 2, 1) := by decide +kernel
theorem dX5_floatOf_15 : decode cX5_floatOf 15 = .ok (.ldc 201, 2) := by decide +kernel
theorem dX5_floatOf_17 : decode cX5_floatOf 17 = .ok (.iadd, 1) := by decide +kernel
theorem dX5_floatOf_18 : decode cX5_floatOf 18 = .ok (.istore_n 2, 1) := by decide +kernel
theorem dX5_floatOf_19 : decode cX5_floatOf 19 = .ok (.goto 5, 3) := by decide +kernel
theorem dX5_floatOf_22 : decode cX5_floatOf 22 = .ok (.iconst 1, 1) := by decide +kernel
theorem dX5_floatOf_23 : decode cX5_floatOf 23 = .ok (.istore_n 1, 1) := by decide +kernel
theorem dX5_floatOf_24 : decode cX5_floatOf 24 = .ok (.iload_n 2, 1) := by decide +kernel
theorem dX5_floatOf_25 : decode cX5_floatOf 25 = .ok (.i2f, 1) := by decide +kernel
theorem dX5_floatOf_26 : decode cX5_floatOf 26 = .ok (.fstore_n 3, 1) := by decide +kernel
theorem dX5_floatOf_27 : decode cX5_floatOf 27 = .ok (.iload_n 1, 1) := by decide +kernel
theorem dX5_floatOf_28 : decode cX5_floatOf 28 = .ok (.istore 4, 2) := by decide +kernel
theorem dX5_floatOf_30 : decode cX5_floatOf 30 = .ok (.iload 4, 2) := by decide +kernel
theorem dX5_floatOf_32 : decode cX5_floatOf 32 = .ok (.sipush 150, 3) := by decide +kernel
theorem dX5_floatOf_35 : decode cX5_floatOf 35 = .ok (.if_icmp .ge 14, 3) := by decide +kernel
theorem dX5_floatOf_38 : decode cX5_floatOf 38 = .ok (.fload_n 3, 1) := by decide +kernel
theorem dX5_floatOf_39 : decode cX5_floatOf 39 = .ok (.ldc 202, 2) := by decide +kernel
theorem dX5_floatOf_41 : decode cX5_floatOf 41 = .ok (.fmul, 1) := by decide +kernel
theorem dX5_floatOf_42 : decode cX5_floatOf 42 = .ok (.fstore_n 3, 1) := by decide +kernel
theorem dX5_floatOf_43 : decode cX5_floatOf 43 = .ok (.iinc 4 1, 3) := by decide +kernel
theorem dX5_floatOf_46 : decode cX5_floatOf 46 = .ok (.goto (-16), 3) := by decide +kernel
theorem dX5_floatOf_49 : decode cX5_floatOf 49 = .ok (.fload_n 3, 1) := by decide +kernel
theorem dX5_floatOf_50 : decode cX5_floatOf 50 = .ok (.freturn, 1) := by decide +kernel
theorem dX5_notANumber_0 : decode cX5_notANumber 0 = .ok (.ldc 203, 2) := by decide +kernel
theorem dX5_notANumber_2 : decode cX5_notANumber 2 = .ok (.freturn, 1) := by decide +kernel
theorem dJ9_max_7cf53_0 : decode cJ9_max_7cf53 0 = .ok (.iload_n 0, 1) := by decide +kernel
theorem dJ9_max_7cf53_1 : decode cJ9_max_7cf53 1 = .ok (.iload_n 1, 1) := by decide +kernel
theorem dJ9_max_7cf53_2 : decode cJ9_max_7cf53 2 = .ok (.if_icmp .lt 7, 3) := by decide +kernel
theorem dJ9_max_7cf53_5 : decode cJ9_max_7cf53 5 = .ok (.iload_n 0, 1) := by decide +kernel
theorem dJ9_max_7cf53_6 : decode cJ9_max_7cf53 6 = .ok (.goto 4, 3) := by decide +kernel
theorem dJ9_max_7cf53_9 : decode cJ9_max_7cf53 9 = .ok (.iload_n 1, 1) := by decide +kernel
theorem dJ9_max_7cf53_10 : decode cJ9_max_7cf53 10 = .ok (.ireturn, 1) := by decide +kernel
theorem dJ9_min_7cf53_0 : decode cJ9_min_7cf53 0 = .ok (.iload_n 0, 1) := by decide +kernel
theorem dJ9_min_7cf53_1 : decode cJ9_min_7cf53 1 = .ok (.iload_n 1, 1) := by decide +kernel
theorem dJ9_min_7cf53_2 : decode cJ9_min_7cf53 2 = .ok (.if_icmp .gt 7, 3) := by decide +kernel
theorem dJ9_min_7cf53_5 : decode cJ9_min_7cf53 5 = .ok (.iload_n 0, 1) := by decide +kernel
theorem dJ9_min_7cf53_6 : decode cJ9_min_7cf53 6 = .ok (.goto 4, 3) := by decide +kernel
theorem dJ9_min_7cf53_9 : decode cJ9_min_7cf53 9 = .ok (.iload_n 1, 1) := by decide +kernel
theorem dJ9_min_7cf53_10 : decode cJ9_min_7cf53 10 = .ok (.ireturn, 1) := by decide +kernel
theorem dL_cell_0 : decode cL_cell 0 = .ok (.iload_n 1, 1) := by decide +kernel
theorem dL_cell_1 : decode cL_cell 1 = .ok (.aload_n 0, 1) := by decide +kernel
theorem dL_cell_2 : decode cL_cell 2 = .ok (.arraylength, 1) := by decide +kernel
theorem dL_cell_3 : decode cL_cell 3 = .ok (.if_icmp .ge 9, 3) := by decide +kernel
theorem dL_cell_6 : decode cL_cell 6 = .ok (.aload_n 0, 1) := by decide +kernel
theorem dL_cell_7 : decode cL_cell 7 = .ok (.iload_n 1, 1) := by decide +kernel
theorem dL_cell_8 : decode cL_cell 8 = .ok (.iaload, 1) := by decide +kernel
theorem dL_cell_9 : decode cL_cell 9 = .ok (.goto 11, 3) := by decide +kernel
theorem dL_cell_12 : decode cL_cell 12 = .ok (.ldc 7, 2) := by decide +kernel
theorem dL_cell_14 : decode cL_cell 14 = .ok (.iload_n 1, 1) := by decide +kernel
theorem dL_cell_15 : decode cL_cell 15 = .ok (.imul, 1) := by decide +kernel
theorem dL_cell_16 : decode cL_cell 16 = .ok (.sipush 14809, 3) := by decide +kernel
theorem dL_cell_19 : decode cL_cell 19 = .ok (.iadd, 1) := by decide +kernel
theorem dL_cell_20 : decode cL_cell 20 = .ok (.ireturn, 1) := by decide +kernel
theorem dL_low_0 : decode cL_low 0 = .ok (.iload_n 0, 1) := by decide +kernel
theorem dL_low_1 : decode cL_low 1 = .ok (.ldc 8, 2) := by decide +kernel
theorem dL_low_3 : decode cL_low 3 = .ok (.iand, 1) := by decide +kernel
theorem dL_low_4 : decode cL_low 4 = .ok (.iload_n 1, 1) := by decide +kernel
theorem dL_low_5 : decode cL_low 5 = .ok (.irem, 1) := by decide +kernel
theorem dL_low_6 : decode cL_low 6 = .ok (.ireturn, 1) := by decide +kernel
theorem dL_speed_0 : decode cL_speed 0 = .ok (.iload_n 0, 1) := by decide +kernel
theorem dL_speed_1 : decode cL_speed 1 = .ok (.tableswitch 91 0 10 #[59, 61, 64, 67, 70, 73, 76, 79, 82, 85, 88], 59) := by decide +kernel
theorem dL_speed_60 : decode cL_speed 60 = .ok (.iconst 0, 1) := by decide +kernel
theorem dL_speed_61 : decode cL_speed 61 = .ok (.ireturn, 1) := by decide +kernel
theorem dL_speed_62 : decode cL_speed 62 = .ok (.ldc 9, 2) := by decide +kernel
theorem dL_speed_64 : decode cL_speed 64 = .ok (.ireturn, 1) := by decide +kernel
theorem dL_speed_65 : decode cL_speed 65 = .ok (.ldc 10, 2) := by decide +kernel
theorem dL_speed_67 : decode cL_speed 67 = .ok (.ireturn, 1) := by decide +kernel
theorem dL_speed_68 : decode cL_speed 68 = .ok (.ldc 11, 2) := by decide +kernel
theorem dL_speed_70 : decode cL_speed 70 = .ok (.ireturn, 1) := by decide +kernel
theorem dL_speed_71 : decode cL_speed 71 = .ok (.ldc 12, 2) := by decide +kernel
theorem dL_speed_73 : decode cL_speed 73 = .ok (.ireturn, 1) := by decide +kernel
theorem dL_speed_74 : decode cL_speed 74 = .ok (.ldc 13, 2) := by decide +kernel
theorem dL_speed_76 : decode cL_speed 76 = .ok (.ireturn, 1) := by decide +kernel
theorem dL_speed_77 : decode cL_speed 77 = .ok (.ldc 14, 2) := by decide +kernel
theorem dL_speed_79 : decode cL_speed 79 = .ok (.ireturn, 1) := by decide +kernel
theorem dL_speed_80 : decode cL_speed 80 = .ok (.ldc 15, 2) := by decide +kernel
theorem dL_speed_82 : decode cL_speed 82 = .ok (.ireturn, 1) := by decide +kernel
theorem dL_speed_83 : decode cL_speed 83 = .ok (.ldc 16, 2) := by decide +kernel
theorem dL_speed_85 : decode cL_speed 85 = .ok (.ireturn, 1) := by decide +kernel
theorem dL_speed_86 : decode cL_speed 86 = .ok (.ldc 17, 2) := by decide +kernel
theorem dL_speed_88 : decode cL_speed 88 = .ok (.ireturn, 1) := by decide +kernel
theorem dL_speed_89 : decode cL_speed 89 = .ok (.ldc 18, 2) := by decide +kernel
theorem dL_speed_91 : decode cL_speed 91 = .ok (.ireturn, 1) := by decide +kernel
theorem dL_speed_92 : decode cL_speed 92 = .ok (.ldc 19, 2) := by decide +kernel
theorem dL_speed_94 : decode cL_speed 94 = .ok (.ireturn, 1) := by decide +kernel
theorem dL_fast_0 : decode cL_fast 0 = .ok (.iload_n 0, 1) := by decide +kernel
theorem dL_fast_1 : decode cL_fast 1 = .ok (.tableswitch 91 0 10 #[59, 61, 64, 67, 70, 73, 76, 79, 82, 85, 88], 59) := by decide +kernel
theorem dL_fast_60 : decode cL_fast 60 = .ok (.fconst 0, 1) := by decide +kernel
theorem dL_fast_61 : decode cL_fast 61 = .ok (.freturn, 1) := by decide +kernel
theorem dL_fast_62 : decode cL_fast 62 = .ok (.ldc 20, 2) := by decide +kernel
theorem dL_fast_64 : decode cL_fast 64 = .ok (.freturn, 1) := by decide +kernel
theorem dL_fast_65 : decode cL_fast 65 = .ok (.ldc 21, 2) := by decide +kernel
theorem dL_fast_67 : decode cL_fast 67 = .ok (.freturn, 1) := by decide +kernel
theorem dL_fast_68 : decode cL_fast 68 = .ok (.ldc 22, 2) := by decide +kernel
theorem dL_fast_70 : decode cL_fast 70 = .ok (.freturn, 1) := by decide +kernel
theorem dL_fast_71 : decode cL_fast 71 = .ok (.ldc 23, 2) := by decide +kernel
theorem dL_fast_73 : decode cL_fast 73 = .ok (.freturn, 1) := by decide +kernel
theorem dL_fast_74 : decode cL_fast 74 = .ok (.ldc 24, 2) := by decide +kernel
theorem dL_fast_76 : decode cL_fast 76 = .ok (.freturn, 1) := by decide +kernel
theorem dL_fast_77 : decode cL_fast 77 = .ok (.ldc 25, 2) := by decide +kernel
theorem dL_fast_79 : decode cL_fast 79 = .ok (.freturn, 1) := by decide +kernel
theorem dL_fast_80 : decode cL_fast 80 = .ok (.ldc 26, 2) := by decide +kernel
theorem dL_fast_82 : decode cL_fast 82 = .ok (.freturn, 1) := by decide +kernel
theorem dL_fast_83 : decode cL_fast 83 = .ok (.ldc 27, 2) := by decide +kernel
theorem dL_fast_85 : decode cL_fast 85 = .ok (.freturn, 1) := by decide +kernel
theorem dL_fast_86 : decode cL_fast 86 = .ok (.ldc 28, 2) := by decide +kernel
theorem dL_fast_88 : decode cL_fast 88 = .ok (.freturn, 1) := by decide +kernel
theorem dL_fast_89 : decode cL_fast 89 = .ok (.ldc 29, 2) := by decide +kernel
theorem dL_fast_91 : decode cL_fast 91 = .ok (.freturn, 1) := by decide +kernel
theorem dL_fast_92 : decode cL_fast 92 = .ok (.ldc 30, 2) := by decide +kernel
theorem dL_fast_94 : decode cL_fast 94 = .ok (.freturn, 1) := by decide +kernel
theorem dL_pedal_0 : decode cL_pedal 0 = .ok (.iload_n 0, 1) := by decide +kernel
theorem dL_pedal_1 : decode cL_pedal 1 = .ok (.tableswitch 42 0 3 #[31, 33, 36, 39], 31) := by decide +kernel
theorem dL_pedal_32 : decode cL_pedal 32 = .ok (.iconst 0, 1) := by decide +kernel
theorem dL_pedal_33 : decode cL_pedal 33 = .ok (.ireturn, 1) := by decide +kernel
theorem dL_pedal_34 : decode cL_pedal 34 = .ok (.ldc 31, 2) := by decide +kernel
theorem dL_pedal_36 : decode cL_pedal 36 = .ok (.ireturn, 1) := by decide +kernel
theorem dL_pedal_37 : decode cL_pedal 37 = .ok (.ldc 32, 2) := by decide +kernel
theorem dL_pedal_39 : decode cL_pedal 39 = .ok (.ireturn, 1) := by decide +kernel
theorem dL_pedal_40 : decode cL_pedal 40 = .ok (.ldc 33, 2) := by decide +kernel
theorem dL_pedal_42 : decode cL_pedal 42 = .ok (.ireturn, 1) := by decide +kernel
theorem dL_pedal_43 : decode cL_pedal 43 = .ok (.ldc 34, 2) := by decide +kernel
theorem dL_pedal_45 : decode cL_pedal 45 = .ok (.ireturn, 1) := by decide +kernel
theorem dL_deep_0 : decode cL_deep 0 = .ok (.iload_n 0, 1) := by decide +kernel
theorem dL_deep_1 : decode cL_deep 1 = .ok (.tableswitch 42 0 3 #[31, 33, 36, 39], 31) := by decide +kernel
theorem dL_deep_32 : decode cL_deep 32 = .ok (.fconst 0, 1) := by decide +kernel
theorem dL_deep_33 : decode cL_deep 33 = .ok (.freturn, 1) := by decide +kernel
theorem dL_deep_34 : decode cL_deep 34 = .ok (.ldc 35, 2) := by decide +kernel
theorem dL_deep_36 : decode cL_deep 36 = .ok (.freturn, 1) := by decide +kernel
theorem dL_deep_37 : decode cL_deep 37 = .ok (.ldc 36, 2) := by decide +kernel
theorem dL_deep_39 : decode cL_deep 39 = .ok (.freturn, 1) := by decide +kernel
theorem dL_deep_40 : decode cL_deep 40 = .ok (.ldc 37, 2) := by decide +kernel
theorem dL_deep_42 : decode cL_deep 42 = .ok (.freturn, 1) := by decide +kernel
theorem dL_deep_43 : decode cL_deep 43 = .ok (.fconst 1, 1) := by decide +kernel
theorem dL_deep_44 : decode cL_deep 44 = .ok (.freturn, 1) := by decide +kernel
theorem dL_isNone_0 : decode cL_isNone 0 = .ok (.fload_n 0, 1) := by decide +kernel
theorem dL_isNone_1 : decode cL_isNone 1 = .ok (.fload_n 0, 1) := by decide +kernel
theorem dL_isNone_2 : decode cL_isNone 2 = .ok (.fcmp .l, 1) := by decide +kernel
theorem dL_isNone_3 : decode cL_isNone 3 = .ok (.ifCond .eq 7, 3) := by decide +kernel
theorem dL_isNone_6 : decode cL_isNone 6 = .ok (.iconst 1, 1) := by decide +kernel
theorem dL_isNone_7 : decode cL_isNone 7 = .ok (.goto 4, 3) := by decide +kernel
theorem dL_isNone_10 : decode cL_isNone 10 = .ok (.iconst 0, 1) := by decide +kernel
theorem dL_isNone_11 : decode cL_isNone 11 = .ok (.ireturn, 1) := by decide +kernel
theorem dL_isClosed_0 : decode cL_isClosed 0 = .ok (.iload_n 0, 1) := by decide +kernel
theorem dL_isClosed_1 : decode cL_isClosed 1 = .ok (.iconst 1, 1) := by decide +kernel
theorem dL_isClosed_2 : decode cL_isClosed 2 = .ok (.if_icmp .ne 8, 3) := by decide +kernel
theorem dL_isClosed_5 : decode cL_isClosed 5 = .ok (.bipush 17, 2) := by decide +kernel
theorem dL_isClosed_7 : decode cL_isClosed 7 = .ok (.goto 33, 3) := by decide +kernel
theorem dL_isClosed_10 : decode cL_isClosed 10 = .ok (.iload_n 0, 1) := by decide +kernel
theorem dL_isClosed_11 : decode cL_isClosed 11 = .ok (.iconst 2, 1) := by decide +kernel
theorem dL_isClosed_12 : decode cL_isClosed 12 = .ok (.if_icmp .ne 8, 3) := by decide +kernel
theorem dL_isClosed_15 : decode cL_isClosed 15 = .ok (.bipush 9, 2) := by decide +kernel
theorem dL_isClosed_17 : decode cL_isClosed 17 = .ok (.goto 23, 3) := by decide +kernel
theorem dL_isClosed_20 : decode cL_isClosed 20 = .ok (.iload_n 0, 1) := by decide +kernel
theorem dL_isClosed_21 : decode cL_isClosed 21 = .ok (.iconst 3, 1) := by decide +kernel
theorem dL_isClosed_22 : decode cL_isClosed 22 = .ok (.if_icmp .ne 7, 3) := by decide +kernel
theorem dL_isClosed_25 : decode cL_isClosed 25 = .ok (.iconst 5, 1) := by decide +kernel
theorem dL_isClosed_26 : decode cL_isClosed 26 = .ok (.goto 14, 3) := by decide +kernel
theorem dL_isClosed_29 : decode cL_isClosed 29 = .ok (.iload_n 0, 1) := by decide +kernel
theorem dL_isClosed_30 : decode cL_isClosed 30 = .ok (.iconst 4, 1) := by decide +kernel
theorem dL_isClosed_31 : decode cL_isClosed 31 = .ok (.if_icmp .ne 7, 3) := by decide +kernel
theorem dL_isClosed_34 : decode cL_isClosed 34 = .ok (.iconst 3, 1) := by decide +kernel
theorem dL_isClosed_35 : decode cL_isClosed 35 = .ok (.goto 5, 3) := by decide +kernel
theorem dL_isClosed_38 : decode cL_isClosed 38 = .ok (.bipush 6, 2) := by decide +kernel
theorem dL_isClosed_40 : decode cL_isClosed 40 = .ok (.istore_n 2, 1) := by decide +kernel
theorem dL_isClosed_41 : decode cL_isClosed 41 = .ok (.iload_n 2, 1) := by decide +kernel
theorem dL_isClosed_42 : decode cL_isClosed 42 = .ok (.iload_n 1, 1) := by decide +kernel
theorem dL_isClosed_43 : decode cL_isClosed 43 = .ok (.ishr, 1) := by decide +kernel
theorem dL_isClosed_44 : decode cL_isClosed 44 = .ok (.iconst 1, 1) := by decide +kernel
theorem dL_isClosed_45 : decode cL_isClosed 45 = .ok (.iand, 1) := by decide +kernel
theorem dL_isClosed_46 : decode cL_isClosed 46 = .ok (.iconst 1, 1) := by decide +kernel
theorem dL_isClosed_47 : decode cL_isClosed 47 = .ok (.if_icmp .ne 7, 3) := by decide +kernel
theorem dL_isClosed_50 : decode cL_isClosed 50 = .ok (.iconst 1, 1) := by decide +kernel
theorem dL_isClosed_51 : decode cL_isClosed 51 = .ok (.goto 4, 3) := by decide +kernel
theorem dL_isClosed_54 : decode cL_isClosed 54 = .ok (.iconst 0, 1) := by decide +kernel
theorem dL_isClosed_55 : decode cL_isClosed 55 = .ok (.ireturn, 1) := by decide +kernel
set_option maxRecDepth 20000 in
theorem ggL_told_X5_car : GoodIn wsL_told wsX5_car := goodIn_r _ [5, 6, 7, 8, 9, 10, 11, 12, 13, 14, 15, 16, 17, 18, 19, 20, 21, 22, 23, 24, 25, 26, 27, 28, 29, 30, 114, 115, 116, 117, 118, 119, 120, 121, 122, 123, 124, 125, 126, 127, 128, 129, 130] (by decide +kernel) (by decide +kernel)
set_option maxRecDepth 20000 in
theorem gL_told_X5_car : GoodIn wsL_told (wsV RL 38 RX5 yX5_car wsX5_car) := goodIn_app (goodIn_of _ (by decide +kernel)) ggL_told_X5_car
set_option maxRecDepth 20000 in
theorem ggL_told_X5_number : GoodIn wsL_told wsX5_number := goodIn_r _ [34, 6, 35, 36, 37, 10, 38, 39, 114, 115, 116, 117, 118, 119, 120, 121, 122, 123, 124, 125, 126, 127, 128, 129, 130] (by decide +kernel) (by decide +kernel)
set_option maxRecDepth 20000 in
theorem gL_told_X5_number : GoodIn wsL_told (wsV RL 44 RX5 yX5_number wsX5_number) := goodIn_app (goodIn_of _ (by decide +kernel)) ggL_told_X5_number
set_option maxRecDepth 20000 in
theorem ggL_told_L_isClosed : GoodIn wsL_told wsL_isClosed := goodIn_r _ [43] (by decide +kernel) (by decide +kernel)
set_option maxRecDepth 20000 in
theorem gL_told_L_isClosed : GoodIn wsL_told (va_wsS RL 47 yL_isClosed wsL_isClosed) := goodIn_app (goodIn_of _ (by decide +kernel)) ggL_told_L_isClosed
set_option maxRecDepth 20000 in
theorem ggL_told_X5_pressed : GoodIn wsL_told wsX5_pressed := goodIn_r _ [47, 6, 48, 49, 50, 10, 51, 17, 18, 8, 9, 11, 12, 52, 14, 15, 16, 19, 20, 21, 22, 23, 24, 25, 26, 53, 54, 55, 56, 57, 58, 36, 37, 38, 39, 59, 28, 29, 30, 60, 61, 62, 63, 64, 65, 4, 66, 67, 114, 115, 116, 117, 118, 119, 120, 121, 122, 123, 124, 125, 126, 127, 128, 129, 130] (by decide +kernel) (by decide +kernel)
set_option maxRecDepth 20000 in
theorem gL_told_X5_pressed : GoodIn wsL_told (wsV RL 53 RX5 yX5_pressed wsX5_pressed) := goodIn_app (goodIn_of _ (by decide +kernel)) ggL_told_X5_pressed
set_option maxRecDepth 20000 in
theorem ggL_told_X5_count : GoodIn wsL_told wsX5_count := goodIn_r _ [71, 72, 73, 6, 74, 75, 76, 77, 78, 79, 80, 81, 82, 83, 84, 85, 86, 87, 88, 10, 89, 90, 114, 115, 116, 117, 118, 119, 131, 132, 133, 134, 135, 136, 137, 138, 139, 140, 120, 121, 122, 123, 124, 125, 126, 127, 128, 129, 130] (by decide +kernel) (by decide +kernel)
set_option maxRecDepth 20000 in
theorem gL_told_X5_count : GoodIn wsL_told (wsV RL 57 RX5 yX5_count wsX5_count) := goodIn_app (goodIn_of _ (by decide +kernel)) ggL_told_X5_count
set_option maxRecDepth 20000 in
theorem ggL_told_X5_force : GoodIn wsL_told wsX5_force := goodIn_r _ [94, 6, 95, 96, 97, 10, 98, 18, 8, 9, 11, 12, 53, 54, 55, 56, 57, 58, 36, 37, 38, 39, 60, 61, 62, 63, 114, 115, 116, 117, 118, 119, 120, 121, 122, 123, 124, 125, 126, 127, 128, 129, 130] (by decide +kernel) (by decide +kernel)
set_option maxRecDepth 20000 in
theorem gL_told_X5_force : GoodIn wsL_told (wsV RL 60 RX5 yX5_force wsX5_force) := goodIn_app (goodIn_of _ (by decide +kernel)) ggL_told_X5_force
set_option maxRecDepth 20000 in
theorem ggL_told_L_isNone : GoodIn wsL_told wsL_isNone := goodIn_r _ [101] (by decide +kernel) (by decide +kernel)
set_option maxRecDepth 20000 in
theorem gL_told_L_isNone : GoodIn wsL_told (va_wsS RL 64 yL_isNone wsL_isNone) := goodIn_app (goodIn_of _ (by decide +kernel)) ggL_told_L_isNone
set_option maxRecDepth 20000 in
theorem ggL_told_X5_change : GoodIn wsL_told wsX5_change := goodIn_r _ [105, 6, 106, 107, 108, 109, 110, 111, 112, 113, 114, 115, 116, 117, 118, 119, 120, 121, 122, 123, 124, 125, 126, 127, 128, 129, 130, 141, 142, 143] (by decide +kernel) (by decide +kernel)
set_option maxRecDepth 20000 in
theorem gL_told_X5_change : GoodIn wsL_told (wsV RL 68 RX5 yX5_change wsX5_change) := goodIn_app (goodIn_of _ (by decide +kernel)) ggL_told_X5_change
theorem dL_told_0 : decode cL_told 0 = .ok (.aload_n 0, 1) := by decide +kernel
theorem dL_told_1 : decode cL_told 1 = .ok (.iconst 0, 1) := by decide +kernel
theorem dL_told_2 : decode cL_told 2 = .ok (.invokevirtual 38, 3) := by decide +kernel
theorem dL_told_5 : decode cL_told 5 = .ok (.istore_n 1, 1) := by decide +kernel
theorem dL_told_6 : decode cL_told 6 = .ok (.aload_n 0, 1) := by decide +kernel
theorem dL_told_7 : decode cL_told 7 = .ok (.iconst 1, 1) := by decide +kernel
theorem dL_told_8 : decode cL_told 8 = .ok (.invokevirtual 38, 3) := by decide +kernel
theorem dL_told_11 : decode cL_told 11 = .ok (.istore_n 2, 1) := by decide +kernel
theorem dL_told_12 : decode cL_told 12 = .ok (.aload_n 0, 1) := by decide +kernel
theorem dL_told_13 : decode cL_told 13 = .ok (.iconst 2, 1) := by decide +kernel
theorem dL_told_14 : decode cL_told 14 = .ok (.invokevirtual 38, 3) := by decide +kernel
theorem dL_told_17 : decode cL_told 17 = .ok (.istore_n 3, 1) := by decide +kernel
theorem dL_told_18 : decode cL_told 18 = .ok (.aload_n 0, 1) := by decide +kernel
theorem dL_told_19 : decode cL_told 19 = .ok (.iconst 0, 1) := by decide +kernel
theorem dL_told_20 : decode cL_told 20 = .ok (.invokevirtual 44, 3) := by decide +kernel
theorem dL_told_23 : decode cL_told 23 = .ok (.istore 4, 2) := by decide +kernel
theorem dL_told_25 : decode cL_told 25 = .ok (.aload_n 0, 1) := by decide +kernel
theorem dL_told_26 : decode cL_told 26 = .ok (.iconst 1, 1) := by decide +kernel
theorem dL_told_27 : decode cL_told 27 = .ok (.invokevirtual 44, 3) := by decide +kernel
theorem dL_told_30 : decode cL_told 30 = .ok (.istore 5, 2) := by decide +kernel
theorem dL_told_32 : decode cL_told 32 = .ok (.iload_n 2, 1) := by decide +kernel
theorem dL_told_33 : decode cL_told 33 = .ok (.bipush (-5), 2) := by decide +kernel
theorem dL_told_35 : decode cL_told 35 = .ok (.if_icmp .ne 7, 3) := by decide +kernel
theorem dL_told_38 : decode cL_told 38 = .ok (.fconst 1, 1) := by decide +kernel
theorem dL_told_39 : decode cL_told 39 = .ok (.goto 4, 3) := by decide +kernel
theorem dL_told_42 : decode cL_told 42 = .ok (.fconst 0, 1) := by decide +kernel
theorem dL_told_43 : decode cL_told 43 = .ok (.fstore 6, 2) := by decide +kernel
theorem dL_told_45 : decode cL_told 45 = .ok (.iconst 0, 1) := by decide +kernel
theorem dL_told_46 : decode cL_told 46 = .ok (.istore 7, 2) := by decide +kernel
theorem dL_told_48 : decode cL_told 48 = .ok (.iload 7, 2) := by decide +kernel
theorem dL_told_50 : decode cL_told 50 = .ok (.iconst 5, 1) := by decide +kernel
theorem dL_told_51 : decode cL_told 51 = .ok (.if_icmp .ge 155, 3) := by decide +kernel
theorem dL_told_54 : decode cL_told 54 = .ok (.iload_n 1, 1) := by decide +kernel
theorem dL_told_55 : decode cL_told 55 = .ok (.iload 7, 2) := by decide +kernel
theorem dL_told_57 : decode cL_told 57 = .ok (.invokestatic 47, 3) := by decide +kernel
theorem dL_told_60 : decode cL_told 60 = .ok (.ifCond .eq 7, 3) := by decide +kernel
theorem dL_told_63 : decode cL_told 63 = .ok (.fconst 1, 1) := by decide +kernel
theorem dL_told_64 : decode cL_told 64 = .ok (.goto 4, 3) := by decide +kernel
theorem dL_told_67 : decode cL_told 67 = .ok (.fconst 0, 1) := by decide +kernel
theorem dL_told_68 : decode cL_told 68 = .ok (.fstore 8, 2) := by decide +kernel
theorem dL_told_70 : decode cL_told 70 = .ok (.iload_n 2, 1) := by decide +kernel
theorem dL_told_71 : decode cL_told 71 = .ok (.bipush (-5), 2) := by decide +kernel
theorem dL_told_73 : decode cL_told 73 = .ok (.if_icmp .eq 113, 3) := by decide +kernel
theorem dL_told_76 : decode cL_told 76 = .ok (.iload_n 1, 1) := by decide +kernel
theorem dL_told_77 : decode cL_told 77 = .ok (.iload 7, 2) := by decide +kernel
theorem dL_told_79 : decode cL_told 79 = .ok (.invokestatic 47, 3) := by decide +kernel
