theorem dX4_countTick_26 : decode cX4_countTick 26 = .ok (.bipush 12, 2) := by decide +kernel
theorem dX4_countTick_28 : decode cX4_countTick 28 = .ok (.invokevirtual 131, 3) := by decide +kernel
theorem dX4_countTick_31 : decode cX4_countTick 31 = .ok (.return_, 1) := by decide +kernel
set_option maxRecDepth 20000 in
theorem ggX4_mayShiftTo_X4_isChanging : GoodIn wsX4_mayShiftTo wsX4_isChanging := goodIn_r _ [8, 9, 20, 21, 22, 23, 24, 25, 26, 27, 28, 29, 30] (by decide +kernel) (by decide +kernel)
set_option maxRecDepth 20000 in
theorem gX4_mayShiftTo_X4_isChanging : GoodIn wsX4_mayShiftTo (wsV RX4 86 RX4 yX4_isChanging wsX4_isChanging) := goodIn_app (goodIn_of _ (by decide +kernel)) ggX4_mayShiftTo_X4_isChanging
set_option maxRecDepth 20000 in
theorem ggX4_mayShiftTo_X3_exceeds : GoodIn wsX4_mayShiftTo wsX3_exceeds := goodIn_r _ [14, 15, 16, 17, 13, 18, 19, 31] (by decide +kernel) (by decide +kernel)
set_option maxRecDepth 20000 in
theorem gX4_mayShiftTo_X3_exceeds : GoodIn wsX4_mayShiftTo (wsV RX4 105 RX3 yX3_exceeds wsX3_exceeds) := goodIn_app (goodIn_of _ (by decide +kernel)) ggX4_mayShiftTo_X3_exceeds
theorem dX4_mayShiftTo_0 : decode cX4_mayShiftTo 0 = .ok (.aload_n 0, 1) := by decide +kernel
theorem dX4_mayShiftTo_1 : decode cX4_mayShiftTo 1 = .ok (.getfield 48, 3) := by decide +kernel
theorem dX4_mayShiftTo_4 : decode cX4_mayShiftTo 4 = .ok (.ifCond .eq 39, 3) := by decide +kernel
theorem dX4_mayShiftTo_7 : decode cX4_mayShiftTo 7 = .ok (.aload_n 0, 1) := by decide +kernel
theorem dX4_mayShiftTo_8 : decode cX4_mayShiftTo 8 = .ok (.invokevirtual 86, 3) := by decide +kernel
theorem dX4_mayShiftTo_11 : decode cX4_mayShiftTo 11 = .ok (.ifCond .ne 32, 3) := by decide +kernel
theorem dX4_mayShiftTo_14 : decode cX4_mayShiftTo 14 = .ok (.iload_n 1, 1) := by decide +kernel
theorem dX4_mayShiftTo_15 : decode cX4_mayShiftTo 15 = .ok (.iconst 1, 1) := by decide +kernel
theorem dX4_mayShiftTo_16 : decode cX4_mayShiftTo 16 = .ok (.if_icmp .lt 27, 3) := by decide +kernel
theorem dX4_mayShiftTo_19 : decode cX4_mayShiftTo 19 = .ok (.iload_n 1, 1) := by decide +kernel
theorem dX4_mayShiftTo_20 : decode cX4_mayShiftTo 20 = .ok (.iconst 5, 1) := by decide +kernel
theorem dX4_mayShiftTo_21 : decode cX4_mayShiftTo 21 = .ok (.if_icmp .gt 22, 3) := by decide +kernel
theorem dX4_mayShiftTo_24 : decode cX4_mayShiftTo 24 = .ok (.aload_n 0, 1) := by decide +kernel
theorem dX4_mayShiftTo_25 : decode cX4_mayShiftTo 25 = .ok (.getfield 12, 3) := by decide +kernel
theorem dX4_mayShiftTo_28 : decode cX4_mayShiftTo 28 = .ok (.aload_n 0, 1) := by decide +kernel
theorem dX4_mayShiftTo_29 : decode cX4_mayShiftTo 29 = .ok (.getfield 52, 3) := by decide +kernel
theorem dX4_mayShiftTo_32 : decode cX4_mayShiftTo 32 = .ok (.iload_n 1, 1) := by decide +kernel
theorem dX4_mayShiftTo_33 : decode cX4_mayShiftTo 33 = .ok (.invokevirtual 105, 3) := by decide +kernel
theorem dX4_mayShiftTo_36 : decode cX4_mayShiftTo 36 = .ok (.ifCond .ne 7, 3) := by decide +kernel
theorem dX4_mayShiftTo_39 : decode cX4_mayShiftTo 39 = .ok (.iconst 1, 1) := by decide +kernel
theorem dX4_mayShiftTo_40 : decode cX4_mayShiftTo 40 = .ok (.goto 4, 3) := by decide +kernel
theorem dX4_mayShiftTo_43 : decode cX4_mayShiftTo 43 = .ok (.iconst 0, 1) := by decide +kernel
theorem dX4_mayShiftTo_44 : decode cX4_mayShiftTo 44 = .ok (.ireturn, 1) := by decide +kernel
set_option maxRecDepth 20000 in
theorem ggX4_begin_X4_swings : GoodIn wsX4_begin wsX4_swings := goodIn_r _ [10, 1, 11, 12, 13, 14, 15, 16, 17, 18, 19, 20, 21, 9, 22, 23, 24, 25, 26, 27, 28, 29, 30, 31, 32, 45, 46, 47, 48, 49, 50, 51, 52, 53, 54, 55, 56, 57, 58] (by decide +kernel) (by decide +kernel)
set_option maxRecDepth 20000 in
theorem gX4_begin_X4_swings : GoodIn wsX4_begin (wsV RX4 135 RX4 yX4_swings wsX4_swings) := goodIn_app (goodIn_of _ (by decide +kernel)) ggX4_begin_X4_swings
set_option maxRecDepth 20000 in
theorem ggX4_begin_X4_tick : GoodIn wsX4_begin wsX4_tick := goodIn_r _ [22, 23, 24, 25, 9, 26, 27, 45, 46, 47, 48, 49, 50, 51, 52, 53, 54, 55] (by decide +kernel) (by decide +kernel)
set_option maxRecDepth 20000 in
theorem gX4_begin_X4_tick : GoodIn wsX4_begin (wsV RX4 139 RX4 yX4_tick wsX4_tick) := goodIn_app (goodIn_of _ (by decide +kernel)) ggX4_begin_X4_tick
set_option maxRecDepth 20000 in
theorem ggX4_begin_X2_add : GoodIn wsX4_begin wsX2_add := goodIn_r _ [36, 17, 18, 16, 37, 38, 39, 40, 56, 57, 58] (by decide +kernel) (by decide +kernel)
set_option maxRecDepth 20000 in
theorem gX4_begin_X2_add : GoodIn wsX4_begin (wsV RX4 143 RX2 yX2_add wsX2_add) := goodIn_app (goodIn_of _ (by decide +kernel)) ggX4_begin_X2_add
set_option maxRecDepth 20000 in
theorem ggX4_begin_X4_countOneMore : GoodIn wsX4_begin wsX4_countOneMore := goodIn_r _ [44, 27, 45, 46, 47, 48, 49, 50, 51, 52, 53, 54, 55] (by decide +kernel) (by decide +kernel)
set_option maxRecDepth 20000 in
theorem gX4_begin_X4_countOneMore : GoodIn wsX4_begin (wsV RX4 131 RX4 yX4_countOneMore wsX4_countOneMore) := goodIn_app (goodIn_of _ (by decide +kernel)) ggX4_begin_X4_countOneMore
set_option maxRecDepth 20000 in
theorem ggX4_begin_X4_setting : GoodIn wsX4_begin wsX4_setting := goodIn_r _ [31, 32, 45, 46, 47, 48, 49, 50, 51, 52, 53, 54, 55] (by decide +kernel) (by decide +kernel)
set_option maxRecDepth 20000 in
theorem gX4_begin_X4_setting : GoodIn wsX4_begin (wsV RX4 72 RX4 yX4_setting wsX4_setting) := goodIn_app (goodIn_of _ (by decide +kernel)) ggX4_begin_X4_setting
theorem dX4_begin_0 : decode cX4_begin 0 = .ok (.aload_n 0, 1) := by decide +kernel
theorem dX4_begin_1 : decode cX4_begin 1 = .ok (.iload_n 1, 1) := by decide +kernel
theorem dX4_begin_2 : decode cX4_begin 2 = .ok (.invokevirtual 135, 3) := by decide +kernel
theorem dX4_begin_5 : decode cX4_begin 5 = .ok (.istore_n 3, 1) := by decide +kernel
theorem dX4_begin_6 : decode cX4_begin 6 = .ok (.aload_n 0, 1) := by decide +kernel
theorem dX4_begin_7 : decode cX4_begin 7 = .ok (.getfield 21, 3) := by decide +kernel
theorem dX4_begin_10 : decode cX4_begin 10 = .ok (.aload_n 0, 1) := by decide +kernel
theorem dX4_begin_11 : decode cX4_begin 11 = .ok (.invokevirtual 139, 3) := by decide +kernel
theorem dX4_begin_14 : decode cX4_begin 14 = .ok (.aload_n 0, 1) := by decide +kernel
theorem dX4_begin_15 : decode cX4_begin 15 = .ok (.getfield 35, 3) := by decide +kernel
theorem dX4_begin_18 : decode cX4_begin 18 = .ok (.iload_n 2, 1) := by decide +kernel
theorem dX4_begin_19 : decode cX4_begin 19 = .ok (.iload_n 1, 1) := by decide +kernel
theorem dX4_begin_20 : decode cX4_begin 20 = .ok (.iload_n 3, 1) := by decide +kernel
theorem dX4_begin_21 : decode cX4_begin 21 = .ok (.invokevirtual 143, 3) := by decide +kernel
theorem dX4_begin_24 : decode cX4_begin 24 = .ok (.aload_n 0, 1) := by decide +kernel
theorem dX4_begin_25 : decode cX4_begin 25 = .ok (.iload_n 2, 1) := by decide +kernel
theorem dX4_begin_26 : decode cX4_begin 26 = .ok (.putfield 39, 3) := by decide +kernel
theorem dX4_begin_29 : decode cX4_begin 29 = .ok (.aload_n 0, 1) := by decide +kernel
theorem dX4_begin_30 : decode cX4_begin 30 = .ok (.iconst 0, 1) := by decide +kernel
theorem dX4_begin_31 : decode cX4_begin 31 = .ok (.putfield 42, 3) := by decide +kernel
theorem dX4_begin_34 : decode cX4_begin 34 = .ok (.aload_n 0, 1) := by decide +kernel
theorem dX4_begin_35 : decode cX4_begin 35 = .ok (.iconst 1, 1) := by decide +kernel
theorem dX4_begin_36 : decode cX4_begin 36 = .ok (.iload_n 1, 1) := by decide +kernel
theorem dX4_begin_37 : decode cX4_begin 37 = .ok (.iadd, 1) := by decide +kernel
theorem dX4_begin_38 : decode cX4_begin 38 = .ok (.invokevirtual 131, 3) := by decide +kernel
theorem dX4_begin_41 : decode cX4_begin 41 = .ok (.iload_n 3, 1) := by decide +kernel
theorem dX4_begin_42 : decode cX4_begin 42 = .ok (.ifCond .eq 18, 3) := by decide +kernel
theorem dX4_begin_45 : decode cX4_begin 45 = .ok (.aload_n 0, 1) := by decide +kernel
theorem dX4_begin_46 : decode cX4_begin 46 = .ok (.aload_n 0, 1) := by decide +kernel
theorem dX4_begin_47 : decode cX4_begin 47 = .ok (.iconst 3, 1) := by decide +kernel
theorem dX4_begin_48 : decode cX4_begin 48 = .ok (.invokevirtual 72, 3) := by decide +kernel
theorem dX4_begin_51 : decode cX4_begin 51 = .ok (.putfield 45, 3) := by decide +kernel
theorem dX4_begin_54 : decode cX4_begin 54 = .ok (.aload_n 0, 1) := by decide +kernel
theorem dX4_begin_55 : decode cX4_begin 55 = .ok (.bipush 6, 2) := by decide +kernel
theorem dX4_begin_57 : decode cX4_begin 57 = .ok (.invokevirtual 131, 3) := by decide +kernel
theorem dX4_begin_60 : decode cX4_begin 60 = .ok (.return_, 1) := by decide +kernel
set_option maxRecDepth 20000 in
theorem ggX4_swings_X2_told : GoodIn wsX4_swings wsX2_told := goodIn_r _ [6, 7, 8, 9, 36, 37, 38] (by decide +kernel) (by decide +kernel)
set_option maxRecDepth 20000 in
theorem gX4_swings_X2_told : GoodIn wsX4_swings (wsV RX4 147 RX2 yX2_told wsX2_told) := goodIn_app (goodIn_of _ (by decide +kernel)) ggX4_swings_X2_told
set_option maxRecDepth 20000 in
theorem ggX4_swings_X4_tick : GoodIn wsX4_swings wsX4_tick := goodIn_r _ [14, 15, 16, 17, 13, 18, 19, 25, 26, 27, 28, 29, 30, 31, 32, 33, 34, 35] (by decide +kernel) (by decide +kernel)
set_option maxRecDepth 20000 in
theorem gX4_swings_X4_tick : GoodIn wsX4_swings (wsV RX4 139 RX4 yX4_tick wsX4_tick) := goodIn_app (goodIn_of _ (by decide +kernel)) ggX4_swings_X4_tick
set_option maxRecDepth 20000 in
theorem ggX4_swings_X4_setting : GoodIn wsX4_swings wsX4_setting := goodIn_r _ [23, 24, 25, 26, 27, 28, 29, 30, 31, 32, 33, 34, 35] (by decide +kernel) (by decide +kernel)
set_option maxRecDepth 20000 in
theorem gX4_swings_X4_setting : GoodIn wsX4_swings (wsV RX4 72 RX4 yX4_setting wsX4_setting) := goodIn_app (goodIn_of _ (by decide +kernel)) ggX4_swings_X4_setting
theorem dX4_swings_0 : decode cX4_swings 0 = .ok (.iload_n 1, 1) := by decide +kernel
theorem dX4_swings_1 : decode cX4_swings 1 = .ok (.ifCond .eq 10, 3) := by decide +kernel
theorem dX4_swings_4 : decode cX4_swings 4 = .ok (.iload_n 1, 1) := by decide +kernel
theorem dX4_swings_5 : decode cX4_swings 5 = .ok (.iconst 1, 1) := by decide +kernel
theorem dX4_swings_6 : decode cX4_swings 6 = .ok (.if_icmp .eq 5, 3) := by decide +kernel
theorem dX4_swings_9 : decode cX4_swings 9 = .ok (.iconst 0, 1) := by decide +kernel
theorem dX4_swings_10 : decode cX4_swings 10 = .ok (.ireturn, 1) := by decide +kernel
theorem dX4_swings_11 : decode cX4_swings 11 = .ok (.iload_n 1, 1) := by decide +kernel
theorem dX4_swings_12 : decode cX4_swings 12 = .ok (.ifCond .ne 7, 3) := by decide +kernel
theorem dX4_swings_15 : decode cX4_swings 15 = .ok (.iconst 1, 1) := by decide +kernel
theorem dX4_swings_16 : decode cX4_swings 16 = .ok (.goto 4, 3) := by decide +kernel
theorem dX4_swings_19 : decode cX4_swings 19 = .ok (.iconst 0, 1) := by decide +kernel
theorem dX4_swings_20 : decode cX4_swings 20 = .ok (.istore_n 2, 1) := by decide +kernel
theorem dX4_swings_21 : decode cX4_swings 21 = .ok (.aload_n 0, 1) := by decide +kernel
theorem dX4_swings_22 : decode cX4_swings 22 = .ok (.getfield 21, 3) := by decide +kernel
theorem dX4_swings_25 : decode cX4_swings 25 = .ok (.iconst 0, 1) := by decide +kernel
theorem dX4_swings_26 : decode cX4_swings 26 = .ok (.iconst 3, 1) := by decide +kernel
theorem dX4_swings_27 : decode cX4_swings 27 = .ok (.invokevirtual 147, 3) := by decide +kernel
theorem dX4_swings_30 : decode cX4_swings 30 = .ok (.iload_n 2, 1) := by decide +kernel
theorem dX4_swings_31 : decode cX4_swings 31 = .ok (.if_icmp .ne 42, 3) := by decide +kernel
theorem dX4_swings_34 : decode cX4_swings 34 = .ok (.aload_n 0, 1) := by decide +kernel
theorem dX4_swings_35 : decode cX4_swings 35 = .ok (.getfield 21, 3) := by decide +kernel
theorem dX4_swings_38 : decode cX4_swings 38 = .ok (.iconst 1, 1) := by decide +kernel
theorem dX4_swings_39 : decode cX4_swings 39 = .ok (.iconst 3, 1) := by decide +kernel
theorem dX4_swings_40 : decode cX4_swings 40 = .ok (.invokevirtual 147, 3) := by decide +kernel
theorem dX4_swings_43 : decode cX4_swings 43 = .ok (.iload_n 1, 1) := by decide +kernel
theorem dX4_swings_44 : decode cX4_swings 44 = .ok (.if_icmp .ne 29, 3) := by decide +kernel
theorem dX4_swings_47 : decode cX4_swings 47 = .ok (.aload_n 0, 1) := by decide +kernel
theorem dX4_swings_48 : decode cX4_swings 48 = .ok (.invokevirtual 139, 3) := by decide +kernel
theorem dX4_swings_51 : decode cX4_swings 51 = .ok (.aload_n 0, 1) := by decide +kernel
theorem dX4_swings_52 : decode cX4_swings 52 = .ok (.getfield 21, 3) := by decide +kernel
theorem dX4_swings_55 : decode cX4_swings 55 = .ok (.iconst 1, 1) := by decide +kernel
theorem dX4_swings_56 : decode cX4_swings 56 = .ok (.iconst 0, 1) := by decide +kernel
theorem dX4_swings_57 : decode cX4_swings 57 = .ok (.invokevirtual 147, 3) := by decide +kernel
theorem dX4_swings_60 : decode cX4_swings 60 = .ok (.isub, 1) := by decide +kernel
theorem dX4_swings_61 : decode cX4_swings 61 = .ok (.aload_n 0, 1) := by decide +kernel
theorem dX4_swings_62 : decode cX4_swings 62 = .ok (.iconst 2, 1) := by decide +kernel
theorem dX4_swings_63 : decode cX4_swings 63 = .ok (.invokevirtual 72, 3) := by decide +kernel
theorem dX4_swings_66 : decode cX4_swings 66 = .ok (.if_icmp .gt 7, 3) := by decide +kernel
theorem dX4_swings_69 : decode cX4_swings 69 = .ok (.iconst 1, 1) := by decide +kernel
theorem dX4_swings_70 : decode cX4_swings 70 = .ok (.goto 4, 3) := by decide +kernel
theorem dX4_swings_73 : decode cX4_swings 73 = .ok (.iconst 0, 1) := by decide +kernel
theorem dX4_swings_74 : decode cX4_swings 74 = .ok (.ireturn, 1) := by decide +kernel
theorem dX4_isClosed_0 : decode cX4_isClosed 0 = .ok (.iload_n 1, 1) := by decide +kernel
theorem dX4_isClosed_1 : decode cX4_isClosed 1 = .ok (.iconst 1, 1) := by decide +kernel
theorem dX4_isClosed_2 : decode cX4_isClosed 2 = .ok (.isub, 1) := by decide +kernel
theorem dX4_isClosed_3 : decode cX4_isClosed 3 = .ok (.istore_n 2, 1) := by decide +kernel
theorem dX4_isClosed_4 : decode cX4_isClosed 4 = .ok (.iload_n 2, 1) := by decide +kernel
theorem dX4_isClosed_5 : decode cX4_isClosed 5 = .ok (.ifCond .lt 19, 3) := by decide +kernel
theorem dX4_isClosed_8 : decode cX4_isClosed 8 = .ok (.iload_n 2, 1) := by decide +kernel
theorem dX4_isClosed_9 : decode cX4_isClosed 9 = .ok (.getstatic 150, 3) := by decide +kernel
theorem dX4_isClosed_12 : decode cX4_isClosed 12 = .ok (.arraylength, 1) := by decide +kernel
theorem dX4_isClosed_13 : decode cX4_isClosed 13 = .ok (.if_icmp .ge 11, 3) := by decide +kernel
theorem dX4_isClosed_16 : decode cX4_isClosed 16 = .ok (.iload_n 2, 1) := by decide +kernel
theorem dX4_isClosed_17 : decode cX4_isClosed 17 = .ok (.getstatic 153, 3) := by decide +kernel
theorem dX4_isClosed_20 : decode cX4_isClosed 20 = .ok (.arraylength, 1) := by decide +kernel
theorem dX4_isClosed_21 : decode cX4_isClosed 21 = .ok (.if_icmp .lt 5, 3) := by decide +kernel
theorem dX4_isClosed_24 : decode cX4_isClosed 24 = .ok (.iconst 0, 1) := by decide +kernel
theorem dX4_isClosed_25 : decode cX4_isClosed 25 = .ok (.ireturn, 1) := by decide +kernel
theorem dX4_isClosed_26 : decode cX4_isClosed 26 = .ok (.iload_n 0, 1) := by decide +kernel
theorem dX4_isClosed_27 : decode cX4_isClosed 27 = .ok (.getstatic 150, 3) := by decide +kernel
theorem dX4_isClosed_30 : decode cX4_isClosed 30 = .ok (.iload_n 2, 1) := by decide +kernel
theorem dX4_isClosed_31 : decode cX4_isClosed 31 = .ok (.iaload, 1) := by decide +kernel
theorem dX4_isClosed_32 : decode cX4_isClosed 32 = .ok (.if_icmp .eq 12, 3) := by decide +kernel
theorem dX4_isClosed_35 : decode cX4_isClosed 35 = .ok (.iload_n 0, 1) := by decide +kernel
theorem dX4_isClosed_36 : decode cX4_isClosed 36 = .ok (.getstatic 153, 3) := by decide +kernel
theorem dX4_isClosed_39 : decode cX4_isClosed 39 = .ok (.iload_n 2, 1) := by decide +kernel
theorem dX4_isClosed_40 : decode cX4_isClosed 40 = .ok (.iaload, 1) := by decide +kernel
theorem dX4_isClosed_41 : decode cX4_isClosed 41 = .ok (.if_icmp .ne 7, 3) := by decide +kernel
theorem dX4_isClosed_44 : decode cX4_isClosed 44 = .ok (.iconst 1, 1) := by decide +kernel
theorem dX4_isClosed_45 : decode cX4_isClosed 45 = .ok (.goto 4, 3) := by decide +kernel
theorem dX4_isClosed_48 : decode cX4_isClosed 48 = .ok (.iconst 0, 1) := by decide +kernel
theorem dX4_isClosed_49 : decode cX4_isClosed 49 = .ok (.ireturn, 1) := by decide +kernel
set_option maxRecDepth 20000 in
theorem ggX4_closedOnlyIn_X4_isClosed : GoodIn wsX4_closedOnlyIn wsX4_isClosed := goodIn_r _ [4, 5, 6] (by decide +kernel) (by decide +kernel)
set_option maxRecDepth 20000 in
theorem gX4_closedOnlyIn_X4_isClosed : GoodIn wsX4_closedOnlyIn (va_wsS RX4 156 yX4_isClosed wsX4_isClosed) := goodIn_app (goodIn_of _ (by decide +kernel)) ggX4_closedOnlyIn_X4_isClosed
theorem dX4_closedOnlyIn_0 : decode cX4_closedOnlyIn 0 = .ok (.iconst 0, 1) := by decide +kernel
theorem dX4_closedOnlyIn_1 : decode cX4_closedOnlyIn 1 = .ok (.istore_n 2, 1) := by decide +kernel
theorem dX4_closedOnlyIn_2 : decode cX4_closedOnlyIn 2 = .ok (.iload_n 2, 1) := by decide +kernel
theorem dX4_closedOnlyIn_3 : decode cX4_closedOnlyIn 3 = .ok (.iconst 5, 1) := by decide +kernel
theorem dX4_closedOnlyIn_4 : decode cX4_closedOnlyIn 4 = .ok (.if_icmp .ge 27, 3) := by decide +kernel
theorem dX4_closedOnlyIn_7 : decode cX4_closedOnlyIn 7 = .ok (.iload_n 2, 1) := by decide +kernel
theorem dX4_closedOnlyIn_8 : decode cX4_closedOnlyIn 8 = .ok (.iload_n 0, 1) := by decide +kernel
theorem dX4_closedOnlyIn_9 : decode cX4_closedOnlyIn 9 = .ok (.invokestatic 156, 3) := by decide +kernel
theorem dX4_closedOnlyIn_12 : decode cX4_closedOnlyIn 12 = .ok (.ifCond .eq 13, 3) := by decide +kernel
theorem dX4_closedOnlyIn_15 : decode cX4_closedOnlyIn 15 = .ok (.iload_n 2, 1) := by decide +kernel
theorem dX4_closedOnlyIn_16 : decode cX4_closedOnlyIn 16 = .ok (.iload_n 1, 1) := by decide +kernel
theorem dX4_closedOnlyIn_17 : decode cX4_closedOnlyIn 17 = .ok (.invokestatic 156, 3) := by decide +kernel
theorem dX4_closedOnlyIn_20 : decode cX4_closedOnlyIn 20 = .ok (.ifCond .ne 5, 3) := by decide +kernel
theorem dX4_closedOnlyIn_23 : decode cX4_closedOnlyIn 23 = .ok (.iload_n 2, 1) := by decide +kernel
theorem dX4_closedOnlyIn_24 : decode cX4_closedOnlyIn 24 = .ok (.ireturn, 1) := by decide +kernel
theorem dX4_closedOnlyIn_25 : decode cX4_closedOnlyIn 25 = .ok (.iinc 2 1, 3) := by decide +kernel
theorem dX4_closedOnlyIn_28 : decode cX4_closedOnlyIn 28 = .ok (.goto (-26), 3) := by decide +kernel
theorem dX4_closedOnlyIn_31 : decode cX4_closedOnlyIn 31 = .ok (.bipush (-5), 2) := by decide +kernel
theorem dX4_closedOnlyIn_33 : decode cX4_closedOnlyIn 33 = .ok (.ireturn, 1) := by decide +kernel
set_option maxRecDepth 20000 in
theorem ggX4_opening_X4_isChanging : GoodIn wsX4_opening wsX4_isChanging := goodIn_r _ [7, 2, 16, 17, 18, 19, 20, 21, 22, 23, 24, 25, 26] (by decide +kernel) (by decide +kernel)
set_option maxRecDepth 20000 in
theorem gX4_opening_X4_isChanging : GoodIn wsX4_opening (wsV RX4 86 RX4 yX4_isChanging wsX4_isChanging) := goodIn_app (goodIn_of _ (by decide +kernel)) ggX4_opening_X4_isChanging
set_option maxRecDepth 20000 in
theorem ggX4_opening_X4_closedOnlyIn : GoodIn wsX4_opening wsX4_closedOnlyIn := goodIn_r _ [10, 11, 12, 6, 13, 14, 15] (by decide +kernel) (by decide +kernel)
set_option maxRecDepth 20000 in
theorem gX4_opening_X4_closedOnlyIn : GoodIn wsX4_opening (va_wsS RX4 160 yX4_closedOnlyIn wsX4_closedOnlyIn) := goodIn_app (goodIn_of _ (by decide +kernel)) ggX4_opening_X4_closedOnlyIn
theorem dX4_opening_0 : decode cX4_opening 0 = .ok (.aload_n 0, 1) := by decide +kernel
theorem dX4_opening_1 : decode cX4_opening 1 = .ok (.invokevirtual 86, 3) := by decide +kernel
theorem dX4_opening_4 : decode cX4_opening 4 = .ok (.ifCond .eq 17, 3) := by decide +kernel
theorem dX4_opening_7 : decode cX4_opening 7 = .ok (.aload_n 0, 1) := by decide +kernel
theorem dX4_opening_8 : decode cX4_opening 8 = .ok (.getfield 35, 3) := by decide +kernel
theorem dX4_opening_11 : decode cX4_opening 11 = .ok (.aload_n 0, 1) := by decide +kernel
theorem dX4_opening_12 : decode cX4_opening 12 = .ok (.getfield 39, 3) := by decide +kernel
theorem dX4_opening_15 : decode cX4_opening 15 = .ok (.invokestatic 160, 3) := by decide +kernel
theorem dX4_opening_18 : decode cX4_opening 18 = .ok (.goto 5, 3) := by decide +kernel
theorem dX4_opening_21 : decode cX4_opening 21 = .ok (.bipush (-5), 2) := by decide +kernel
theorem dX4_opening_23 : decode cX4_opening 23 = .ok (.ireturn, 1) := by decide +kernel
set_option maxRecDepth 20000 in
theorem ggX4_closing_X4_isChanging : GoodIn wsX4_closing wsX4_isChanging := goodIn_r _ [7, 1, 16, 17, 18, 19, 20, 21, 22, 23, 24, 25, 26] (by decide +kernel) (by decide +kernel)
set_option maxRecDepth 20000 in
theorem gX4_closing_X4_isChanging : GoodIn wsX4_closing (wsV RX4 86 RX4 yX4_isChanging wsX4_isChanging) := goodIn_app (goodIn_of _ (by decide +kernel)) ggX4_closing_X4_isChanging
set_option maxRecDepth 20000 in
theorem ggX4_closing_X4_closedOnlyIn : GoodIn wsX4_closing wsX4_closedOnlyIn := goodIn_r _ [10, 11, 12, 6, 13, 14, 15] (by decide +kernel) (by decide +kernel)
set_option maxRecDepth 20000 in
theorem gX4_closing_X4_closedOnlyIn : GoodIn wsX4_closing (va_wsS RX4 160 yX4_closedOnlyIn wsX4_closedOnlyIn) := goodIn_app (goodIn_of _ (by decide +kernel)) ggX4_closing_X4_closedOnlyIn
theorem dX4_closing_0 : decode cX4_closing 0 = .ok (.aload_n 0, 1) := by decide +kernel
theorem dX4_closing_1 : decode cX4_closing 1 = .ok (.invokevirtual 86, 3) := by decide +kernel
theorem dX4_closing_4 : decode cX4_closing 4 = .ok (.ifCond .eq 17, 3) := by decide +kernel
theorem dX4_closing_7 : decode cX4_closing 7 = .ok (.aload_n 0, 1) := by decide +kernel
theorem dX4_closing_8 : decode cX4_closing 8 = .ok (.getfield 39, 3) := by decide +kernel
theorem dX4_closing_11 : decode cX4_closing 11 = .ok (.aload_n 0, 1) := by decide +kernel
theorem dX4_closing_12 : decode cX4_closing 12 = .ok (.getfield 35, 3) := by decide +kernel
theorem dX4_closing_15 : decode cX4_closing 15 = .ok (.invokestatic 160, 3) := by decide +kernel
theorem dX4_closing_18 : decode cX4_closing 18 = .ok (.goto 5, 3) := by decide +kernel
theorem dX4_closing_21 : decode cX4_closing 21 = .ok (.bipush (-5), 2) := by decide +kernel
theorem dX4_closing_23 : decode cX4_closing 23 = .ok (.ireturn, 1) := by decide +kernel
set_option maxRecDepth 20000 in
theorem ggX4_pressureOf_X4_isChanging : GoodIn wsX4_pressureOf wsX4_isChanging := goodIn_r _ [6, 7, 38, 39, 40, 41, 42, 43, 44, 45, 46, 47, 48] (by decide +kernel) (by decide +kernel)
set_option maxRecDepth 20000 in
theorem gX4_pressureOf_X4_isChanging : GoodIn wsX4_pressureOf (wsV RX4 86 RX4 yX4_isChanging wsX4_isChanging) := goodIn_app (goodIn_of _ (by decide +kernel)) ggX4_pressureOf_X4_isChanging
set_option maxRecDepth 20000 in
theorem ggX4_pressureOf_X4_opening : GoodIn wsX4_pressureOf wsX4_opening := goodIn_r _ [11, 1, 7, 2, 3, 4, 5, 6, 12, 13, 14, 15, 16, 17, 18, 19, 38, 39, 40, 41, 42, 43, 44, 45, 46, 47, 48] (by decide +kernel) (by decide +kernel)
set_option maxRecDepth 20000 in
theorem gX4_pressureOf_X4_opening : GoodIn wsX4_pressureOf (wsV RX4 163 RX4 yX4_opening wsX4_opening) := goodIn_app (goodIn_of _ (by decide +kernel)) ggX4_pressureOf_X4_opening
set_option maxRecDepth 20000 in
theorem ggX4_pressureOf_X4_openingPressure : GoodIn wsX4_pressureOf wsX4_openingPressure := goodIn_r _ [23, 24, 25, 26, 27, 5, 28, 29, 38, 39, 40, 41, 42, 43, 44, 45, 46, 47, 48] (by decide +kernel) (by decide +kernel)
set_option maxRecDepth 20000 in
theorem gX4_pressureOf_X4_openingPressure : GoodIn wsX4_pressureOf (wsV RX4 166 RX4 yX4_openingPressure wsX4_openingPressure) := goodIn_app (goodIn_of _ (by decide +kernel)) ggX4_pressureOf_X4_openingPressure
set_option maxRecDepth 20000 in
theorem ggX4_pressureOf_X4_closing : GoodIn wsX4_pressureOf wsX4_closing := goodIn_r _ [33, 7, 1, 2, 3, 4, 5, 6, 12, 13, 14, 15, 16, 17, 18, 19, 38, 39, 40, 41, 42, 43, 44, 45, 46, 47, 48] (by decide +kernel) (by decide +kernel)
set_option maxRecDepth 20000 in
theorem gX4_pressureOf_X4_closing : GoodIn wsX4_pressureOf (wsV RX4 170 RX4 yX4_closing wsX4_closing) := goodIn_app (goodIn_of _ (by decide +kernel)) ggX4_pressureOf_X4_closing
set_option maxRecDepth 20000 in
theorem ggX4_pressureOf_X4_closingPressure : GoodIn wsX4_pressureOf wsX4_closingPressure := goodIn_r _ [37, 24, 25, 26, 27, 5, 28, 29, 38, 39, 40, 41, 42, 43, 44, 45, 46, 47, 48] (by decide +kernel) (by decide +kernel)
set_option maxRecDepth 20000 in
theorem gX4_pressureOf_X4_closingPressure : GoodIn wsX4_pressureOf (wsV RX4 173 RX4 yX4_closingPressure wsX4_closingPressure) := goodIn_app (goodIn_of _ (by decide +kernel)) ggX4_pressureOf_X4_closingPressure
set_option maxRecDepth 20000 in
theorem ggX4_pressureOf_X4_isClosed : GoodIn wsX4_pressureOf wsX4_isClosed := goodIn_r _ [17, 18, 19] (by decide +kernel) (by decide +kernel)
set_option maxRecDepth 20000 in
theorem gX4_pressureOf_X4_isClosed : GoodIn wsX4_pressureOf (va_wsS RX4 156 yX4_isClosed wsX4_isClosed) := goodIn_app (goodIn_of _ (by decide +kernel)) ggX4_pressureOf_X4_isClosed
theorem dX4_pressureOf_0 : decode cX4_pressureOf 0 = .ok (.aload_n 0, 1) := by decide +kernel
theorem dX4_pressureOf_1 : decode cX4_pressureOf 1 = .ok (.invokevirtual 86, 3) := by decide +kernel
theorem dX4_pressureOf_4 : decode cX4_pressureOf 4 = .ok (.ifCond .eq 16, 3) := by decide +kernel
theorem dX4_pressureOf_7 : decode cX4_pressureOf 7 = .ok (.iload_n 1, 1) := by decide +kernel
theorem dX4_pressureOf_8 : decode cX4_pressureOf 8 = .ok (.aload_n 0, 1) := by decide +kernel
theorem dX4_pressureOf_9 : decode cX4_pressureOf 9 = .ok (.invokevirtual 163, 3) := by decide +kernel
theorem dX4_pressureOf_12 : decode cX4_pressureOf 12 = .ok (.if_icmp .ne 8, 3) := by decide +kernel
theorem dX4_pressureOf_15 : decode cX4_pressureOf 15 = .ok (.aload_n 0, 1) := by decide +kernel
theorem dX4_pressureOf_16 : decode cX4_pressureOf 16 = .ok (.invokevirtual 166, 3) := by decide +kernel
theorem dX4_pressureOf_19 : decode cX4_pressureOf 19 = .ok (.freturn, 1) := by decide +kernel
theorem dX4_pressureOf_20 : decode cX4_pressureOf 20 = .ok (.aload_n 0, 1) := by decide +kernel
theorem dX4_pressureOf_21 : decode cX4_pressureOf 21 = .ok (.invokevirtual 86, 3) := by decide +kernel
theorem dX4_pressureOf_24 : decode cX4_pressureOf 24 = .ok (.ifCond .eq 16, 3) := by decide +kernel
theorem dX4_pressureOf_27 : decode cX4_pressureOf 27 = .ok (.iload_n 1, 1) := by decide +kernel
theorem dX4_pressureOf_28 : decode cX4_pressureOf 28 = .ok (.aload_n 0, 1) := by decide +kernel
theorem dX4_pressureOf_29 : decode cX4_pressureOf 29 = .ok (.invokevirtual 170, 3) := by decide +kernel
theorem dX4_pressureOf_32 : decode cX4_pressureOf 32 = .ok (.if_icmp .ne 8, 3) := by decide +kernel
theorem dX4_pressureOf_35 : decode cX4_pressureOf 35 = .ok (.aload_n 0, 1) := by decide +kernel
theorem dX4_pressureOf_36 : decode cX4_pressureOf 36 = .ok (.invokevirtual 173, 3) := by decide +kernel
theorem dX4_pressureOf_39 : decode cX4_pressureOf 39 = .ok (.freturn, 1) := by decide +kernel
theorem dX4_pressureOf_40 : decode cX4_pressureOf 40 = .ok (.iload_n 1, 1) := by decide +kernel
theorem dX4_pressureOf_41 : decode cX4_pressureOf 41 = .ok (.aload_n 0, 1) := by decide +kernel
theorem dX4_pressureOf_42 : decode cX4_pressureOf 42 = .ok (.getfield 35, 3) := by decide +kernel
theorem dX4_pressureOf_45 : decode cX4_pressureOf 45 = .ok (.invokestatic 156, 3) := by decide +kernel
theorem dX4_pressureOf_48 : decode cX4_pressureOf 48 = .ok (.ifCond .eq 7, 3) := by decide +kernel
theorem dX4_pressureOf_51 : decode cX4_pressureOf 51 = .ok (.fconst 1, 1) := by decide +kernel
theorem dX4_pressureOf_52 : decode cX4_pressureOf 52 = .ok (.goto 4, 3) := by decide +kernel
theorem dX4_pressureOf_55 : decode cX4_pressureOf 55 = .ok (.fconst 0, 1) := by decide +kernel
theorem dX4_pressureOf_56 : decode cX4_pressureOf 56 = .ok (.freturn, 1) := by decide +kernel
set_option maxRecDepth 20000 in
theorem ggX4_openingPressure_X4_setting : GoodIn wsX4_openingPressure wsX4_setting := goodIn_r _ [6, 7, 8, 9, 10, 11, 12, 13, 14, 15, 16, 17, 18] (by decide +kernel) (by decide +kernel)
set_option maxRecDepth 20000 in
theorem gX4_openingPressure_X4_setting : GoodIn wsX4_openingPressure (wsV RX4 72 RX4 yX4_setting wsX4_setting) := goodIn_app (goodIn_of _ (by decide +kernel)) ggX4_openingPressure_X4_setting
theorem dX4_openingPressure_0 : decode cX4_openingPressure 0 = .ok (.aload_n 0, 1) := by decide +kernel
theorem dX4_openingPressure_1 : decode cX4_openingPressure 1 = .ok (.iconst 0, 1) := by decide +kernel
theorem dX4_openingPressure_2 : decode cX4_openingPressure 2 = .ok (.invokevirtual 72, 3) := by decide +kernel
theorem dX4_openingPressure_5 : decode cX4_openingPressure 5 = .ok (.istore_n 1, 1) := by decide +kernel
theorem dX4_openingPressure_6 : decode cX4_openingPressure 6 = .ok (.iload_n 1, 1) := by decide +kernel
theorem dX4_openingPressure_7 : decode cX4_openingPressure 7 = .ok (.ifCond .le 16, 3) := by decide +kernel
theorem dX4_openingPressure_10 : decode cX4_openingPressure 10 = .ok (.fconst 1, 1) := by decide +kernel
theorem dX4_openingPressure_11 : decode cX4_openingPressure 11 = .ok (.aload_n 0, 1) := by decide +kernel
theorem dX4_openingPressure_12 : decode cX4_openingPressure 12 = .ok (.getfield 42, 3) := by decide +kernel
theorem dX4_openingPressure_15 : decode cX4_openingPressure 15 = .ok (.i2f, 1) := by decide +kernel
theorem dX4_openingPressure_16 : decode cX4_openingPressure 16 = .ok (.iload_n 1, 1) := by decide +kernel
theorem dX4_openingPressure_17 : decode cX4_openingPressure 17 = .ok (.i2f, 1) := by decide +kernel
theorem dX4_openingPressure_18 : decode cX4_openingPressure 18 = .ok (.fdiv, 1) := by decide +kernel
theorem dX4_openingPressure_19 : decode cX4_openingPressure 19 = .ok (.fsub, 1) := by decide +kernel
theorem dX4_openingPressure_20 : decode cX4_openingPressure 20 = .ok (.goto 4, 3) := by decide +kernel
theorem dX4_openingPressure_23 : decode cX4_openingPressure 23 = .ok (.fconst 0, 1) := by decide +kernel
theorem dX4_openingPressure_24 : decode cX4_openingPressure 24 = .ok (.freturn, 1) := by decide +kernel
set_option maxRecDepth 20000 in
theorem ggX4_closingPressure_X4_setting : GoodIn wsX4_closingPressure wsX4_setting := goodIn_r _ [6, 7, 8, 9, 10, 11, 12, 13, 14, 15, 16, 17, 18] (by decide +kernel) (by decide +kernel)
set_option maxRecDepth 20000 in
theorem gX4_closingPressure_X4_setting : GoodIn wsX4_closingPressure (wsV RX4 72 RX4 yX4_setting wsX4_setting) := goodIn_app (goodIn_of _ (by decide +kernel)) ggX4_closingPressure_X4_setting
theorem dX4_closingPressure_0 : decode cX4_closingPressure 0 = .ok (.aload_n 0, 1) := by decide +kernel
theorem dX4_closingPressure_1 : decode cX4_closingPressure 1 = .ok (.iconst 1, 1) := by decide +kernel
theorem dX4_closingPressure_2 : decode cX4_closingPressure 2 = .ok (.invokevirtual 72, 3) := by decide +kernel
theorem dX4_closingPressure_5 : decode cX4_closingPressure 5 = .ok (.istore_n 1, 1) := by decide +kernel
theorem dX4_closingPressure_6 : decode cX4_closingPressure 6 = .ok (.aload_n 0, 1) := by decide +kernel
theorem dX4_closingPressure_7 : decode cX4_closingPressure 7 = .ok (.iconst 0, 1) := by decide +kernel
theorem dX4_closingPressure_8 : decode cX4_closingPressure 8 = .ok (.invokevirtual 72, 3) := by decide +kernel
theorem dX4_closingPressure_11 : decode cX4_closingPressure 11 = .ok (.istore_n 2, 1) := by decide +kernel
theorem dX4_closingPressure_12 : decode cX4_closingPressure 12 = .ok (.aload_n 0, 1) := by decide +kernel
theorem dX4_closingPressure_13 : decode cX4_closingPressure 13 = .ok (.getfield 42, 3) := by decide +kernel
theorem dX4_closingPressure_16 : decode cX4_closingPressure 16 = .ok (.iload_n 1, 1) := by decide +kernel
theorem dX4_closingPressure_17 : decode cX4_closingPressure 17 = .ok (.if_icmp .le 8, 3) := by decide +kernel
theorem dX4_closingPressure_20 : decode cX4_closingPressure 20 = .ok (.iload_n 2, 1) := by decide +kernel
theorem dX4_closingPressure_21 : decode cX4_closingPressure 21 = .ok (.iload_n 1, 1) := by decide +kernel
theorem dX4_closingPressure_22 : decode cX4_closingPressure 22 = .ok (.if_icmp .gt 5, 3) := by decide +kernel
theorem dX4_closingPressure_25 : decode cX4_closingPressure 25 = .ok (.fconst 0, 1) := by decide +kernel
theorem dX4_closingPressure_26 : decode cX4_closingPressure 26 = .ok (.freturn, 1) := by decide +kernel
theorem dX4_closingPressure_27 : decode cX4_closingPressure 27 = .ok (.aload_n 0, 1) := by decide +kernel
theorem dX4_closingPressure_28 : decode cX4_closingPressure 28 = .ok (.getfield 42, 3) := by decide +kernel
theorem dX4_closingPressure_31 : decode cX4_closingPressure 31 = .ok (.iload_n 1, 1) := by decide +kernel
theorem dX4_closingPressure_32 : decode cX4_closingPressure 32 = .ok (.isub, 1) := by decide +kernel
theorem dX4_closingPressure_33 : decode cX4_closingPressure 33 = .ok (.i2f, 1) := by decide +kernel
theorem dX4_closingPressure_34 : decode cX4_closingPressure 34 = .ok (.iload_n 2, 1) := by decide +kernel
theorem dX4_closingPressure_35 : decode cX4_closingPressure 35 = .ok (.iload_n 1, 1) := by decide +kernel
theorem dX4_closingPressure_36 : decode cX4_closingPressure 36 = .ok (.isub, 1) := by decide +kernel
theorem dX4_closingPressure_37 : decode cX4_closingPressure 37 = .ok (.i2f, 1) := by decide +kernel
theorem dX4_closingPressure_38 : decode cX4_closingPressure 38 = .ok (.fdiv, 1) := by decide +kernel
theorem dX4_closingPressure_39 : decode cX4_closingPressure 39 = .ok (.freturn, 1) := by decide +kernel
set_option maxRecDepth 20000 in
theorem ggX4_greaterPressure_X4_isChanging : GoodIn wsX4_greaterPressure wsX4_isChanging := goodIn_r _ [5, 6, 21, 22, 23, 24, 25, 26, 27, 28, 29, 30, 31] (by decide +kernel) (by decide +kernel)
set_option maxRecDepth 20000 in
theorem gX4_greaterPressure_X4_isChanging : GoodIn wsX4_greaterPressure (wsV RX4 86 RX4 yX4_isChanging wsX4_isChanging) := goodIn_app (goodIn_of _ (by decide +kernel)) ggX4_greaterPressure_X4_isChanging
set_option maxRecDepth 20000 in
theorem ggX4_greaterPressure_X4_openingPressure : GoodIn wsX4_greaterPressure wsX4_openingPressure := goodIn_r _ [10, 11, 12, 13, 14, 4, 15, 16, 21, 22, 23, 24, 25, 26, 27, 28, 29, 30, 31] (by decide +kernel) (by decide +kernel)
set_option maxRecDepth 20000 in
theorem gX4_greaterPressure_X4_openingPressure : GoodIn wsX4_greaterPressure (wsV RX4 166 RX4 yX4_openingPressure wsX4_openingPressure) := goodIn_app (goodIn_of _ (by decide +kernel)) ggX4_greaterPressure_X4_openingPressure
set_option maxRecDepth 20000 in
theorem ggX4_greaterPressure_X4_closingPressure : GoodIn wsX4_greaterPressure wsX4_closingPressure := goodIn_r _ [20, 11, 12, 13, 14, 4, 15, 16, 21, 22, 23, 24, 25, 26, 27, 28, 29, 30, 31] (by decide +kernel) (by decide +kernel)
set_option maxRecDepth 20000 in
theorem gX4_greaterPressure_X4_closingPressure : GoodIn wsX4_greaterPressure (wsV RX4 173 RX4 yX4_closingPressure wsX4_closingPressure) := goodIn_app (goodIn_of _ (by decide +kernel)) ggX4_greaterPressure_X4_closingPressure
theorem dX4_greaterPressure_0 : decode cX4_greaterPressure 0 = .ok (.aload_n 0, 1) := by decide +kernel
theorem dX4_greaterPressure_1 : decode cX4_greaterPressure 1 = .ok (.invokevirtual 86, 3) := by decide +kernel
theorem dX4_greaterPressure_4 : decode cX4_greaterPressure 4 = .ok (.ifCond .ne 5, 3) := by decide +kernel
theorem dX4_greaterPressure_7 : decode cX4_greaterPressure 7 = .ok (.fconst 1, 1) := by decide +kernel
theorem dX4_greaterPressure_8 : decode cX4_greaterPressure 8 = .ok (.freturn, 1) := by decide +kernel
theorem dX4_greaterPressure_9 : decode cX4_greaterPressure 9 = .ok (.aload_n 0, 1) := by decide +kernel
theorem dX4_greaterPressure_10 : decode cX4_greaterPressure 10 = .ok (.invokevirtual 166, 3) := by decide +kernel
theorem dX4_greaterPressure_13 : decode cX4_greaterPressure 13 = .ok (.fstore_n 1, 1) := by decide +kernel
theorem dX4_greaterPressure_14 : decode cX4_greaterPressure 14 = .ok (.aload_n 0, 1) := by decide +kernel
theorem dX4_greaterPressure_15 : decode cX4_greaterPressure 15 = .ok (.invokevirtual 173, 3) := by decide +kernel
theorem dX4_greaterPressure_18 : decode cX4_greaterPressure 18 = .ok (.fstore_n 2, 1) := by decide +kernel
theorem dX4_greaterPressure_19 : decode cX4_greaterPressure 19 = .ok (.fload_n 1, 1) := by decide +kernel
theorem dX4_greaterPressure_20 : decode cX4_greaterPressure 20 = .ok (.fload_n 2, 1) := by decide +kernel
theorem dX4_greaterPressure_21 : decode cX4_greaterPressure 21 = .ok (.fcmp .l, 1) := by decide +kernel
theorem dX4_greaterPressure_22 : decode cX4_greaterPressure 22 = .ok (.ifCond .lt 7, 3) := by decide +kernel
theorem dX4_greaterPressure_25 : decode cX4_greaterPressure 25 = .ok (.fload_n 1, 1) := by decide +kernel
theorem dX4_greaterPressure_26 : decode cX4_greaterPressure 26 = .ok (.goto 4, 3) := by decide +kernel
theorem dX4_greaterPressure_29 : decode cX4_greaterPressure 29 = .ok (.fload_n 2, 1) := by decide +kernel
theorem dX4_greaterPressure_30 : decode cX4_greaterPressure 30 = .ok (.freturn, 1) := by decide +kernel
set_option maxRecDepth 20000 in
theorem ggX5_init_X4_init : GoodIn wsX5_init wsX4_init := goodIn_r _ [21, 22, 2, 3, 23, 24, 25, 26, 27, 28, 29, 30, 31, 32, 33, 34, 35, 36, 37, 38, 39, 40, 41, 42, 43, 44, 45, 46, 47, 48, 49, 50, 51, 52, 53, 54, 55, 56, 57, 58, 106, 79, 80, 81, 82, 83, 84, 85, 86, 87, 88, 89, 107, 108, 109] (by decide +kernel) (by decide +kernel)
set_option maxRecDepth 20000 in
theorem gX5_init_X4_init : GoodIn wsX5_init (wsX4_init) := ggX5_init_X4_init
set_option maxRecDepth 20000 in
theorem ggX5_init_X1_init : GoodIn wsX5_init wsX1_init := goodIn_r _ [61, 62, 2, 3, 63, 64, 65, 66, 5, 6, 67, 20, 21, 22, 23, 24, 25, 26, 27, 28, 29, 30, 31, 32, 33, 34, 35, 36, 37, 38, 39, 40, 41, 42, 43, 44, 45, 46, 47, 48, 49, 50, 51, 52, 53, 54, 55, 56, 57, 58, 96, 97, 98, 79, 80, 81, 82, 83, 84, 85, 86, 87, 88, 89, 106, 107, 108, 109] (by decide +kernel) (by decide +kernel)
set_option maxRecDepth 20000 in
theorem gX5_init_X1_init : GoodIn wsX5_init (wsX1_init) := ggX5_init_X1_init
set_option maxRecDepth 20000 in
theorem ggX5_init_X0_init : GoodIn wsX5_init wsX0_init := goodIn_r _ [69, 70, 2, 3, 71, 72, 73, 31, 74, 75, 76, 77, 78, 99, 100, 101, 102, 103, 104, 105] (by decide +kernel) (by decide +kernel)
set_option maxRecDepth 20000 in
theorem gX5_init_X0_init_n31 : GoodIn wsX5_init (wsX0_init) := ggX5_init_X0_init
theorem dX5_init_0 : decode cX5_init 0 = .ok (.aload_n 0, 1) := by decide +kernel
theorem dX5_init_1 : decode cX5_init 1 = .ok (.invokespecial 1, 3) := by decide +kernel
theorem dX5_init_4 : decode cX5_init 4 = .ok (.aload_n 0, 1) := by decide +kernel
theorem dX5_init_5 : decode cX5_init 5 = .ok (.new 7, 3) := by decide +kernel
theorem dX5_init_8 : decode cX5_init 8 = .ok (.dup, 1) := by decide +kernel
theorem dX5_init_9 : decode cX5_init 9 = .ok (.invokespecial 9, 3) := by decide +kernel
theorem dX5_init_12 : decode cX5_init 12 = .ok (.putfield 10, 3) := by decide +kernel
theorem dX5_init_15 : decode cX5_init 15 = .ok (.aload_n 0, 1) := by decide +kernel
theorem dX5_init_16 : decode cX5_init 16 = .ok (.new 7, 3) := by decide +kernel
theorem dX5_init_19 : decode cX5_init 19 = .ok (.dup, 1) := by decide +kernel
theorem dX5_init_20 : decode cX5_init 20 = .ok (.invokespecial 9, 3) := by decide +kernel
theorem dX5_init_23 : decode cX5_init 23 = .ok (.putfield 16, 3) := by decide +kernel
theorem dX5_init_26 : decode cX5_init 26 = .ok (.aload_n 0, 1) := by decide +kernel
theorem dX5_init_27 : decode cX5_init 27 = .ok (.new 7, 3) := by decide +kernel
theorem dX5_init_30 : decode cX5_init 30 = .ok (.dup, 1) := by decide +kernel
theorem dX5_init_31 : decode cX5_init 31 = .ok (.invokespecial 9, 3) := by decide +kernel
theorem dX5_init_34 : decode cX5_init 34 = .ok (.putfield 19, 3) := by decide +kernel
theorem dX5_init_37 : decode cX5_init 37 = .ok (.aload_n 0, 1) := by decide +kernel
theorem dX5_init_38 : decode cX5_init 38 = .ok (.new 22, 3) := by decide +kernel
theorem dX5_init_41 : decode cX5_init 41 = .ok (.dup, 1) := by decide +kernel
theorem dX5_init_42 : decode cX5_init 42 = .ok (.invokespecial 24, 3) := by decide +kernel
theorem dX5_init_45 : decode cX5_init 45 = .ok (.putfield 25, 3) := by decide +kernel
theorem dX5_init_48 : decode cX5_init 48 = .ok (.aload_n 0, 1) := by decide +kernel
theorem dX5_init_49 : decode cX5_init 49 = .ok (.new 29, 3) := by decide +kernel
theorem dX5_init_52 : decode cX5_init 52 = .ok (.dup, 1) := by decide +kernel
theorem dX5_init_53 : decode cX5_init 53 = .ok (.invokespecial 31, 3) := by decide +kernel
theorem dX5_init_56 : decode cX5_init 56 = .ok (.putfield 32, 3) := by decide +kernel
theorem dX5_init_59 : decode cX5_init 59 = .ok (.aload_n 0, 1) := by decide +kernel
theorem dX5_init_60 : decode cX5_init 60 = .ok (.iconst 0, 1) := by decide +kernel
theorem dX5_init_61 : decode cX5_init 61 = .ok (.putfield 36, 3) := by decide +kernel
theorem dX5_init_64 : decode cX5_init 64 = .ok (.return_, 1) := by decide +kernel
set_option maxRecDepth 20000 in
theorem ggX5_setMap_X3_has : GoodIn wsX5_setMap wsX3_has := goodIn_r _ [6] (by decide +kernel) (by decide +kernel)
set_option maxRecDepth 20000 in
theorem gX5_setMap_X3_has : GoodIn wsX5_setMap (va_wsS RX5 40 yX3_has wsX3_has) := goodIn_app (goodIn_of _ (by decide +kernel)) ggX5_setMap_X3_has
set_option maxRecDepth 20000 in
theorem ggX5_setMap_X5_isSpeed : GoodIn wsX5_setMap wsX5_isSpeed := goodIn_r _ [10, 11] (by decide +kernel) (by decide +kernel)
set_option maxRecDepth 20000 in
theorem gX5_setMap_X5_isSpeed : GoodIn wsX5_setMap (va_wsS RX5 46 yX5_isSpeed wsX5_isSpeed) := goodIn_app (goodIn_of _ (by decide +kernel)) ggX5_setMap_X5_isSpeed
set_option maxRecDepth 20000 in
theorem ggX5_setMap_X5_floatOf : GoodIn wsX5_setMap wsX5_floatOf := goodIn_r _ [14, 15, 16, 17] (by decide +kernel) (by decide +kernel)
set_option maxRecDepth 20000 in
theorem gX5_setMap_X5_floatOf : GoodIn wsX5_setMap (va_wsS RX5 50 yX5_floatOf wsX5_floatOf) := goodIn_app (goodIn_of _ (by decide +kernel)) ggX5_setMap_X5_floatOf
set_option maxRecDepth 20000 in
theorem ggX5_setMap_X3_speed : GoodIn wsX5_setMap wsX3_speed := goodIn_r _ [21, 22, 95] (by decide +kernel) (by decide +kernel)
set_option maxRecDepth 20000 in
theorem gX5_setMap_X3_speed : GoodIn wsX5_setMap (wsV RX5 58 RX3 yX3_speed wsX3_speed) := goodIn_app (goodIn_of _ (by decide +kernel)) ggX5_setMap_X3_speed
set_option maxRecDepth 20000 in
theorem ggX5_setMap_X1_record : GoodIn wsX5_setMap wsX1_record := goodIn_r _ [27, 28, 29, 30, 31, 32, 33, 34, 35, 36, 26, 37, 38, 39, 40, 41, 42, 43, 44, 45, 46, 47, 48, 49, 50, 51, 52, 53, 54, 55, 56, 57, 58, 59, 60, 61, 5, 62, 22, 63, 64, 65, 66, 67, 68, 69, 70, 71, 72, 96, 97, 98, 84, 85, 86, 87, 88, 89, 90, 91, 92, 93, 94, 95, 99, 100, 101] (by decide +kernel) (by decide +kernel)
set_option maxRecDepth 20000 in
theorem gX5_setMap_X1_record : GoodIn wsX5_setMap (wsV RX5 62 RX1 yX1_record wsX1_record) := goodIn_app (goodIn_of _ (by decide +kernel)) ggX5_setMap_X1_record
set_option maxRecDepth 20000 in
theorem ggX5_setMap_X3_put : GoodIn wsX5_setMap wsX3_put := goodIn_r _ [76, 22, 77, 4, 5, 6, 95] (by decide +kernel) (by decide +kernel)
set_option maxRecDepth 20000 in
theorem gX5_setMap_X3_put : GoodIn wsX5_setMap (wsV RX5 66 RX3 yX3_put wsX3_put) := goodIn_app (goodIn_of _ (by decide +kernel)) ggX5_setMap_X3_put
theorem dX5_setMap_0 : decode cX5_setMap 0 = .ok (.iload_n 2, 1) := by decide +kernel
theorem dX5_setMap_1 : decode cX5_setMap 1 = .ok (.ifCond .lt 8, 3) := by decide +kernel
theorem dX5_setMap_4 : decode cX5_setMap 4 = .ok (.iload_n 2, 1) := by decide +kernel
theorem dX5_setMap_5 : decode cX5_setMap 5 = .ok (.iconst 3, 1) := by decide +kernel
theorem dX5_setMap_6 : decode cX5_setMap 6 = .ok (.if_icmp .le 6, 3) := by decide +kernel
theorem dX5_setMap_9 : decode cX5_setMap 9 = .ok (.bipush (-2), 2) := by decide +kernel
theorem dX5_setMap_11 : decode cX5_setMap 11 = .ok (.ireturn, 1) := by decide +kernel
theorem dX5_setMap_12 : decode cX5_setMap 12 = .ok (.iload_n 1, 1) := by decide +kernel
theorem dX5_setMap_13 : decode cX5_setMap 13 = .ok (.iload_n 2, 1) := by decide +kernel
theorem dX5_setMap_14 : decode cX5_setMap 14 = .ok (.invokestatic 40, 3) := by decide +kernel
theorem dX5_setMap_17 : decode cX5_setMap 17 = .ok (.ifCond .ne 5, 3) := by decide +kernel
theorem dX5_setMap_20 : decode cX5_setMap 20 = .ok (.iconst (-1), 1) := by decide +kernel
theorem dX5_setMap_21 : decode cX5_setMap 21 = .ok (.ireturn, 1) := by decide +kernel
theorem dX5_setMap_22 : decode cX5_setMap 22 = .ok (.iload_n 3, 1) := by decide +kernel
theorem dX5_setMap_23 : decode cX5_setMap 23 = .ok (.invokestatic 46, 3) := by decide +kernel
theorem dX5_setMap_26 : decode cX5_setMap 26 = .ok (.ifCond .ne 6, 3) := by decide +kernel
theorem dX5_setMap_29 : decode cX5_setMap 29 = .ok (.bipush (-2), 2) := by decide +kernel
theorem dX5_setMap_31 : decode cX5_setMap 31 = .ok (.ireturn, 1) := by decide +kernel
theorem dX5_setMap_32 : decode cX5_setMap 32 = .ok (.iload_n 3, 1) := by decide +kernel
theorem dX5_setMap_33 : decode cX5_setMap 33 = .ok (.invokestatic 50, 3) := by decide +kernel
theorem dX5_setMap_36 : decode cX5_setMap 36 = .ok (.fstore 4, 2) := by decide +kernel
theorem dX5_setMap_38 : decode cX5_setMap 38 = .ok (.aload_n 0, 1) := by decide +kernel
theorem dX5_setMap_39 : decode cX5_setMap 39 = .ok (.getfield 10, 3) := by decide +kernel
theorem dX5_setMap_42 : decode cX5_setMap 42 = .ok (.getfield 54, 3) := by decide +kernel
theorem dX5_setMap_45 : decode cX5_setMap 45 = .ok (.iload_n 1, 1) := by decide +kernel
theorem dX5_setMap_46 : decode cX5_setMap 46 = .ok (.iload_n 2, 1) := by decide +kernel
theorem dX5_setMap_47 : decode cX5_setMap 47 = .ok (.invokevirtual 58, 3) := by decide +kernel
theorem dX5_setMap_50 : decode cX5_setMap 50 = .ok (.fload 4, 2) := by decide +kernel
theorem dX5_setMap_52 : decode cX5_setMap 52 = .ok (.fcmp .l, 1) := by decide +kernel
theorem dX5_setMap_53 : decode cX5_setMap 53 = .ok (.ifCond .ne 6, 3) := by decide +kernel
theorem dX5_setMap_56 : decode cX5_setMap 56 = .ok (.bipush (-5), 2) := by decide +kernel
theorem dX5_setMap_58 : decode cX5_setMap 58 = .ok (.ireturn, 1) := by decide +kernel
theorem dX5_setMap_59 : decode cX5_setMap 59 = .ok (.aload_n 0, 1) := by decide +kernel
theorem dX5_setMap_60 : decode cX5_setMap 60 = .ok (.getfield 25, 3) := by decide +kernel
theorem dX5_setMap_63 : decode cX5_setMap 63 = .ok (.aload_n 0, 1) := by decide +kernel
theorem dX5_setMap_64 : decode cX5_setMap 64 = .ok (.getfield 10, 3) := by decide +kernel
theorem dX5_setMap_67 : decode cX5_setMap 67 = .ok (.invokevirtual 62, 3) := by decide +kernel
theorem dX5_setMap_70 : decode cX5_setMap 70 = .ok (.aload_n 0, 1) := by decide +kernel
theorem dX5_setMap_71 : decode cX5_setMap 71 = .ok (.getfield 10, 3) := by decide +kernel
theorem dX5_setMap_74 : decode cX5_setMap 74 = .ok (.getfield 54, 3) := by decide +kernel
theorem dX5_setMap_77 : decode cX5_setMap 77 = .ok (.iload_n 1, 1) := by decide +kernel
theorem dX5_setMap_78 : decode cX5_setMap 78 = .ok (.iload_n 2, 1) := by decide +kernel
theorem dX5_setMap_79 : decode cX5_setMap 79 = .ok (.fload 4, 2) := by decide +kernel
theorem dX5_setMap_81 : decode cX5_setMap 81 = .ok (.invokevirtual 66, 3) := by decide +kernel
theorem dX5_setMap_84 : decode cX5_setMap 84 = .ok (.iconst 1, 1) := by decide +kernel
theorem dX5_setMap_85 : decode cX5_setMap 85 = .ok (.ireturn, 1) := by decide +kernel
set_option maxRecDepth 20000 in
theorem ggX5_setNumber_X4_allows : GoodIn wsX5_setNumber wsX4_allows := goodIn_r _ [7, 8, 9, 10, 6, 11, 12, 78, 79, 80, 81, 82, 83, 84, 85, 86, 87, 88] (by decide +kernel) (by decide +kernel)
set_option maxRecDepth 20000 in
theorem gX5_setNumber_X4_allows : GoodIn wsX5_setNumber (wsV RX5 70 RX4 yX4_allows wsX4_allows) := goodIn_app (goodIn_of _ (by decide +kernel)) ggX5_setNumber_X4_allows
set_option maxRecDepth 20000 in
theorem ggX5_setNumber_X4_isChanging : GoodIn wsX5_setNumber wsX4_isChanging := goodIn_r _ [16, 17, 78, 79, 80, 81, 82, 83, 84, 85, 86, 87, 88] (by decide +kernel) (by decide +kernel)
set_option maxRecDepth 20000 in
theorem gX5_setNumber_X4_isChanging : GoodIn wsX5_setNumber (wsV RX5 73 RX4 yX4_isChanging wsX4_isChanging) := goodIn_app (goodIn_of _ (by decide +kernel)) ggX5_setNumber_X4_isChanging
