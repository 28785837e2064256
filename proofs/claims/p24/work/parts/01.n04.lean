theorem dX4_copyFrom_4 : decode cX4_copyFrom 4 = .ok (.aload_n 1, 1) := by decide +kernel
theorem dX4_copyFrom_5 : decode cX4_copyFrom 5 = .ok (.getfield 12, 3) := by decide +kernel
theorem dX4_copyFrom_8 : decode cX4_copyFrom 8 = .ok (.invokevirtual 65, 3) := by decide +kernel
theorem dX4_copyFrom_11 : decode cX4_copyFrom 11 = .ok (.aload_n 0, 1) := by decide +kernel
theorem dX4_copyFrom_12 : decode cX4_copyFrom 12 = .ok (.getfield 21, 3) := by decide +kernel
theorem dX4_copyFrom_15 : decode cX4_copyFrom 15 = .ok (.aload_n 1, 1) := by decide +kernel
theorem dX4_copyFrom_16 : decode cX4_copyFrom 16 = .ok (.getfield 21, 3) := by decide +kernel
theorem dX4_copyFrom_19 : decode cX4_copyFrom 19 = .ok (.invokevirtual 69, 3) := by decide +kernel
theorem dX4_copyFrom_22 : decode cX4_copyFrom 22 = .ok (.aload_n 1, 1) := by decide +kernel
theorem dX4_copyFrom_23 : decode cX4_copyFrom 23 = .ok (.getfield 25, 3) := by decide +kernel
theorem dX4_copyFrom_26 : decode cX4_copyFrom 26 = .ok (.iconst 0, 1) := by decide +kernel
theorem dX4_copyFrom_27 : decode cX4_copyFrom 27 = .ok (.aload_n 0, 1) := by decide +kernel
theorem dX4_copyFrom_28 : decode cX4_copyFrom 28 = .ok (.getfield 25, 3) := by decide +kernel
theorem dX4_copyFrom_31 : decode cX4_copyFrom 31 = .ok (.iconst 0, 1) := by decide +kernel
theorem dX4_copyFrom_32 : decode cX4_copyFrom 32 = .ok (.aload_n 0, 1) := by decide +kernel
theorem dX4_copyFrom_33 : decode cX4_copyFrom 33 = .ok (.getfield 25, 3) := by decide +kernel
theorem dX4_copyFrom_36 : decode cX4_copyFrom 36 = .ok (.arraylength, 1) := by decide +kernel
theorem dX4_copyFrom_37 : decode cX4_copyFrom 37 = .ok (.invokestatic 59, 3) := by decide +kernel
theorem dX4_copyFrom_40 : decode cX4_copyFrom 40 = .ok (.aload_n 1, 1) := by decide +kernel
theorem dX4_copyFrom_41 : decode cX4_copyFrom 41 = .ok (.getfield 32, 3) := by decide +kernel
theorem dX4_copyFrom_44 : decode cX4_copyFrom 44 = .ok (.iconst 0, 1) := by decide +kernel
theorem dX4_copyFrom_45 : decode cX4_copyFrom 45 = .ok (.aload_n 0, 1) := by decide +kernel
theorem dX4_copyFrom_46 : decode cX4_copyFrom 46 = .ok (.getfield 32, 3) := by decide +kernel
theorem dX4_copyFrom_49 : decode cX4_copyFrom 49 = .ok (.iconst 0, 1) := by decide +kernel
theorem dX4_copyFrom_50 : decode cX4_copyFrom 50 = .ok (.aload_n 0, 1) := by decide +kernel
theorem dX4_copyFrom_51 : decode cX4_copyFrom 51 = .ok (.getfield 32, 3) := by decide +kernel
theorem dX4_copyFrom_54 : decode cX4_copyFrom 54 = .ok (.arraylength, 1) := by decide +kernel
theorem dX4_copyFrom_55 : decode cX4_copyFrom 55 = .ok (.invokestatic 59, 3) := by decide +kernel
theorem dX4_copyFrom_58 : decode cX4_copyFrom 58 = .ok (.aload_n 0, 1) := by decide +kernel
theorem dX4_copyFrom_59 : decode cX4_copyFrom 59 = .ok (.aload_n 1, 1) := by decide +kernel
theorem dX4_copyFrom_60 : decode cX4_copyFrom 60 = .ok (.getfield 35, 3) := by decide +kernel
theorem dX4_copyFrom_63 : decode cX4_copyFrom 63 = .ok (.putfield 35, 3) := by decide +kernel
theorem dX4_copyFrom_66 : decode cX4_copyFrom 66 = .ok (.aload_n 0, 1) := by decide +kernel
theorem dX4_copyFrom_67 : decode cX4_copyFrom 67 = .ok (.aload_n 1, 1) := by decide +kernel
theorem dX4_copyFrom_68 : decode cX4_copyFrom 68 = .ok (.getfield 39, 3) := by decide +kernel
theorem dX4_copyFrom_71 : decode cX4_copyFrom 71 = .ok (.putfield 39, 3) := by decide +kernel
theorem dX4_copyFrom_74 : decode cX4_copyFrom 74 = .ok (.aload_n 0, 1) := by decide +kernel
theorem dX4_copyFrom_75 : decode cX4_copyFrom 75 = .ok (.aload_n 1, 1) := by decide +kernel
theorem dX4_copyFrom_76 : decode cX4_copyFrom 76 = .ok (.getfield 42, 3) := by decide +kernel
theorem dX4_copyFrom_79 : decode cX4_copyFrom 79 = .ok (.putfield 42, 3) := by decide +kernel
theorem dX4_copyFrom_82 : decode cX4_copyFrom 82 = .ok (.aload_n 0, 1) := by decide +kernel
theorem dX4_copyFrom_83 : decode cX4_copyFrom 83 = .ok (.aload_n 1, 1) := by decide +kernel
theorem dX4_copyFrom_84 : decode cX4_copyFrom 84 = .ok (.getfield 45, 3) := by decide +kernel
theorem dX4_copyFrom_87 : decode cX4_copyFrom 87 = .ok (.putfield 45, 3) := by decide +kernel
theorem dX4_copyFrom_90 : decode cX4_copyFrom 90 = .ok (.aload_n 0, 1) := by decide +kernel
theorem dX4_copyFrom_91 : decode cX4_copyFrom 91 = .ok (.aload_n 1, 1) := by decide +kernel
theorem dX4_copyFrom_92 : decode cX4_copyFrom 92 = .ok (.getfield 48, 3) := by decide +kernel
theorem dX4_copyFrom_95 : decode cX4_copyFrom 95 = .ok (.putfield 48, 3) := by decide +kernel
theorem dX4_copyFrom_98 : decode cX4_copyFrom 98 = .ok (.aload_n 0, 1) := by decide +kernel
theorem dX4_copyFrom_99 : decode cX4_copyFrom 99 = .ok (.aload_n 1, 1) := by decide +kernel
theorem dX4_copyFrom_100 : decode cX4_copyFrom 100 = .ok (.getfield 52, 3) := by decide +kernel
theorem dX4_copyFrom_103 : decode cX4_copyFrom 103 = .ok (.putfield 52, 3) := by decide +kernel
theorem dX4_copyFrom_106 : decode cX4_copyFrom 106 = .ok (.aload_n 0, 1) := by decide +kernel
theorem dX4_copyFrom_107 : decode cX4_copyFrom 107 = .ok (.aload_n 1, 1) := by decide +kernel
theorem dX4_copyFrom_108 : decode cX4_copyFrom 108 = .ok (.getfield 56, 3) := by decide +kernel
theorem dX4_copyFrom_111 : decode cX4_copyFrom 111 = .ok (.putfield 56, 3) := by decide +kernel
theorem dX4_copyFrom_114 : decode cX4_copyFrom 114 = .ok (.return_, 1) := by decide +kernel
theorem dX4_setting_0 : decode cX4_setting 0 = .ok (.iload_n 1, 1) := by decide +kernel
theorem dX4_setting_1 : decode cX4_setting 1 = .ok (.ifCond .lt 21, 3) := by decide +kernel
theorem dX4_setting_4 : decode cX4_setting 4 = .ok (.iload_n 1, 1) := by decide +kernel
theorem dX4_setting_5 : decode cX4_setting 5 = .ok (.aload_n 0, 1) := by decide +kernel
theorem dX4_setting_6 : decode cX4_setting 6 = .ok (.getfield 32, 3) := by decide +kernel
theorem dX4_setting_9 : decode cX4_setting 9 = .ok (.arraylength, 1) := by decide +kernel
theorem dX4_setting_10 : decode cX4_setting 10 = .ok (.if_icmp .ge 12, 3) := by decide +kernel
theorem dX4_setting_13 : decode cX4_setting 13 = .ok (.aload_n 0, 1) := by decide +kernel
theorem dX4_setting_14 : decode cX4_setting 14 = .ok (.getfield 32, 3) := by decide +kernel
theorem dX4_setting_17 : decode cX4_setting 17 = .ok (.iload_n 1, 1) := by decide +kernel
theorem dX4_setting_18 : decode cX4_setting 18 = .ok (.iaload, 1) := by decide +kernel
theorem dX4_setting_19 : decode cX4_setting 19 = .ok (.goto 4, 3) := by decide +kernel
theorem dX4_setting_22 : decode cX4_setting 22 = .ok (.iconst (-1), 1) := by decide +kernel
theorem dX4_setting_23 : decode cX4_setting 23 = .ok (.ireturn, 1) := by decide +kernel
theorem dX4_putSetting_0 : decode cX4_putSetting 0 = .ok (.iload_n 1, 1) := by decide +kernel
theorem dX4_putSetting_1 : decode cX4_putSetting 1 = .ok (.ifCond .lt 19, 3) := by decide +kernel
theorem dX4_putSetting_4 : decode cX4_putSetting 4 = .ok (.iload_n 1, 1) := by decide +kernel
theorem dX4_putSetting_5 : decode cX4_putSetting 5 = .ok (.aload_n 0, 1) := by decide +kernel
theorem dX4_putSetting_6 : decode cX4_putSetting 6 = .ok (.getfield 32, 3) := by decide +kernel
theorem dX4_putSetting_9 : decode cX4_putSetting 9 = .ok (.arraylength, 1) := by decide +kernel
theorem dX4_putSetting_10 : decode cX4_putSetting 10 = .ok (.if_icmp .ge 10, 3) := by decide +kernel
theorem dX4_putSetting_13 : decode cX4_putSetting 13 = .ok (.aload_n 0, 1) := by decide +kernel
theorem dX4_putSetting_14 : decode cX4_putSetting 14 = .ok (.getfield 32, 3) := by decide +kernel
theorem dX4_putSetting_17 : decode cX4_putSetting 17 = .ok (.iload_n 1, 1) := by decide +kernel
theorem dX4_putSetting_18 : decode cX4_putSetting 18 = .ok (.iload_n 2, 1) := by decide +kernel
theorem dX4_putSetting_19 : decode cX4_putSetting 19 = .ok (.iastore, 1) := by decide +kernel
theorem dX4_putSetting_20 : decode cX4_putSetting 20 = .ok (.return_, 1) := by decide +kernel
set_option maxRecDepth 20000 in
theorem ggX4_allows_X4_setting : GoodIn wsX4_allows wsX4_setting := goodIn_r _ [5, 6, 7, 8, 9, 10, 11, 12, 13, 14, 15, 16, 17] (by decide +kernel) (by decide +kernel)
set_option maxRecDepth 20000 in
theorem gX4_allows_X4_setting : GoodIn wsX4_allows (wsV RX4 72 RX4 yX4_setting wsX4_setting) := goodIn_app (goodIn_of _ (by decide +kernel)) ggX4_allows_X4_setting
theorem dX4_allows_0 : decode cX4_allows 0 = .ok (.iload_n 1, 1) := by decide +kernel
theorem dX4_allows_1 : decode cX4_allows 1 = .ok (.lookupswitch 72 #[(0, 27), (1, 53)], 27) := by decide +kernel
theorem dX4_allows_28 : decode cX4_allows 28 = .ok (.iload_n 2, 1) := by decide +kernel
theorem dX4_allows_29 : decode cX4_allows 29 = .ok (.iconst 2, 1) := by decide +kernel
theorem dX4_allows_30 : decode cX4_allows 30 = .ok (.if_icmp .lt 22, 3) := by decide +kernel
theorem dX4_allows_33 : decode cX4_allows 33 = .ok (.iload_n 2, 1) := by decide +kernel
theorem dX4_allows_34 : decode cX4_allows 34 = .ok (.bipush 20, 2) := by decide +kernel
theorem dX4_allows_36 : decode cX4_allows 36 = .ok (.if_icmp .gt 16, 3) := by decide +kernel
theorem dX4_allows_39 : decode cX4_allows 39 = .ok (.iload_n 2, 1) := by decide +kernel
theorem dX4_allows_40 : decode cX4_allows 40 = .ok (.aload_n 0, 1) := by decide +kernel
theorem dX4_allows_41 : decode cX4_allows 41 = .ok (.iconst 1, 1) := by decide +kernel
theorem dX4_allows_42 : decode cX4_allows 42 = .ok (.invokevirtual 72, 3) := by decide +kernel
theorem dX4_allows_45 : decode cX4_allows 45 = .ok (.if_icmp .le 7, 3) := by decide +kernel
theorem dX4_allows_48 : decode cX4_allows 48 = .ok (.iconst 1, 1) := by decide +kernel
theorem dX4_allows_49 : decode cX4_allows 49 = .ok (.goto 4, 3) := by decide +kernel
theorem dX4_allows_52 : decode cX4_allows 52 = .ok (.iconst 0, 1) := by decide +kernel
theorem dX4_allows_53 : decode cX4_allows 53 = .ok (.ireturn, 1) := by decide +kernel
theorem dX4_allows_54 : decode cX4_allows 54 = .ok (.iload_n 2, 1) := by decide +kernel
theorem dX4_allows_55 : decode cX4_allows 55 = .ok (.ifCond .lt 16, 3) := by decide +kernel
theorem dX4_allows_58 : decode cX4_allows 58 = .ok (.iload_n 2, 1) := by decide +kernel
theorem dX4_allows_59 : decode cX4_allows 59 = .ok (.aload_n 0, 1) := by decide +kernel
theorem dX4_allows_60 : decode cX4_allows 60 = .ok (.iconst 0, 1) := by decide +kernel
theorem dX4_allows_61 : decode cX4_allows 61 = .ok (.invokevirtual 72, 3) := by decide +kernel
theorem dX4_allows_64 : decode cX4_allows 64 = .ok (.if_icmp .ge 7, 3) := by decide +kernel
theorem dX4_allows_67 : decode cX4_allows 67 = .ok (.iconst 1, 1) := by decide +kernel
theorem dX4_allows_68 : decode cX4_allows 68 = .ok (.goto 4, 3) := by decide +kernel
theorem dX4_allows_71 : decode cX4_allows 71 = .ok (.iconst 0, 1) := by decide +kernel
theorem dX4_allows_72 : decode cX4_allows 72 = .ok (.ireturn, 1) := by decide +kernel
theorem dX4_allows_73 : decode cX4_allows 73 = .ok (.iload_n 2, 1) := by decide +kernel
theorem dX4_allows_74 : decode cX4_allows 74 = .ok (.iconst 1, 1) := by decide +kernel
theorem dX4_allows_75 : decode cX4_allows 75 = .ok (.if_icmp .lt 13, 3) := by decide +kernel
theorem dX4_allows_78 : decode cX4_allows 78 = .ok (.iload_n 2, 1) := by decide +kernel
theorem dX4_allows_79 : decode cX4_allows 79 = .ok (.bipush 100, 2) := by decide +kernel
theorem dX4_allows_81 : decode cX4_allows 81 = .ok (.if_icmp .gt 7, 3) := by decide +kernel
theorem dX4_allows_84 : decode cX4_allows 84 = .ok (.iconst 1, 1) := by decide +kernel
theorem dX4_allows_85 : decode cX4_allows 85 = .ok (.goto 4, 3) := by decide +kernel
theorem dX4_allows_88 : decode cX4_allows 88 = .ok (.iconst 0, 1) := by decide +kernel
theorem dX4_allows_89 : decode cX4_allows 89 = .ok (.ireturn, 1) := by decide +kernel
theorem dX4_counted_0 : decode cX4_counted 0 = .ok (.iload_n 1, 1) := by decide +kernel
theorem dX4_counted_1 : decode cX4_counted 1 = .ok (.ifCond .lt 21, 3) := by decide +kernel
theorem dX4_counted_4 : decode cX4_counted 4 = .ok (.iload_n 1, 1) := by decide +kernel
theorem dX4_counted_5 : decode cX4_counted 5 = .ok (.aload_n 0, 1) := by decide +kernel
theorem dX4_counted_6 : decode cX4_counted 6 = .ok (.getfield 25, 3) := by decide +kernel
theorem dX4_counted_9 : decode cX4_counted 9 = .ok (.arraylength, 1) := by decide +kernel
theorem dX4_counted_10 : decode cX4_counted 10 = .ok (.if_icmp .ge 12, 3) := by decide +kernel
theorem dX4_counted_13 : decode cX4_counted 13 = .ok (.aload_n 0, 1) := by decide +kernel
theorem dX4_counted_14 : decode cX4_counted 14 = .ok (.getfield 25, 3) := by decide +kernel
theorem dX4_counted_17 : decode cX4_counted 17 = .ok (.iload_n 1, 1) := by decide +kernel
theorem dX4_counted_18 : decode cX4_counted 18 = .ok (.iaload, 1) := by decide +kernel
theorem dX4_counted_19 : decode cX4_counted 19 = .ok (.goto 5, 3) := by decide +kernel
theorem dX4_counted_22 : decode cX4_counted 22 = .ok (.bipush (-2), 2) := by decide +kernel
theorem dX4_counted_24 : decode cX4_counted 24 = .ok (.ireturn, 1) := by decide +kernel
theorem dX4_countOneMore_0 : decode cX4_countOneMore 0 = .ok (.iload_n 1, 1) := by decide +kernel
theorem dX4_countOneMore_1 : decode cX4_countOneMore 1 = .ok (.ifCond .lt 22, 3) := by decide +kernel
theorem dX4_countOneMore_4 : decode cX4_countOneMore 4 = .ok (.iload_n 1, 1) := by decide +kernel
theorem dX4_countOneMore_5 : decode cX4_countOneMore 5 = .ok (.aload_n 0, 1) := by decide +kernel
theorem dX4_countOneMore_6 : decode cX4_countOneMore 6 = .ok (.getfield 25, 3) := by decide +kernel
theorem dX4_countOneMore_9 : decode cX4_countOneMore 9 = .ok (.arraylength, 1) := by decide +kernel
theorem dX4_countOneMore_10 : decode cX4_countOneMore 10 = .ok (.if_icmp .ge 13, 3) := by decide +kernel
theorem dX4_countOneMore_13 : decode cX4_countOneMore 13 = .ok (.aload_n 0, 1) := by decide +kernel
theorem dX4_countOneMore_14 : decode cX4_countOneMore 14 = .ok (.getfield 25, 3) := by decide +kernel
theorem dX4_countOneMore_17 : decode cX4_countOneMore 17 = .ok (.iload_n 1, 1) := by decide +kernel
theorem dX4_countOneMore_18 : decode cX4_countOneMore 18 = .ok (.dup2, 1) := by decide +kernel
theorem dX4_countOneMore_19 : decode cX4_countOneMore 19 = .ok (.iaload, 1) := by decide +kernel
theorem dX4_countOneMore_20 : decode cX4_countOneMore 20 = .ok (.iconst 1, 1) := by decide +kernel
theorem dX4_countOneMore_21 : decode cX4_countOneMore 21 = .ok (.iadd, 1) := by decide +kernel
theorem dX4_countOneMore_22 : decode cX4_countOneMore 22 = .ok (.iastore, 1) := by decide +kernel
theorem dX4_countOneMore_23 : decode cX4_countOneMore 23 = .ok (.return_, 1) := by decide +kernel
set_option maxRecDepth 20000 in
theorem ggX4_tick_X4_counted : GoodIn wsX4_tick wsX4_counted := goodIn_r _ [5, 6, 7, 8, 9, 10, 11, 12, 13, 14, 15, 16, 17] (by decide +kernel) (by decide +kernel)
set_option maxRecDepth 20000 in
theorem gX4_tick_X4_counted : GoodIn wsX4_tick (wsV RX4 76 RX4 yX4_counted wsX4_counted) := goodIn_app (goodIn_of _ (by decide +kernel)) ggX4_tick_X4_counted
theorem dX4_tick_0 : decode cX4_tick 0 = .ok (.aload_n 0, 1) := by decide +kernel
theorem dX4_tick_1 : decode cX4_tick 1 = .ok (.iconst 0, 1) := by decide +kernel
theorem dX4_tick_2 : decode cX4_tick 2 = .ok (.invokevirtual 76, 3) := by decide +kernel
theorem dX4_tick_5 : decode cX4_tick 5 = .ok (.ireturn, 1) := by decide +kernel
theorem dX4_isChanging_0 : decode cX4_isChanging 0 = .ok (.aload_n 0, 1) := by decide +kernel
theorem dX4_isChanging_1 : decode cX4_isChanging 1 = .ok (.getfield 39, 3) := by decide +kernel
theorem dX4_isChanging_4 : decode cX4_isChanging 4 = .ok (.ifCond .eq 7, 3) := by decide +kernel
theorem dX4_isChanging_7 : decode cX4_isChanging 7 = .ok (.iconst 1, 1) := by decide +kernel
theorem dX4_isChanging_8 : decode cX4_isChanging 8 = .ok (.goto 4, 3) := by decide +kernel
theorem dX4_isChanging_11 : decode cX4_isChanging 11 = .ok (.iconst 0, 1) := by decide +kernel
theorem dX4_isChanging_12 : decode cX4_isChanging 12 = .ok (.ireturn, 1) := by decide +kernel
set_option maxRecDepth 20000 in
theorem ggX4_passTicks_X4_passTick : GoodIn wsX4_passTicks wsX4_passTick := goodIn_r _ [5, 6, 7, 8, 9, 10, 11, 4, 12, 13, 14, 15, 16, 17, 18, 19, 20, 21, 22, 23, 24, 25, 26, 27, 28, 29, 30, 31, 32, 33, 34, 35, 36, 37, 38, 39, 40, 41, 42, 43, 44, 45, 46, 47, 48, 49, 50, 51, 52, 53, 54, 55, 56, 57, 58, 59, 60, 61, 62, 63, 64, 65, 66, 67, 68, 69, 70, 71, 72, 73, 74, 75, 76, 77, 78, 79, 80, 81, 82, 83, 84, 85, 86, 87, 88, 89, 90, 91, 92, 93, 94, 95, 96, 97, 98, 99, 100, 101, 102, 103, 104, 105, 106, 107, 108, 109, 110, 111, 112, 113, 114, 115, 116, 117, 118, 119, 120, 121] (by decide +kernel) (by decide +kernel)
set_option maxRecDepth 20000 in
theorem gX4_passTicks_X4_passTick : GoodIn wsX4_passTicks (wsV RX4 79 RX4 yX4_passTick wsX4_passTick) := goodIn_app (goodIn_of _ (by decide +kernel)) ggX4_passTicks_X4_passTick
theorem dX4_passTicks_0 : decode cX4_passTicks 0 = .ok (.iconst 0, 1) := by decide +kernel
theorem dX4_passTicks_1 : decode cX4_passTicks 1 = .ok (.istore 4, 2) := by decide +kernel
theorem dX4_passTicks_3 : decode cX4_passTicks 3 = .ok (.iconst 0, 1) := by decide +kernel
theorem dX4_passTicks_4 : decode cX4_passTicks 4 = .ok (.istore 5, 2) := by decide +kernel
theorem dX4_passTicks_6 : decode cX4_passTicks 6 = .ok (.iload 5, 2) := by decide +kernel
theorem dX4_passTicks_8 : decode cX4_passTicks 8 = .ok (.iload_n 3, 1) := by decide +kernel
theorem dX4_passTicks_9 : decode cX4_passTicks 9 = .ok (.if_icmp .ge 21, 3) := by decide +kernel
theorem dX4_passTicks_12 : decode cX4_passTicks 12 = .ok (.aload_n 0, 1) := by decide +kernel
theorem dX4_passTicks_13 : decode cX4_passTicks 13 = .ok (.fload_n 1, 1) := by decide +kernel
theorem dX4_passTicks_14 : decode cX4_passTicks 14 = .ok (.fload_n 2, 1) := by decide +kernel
theorem dX4_passTicks_15 : decode cX4_passTicks 15 = .ok (.invokevirtual 79, 3) := by decide +kernel
theorem dX4_passTicks_18 : decode cX4_passTicks 18 = .ok (.ifCond .eq 6, 3) := by decide +kernel
theorem dX4_passTicks_21 : decode cX4_passTicks 21 = .ok (.iinc 4 1, 3) := by decide +kernel
theorem dX4_passTicks_24 : decode cX4_passTicks 24 = .ok (.iinc 5 1, 3) := by decide +kernel
theorem dX4_passTicks_27 : decode cX4_passTicks 27 = .ok (.goto (-21), 3) := by decide +kernel
theorem dX4_passTicks_30 : decode cX4_passTicks 30 = .ok (.iload 4, 2) := by decide +kernel
theorem dX4_passTicks_32 : decode cX4_passTicks 32 = .ok (.ireturn, 1) := by decide +kernel
set_option maxRecDepth 20000 in
theorem ggX4_passTick_X4_goOnWithChange : GoodIn wsX4_passTick wsX4_goOnWithChange := goodIn_r _ [8, 9, 10, 11, 12, 13, 14, 7, 15, 16, 17, 18, 19, 20, 103, 104, 105, 106, 107, 108, 109, 110, 111, 112, 113] (by decide +kernel) (by decide +kernel)
set_option maxRecDepth 20000 in
theorem gX4_passTick_X4_goOnWithChange : GoodIn wsX4_passTick (wsV RX4 83 RX4 yX4_goOnWithChange wsX4_goOnWithChange) := goodIn_app (goodIn_of _ (by decide +kernel)) ggX4_passTick_X4_goOnWithChange
set_option maxRecDepth 20000 in
theorem ggX4_passTick_X4_isChanging : GoodIn wsX4_passTick wsX4_isChanging := goodIn_r _ [15, 10, 103, 104, 105, 106, 107, 108, 109, 110, 111, 112, 113] (by decide +kernel) (by decide +kernel)
set_option maxRecDepth 20000 in
theorem gX4_passTick_X4_isChanging : GoodIn wsX4_passTick (wsV RX4 86 RX4 yX4_isChanging wsX4_isChanging) := goodIn_app (goodIn_of _ (by decide +kernel)) ggX4_passTick_X4_isChanging
set_option maxRecDepth 20000 in
theorem ggX4_passTick_X4_reasonToChange : GoodIn wsX4_passTick wsX4_reasonToChange := goodIn_r _ [24, 11, 25, 3, 26, 1, 27, 28, 29, 30, 31, 32, 33, 34, 35, 36, 37, 38, 7, 39, 40, 41, 42, 43, 44, 45, 46, 47, 48, 49, 50, 51, 52, 53, 54, 55, 56, 57, 103, 104, 105, 106, 107, 108, 109, 110, 111, 112, 113, 114] (by decide +kernel) (by decide +kernel)
set_option maxRecDepth 20000 in
theorem gX4_passTick_X4_reasonToChange : GoodIn wsX4_passTick (wsV RX4 90 RX4 yX4_reasonToChange wsX4_reasonToChange) := goodIn_app (goodIn_of _ (by decide +kernel)) ggX4_passTick_X4_reasonToChange
set_option maxRecDepth 20000 in
theorem ggX4_passTick_X4_gearChosenBy : GoodIn wsX4_passTick wsX4_gearChosenBy := goodIn_r _ [61, 11, 41, 42, 43, 7, 44, 45, 46, 47, 48, 25, 27, 28, 29, 30, 31, 32, 33, 34, 35, 36, 103, 104, 105, 106, 107, 108, 109, 110, 111, 112, 113, 114] (by decide +kernel) (by decide +kernel)
set_option maxRecDepth 20000 in
theorem gX4_passTick_X4_gearChosenBy : GoodIn wsX4_passTick (wsV RX4 94 RX4 yX4_gearChosenBy wsX4_gearChosenBy) := goodIn_app (goodIn_of _ (by decide +kernel)) ggX4_passTick_X4_gearChosenBy
set_option maxRecDepth 20000 in
theorem ggX4_passTick_X4_begin : GoodIn wsX4_passTick wsX4_begin := goodIn_r _ [65, 66, 11, 10, 9, 1, 67, 68, 69, 7, 70, 71, 72, 73, 74, 75, 76, 77, 78, 79, 80, 81, 82, 83, 84, 85, 86, 87, 16, 17, 18, 19, 20, 88, 89, 90, 91, 92, 93, 47, 94, 95, 96, 97, 98, 103, 104, 105, 106, 107, 108, 109, 110, 111, 112, 113, 115, 116, 117] (by decide +kernel) (by decide +kernel)
set_option maxRecDepth 20000 in
theorem gX4_passTick_X4_begin : GoodIn wsX4_passTick (wsV RX4 98 RX4 yX4_begin wsX4_begin) := goodIn_app (goodIn_of _ (by decide +kernel)) ggX4_passTick_X4_begin
set_option maxRecDepth 20000 in
theorem ggX4_passTick_X4_countTick : GoodIn wsX4_passTick wsX4_countTick := goodIn_r _ [102, 11, 95, 96, 97, 7, 98, 87, 12, 13, 14, 15, 10, 103, 104, 105, 106, 107, 108, 109, 110, 111, 112, 113] (by decide +kernel) (by decide +kernel)
set_option maxRecDepth 20000 in
theorem gX4_passTick_X4_countTick : GoodIn wsX4_passTick (wsV RX4 102 RX4 yX4_countTick wsX4_countTick) := goodIn_app (goodIn_of _ (by decide +kernel)) ggX4_passTick_X4_countTick
theorem dX4_passTick_0 : decode cX4_passTick 0 = .ok (.aload_n 0, 1) := by decide +kernel
theorem dX4_passTick_1 : decode cX4_passTick 1 = .ok (.invokevirtual 83, 3) := by decide +kernel
theorem dX4_passTick_4 : decode cX4_passTick 4 = .ok (.aload_n 0, 1) := by decide +kernel
theorem dX4_passTick_5 : decode cX4_passTick 5 = .ok (.invokevirtual 86, 3) := by decide +kernel
theorem dX4_passTick_8 : decode cX4_passTick 8 = .ok (.ifCond .eq 7, 3) := by decide +kernel
theorem dX4_passTick_11 : decode cX4_passTick 11 = .ok (.iconst (-1), 1) := by decide +kernel
theorem dX4_passTick_12 : decode cX4_passTick 12 = .ok (.goto 9, 3) := by decide +kernel
theorem dX4_passTick_15 : decode cX4_passTick 15 = .ok (.aload_n 0, 1) := by decide +kernel
theorem dX4_passTick_16 : decode cX4_passTick 16 = .ok (.fload_n 1, 1) := by decide +kernel
theorem dX4_passTick_17 : decode cX4_passTick 17 = .ok (.fload_n 2, 1) := by decide +kernel
theorem dX4_passTick_18 : decode cX4_passTick 18 = .ok (.invokevirtual 90, 3) := by decide +kernel
theorem dX4_passTick_21 : decode cX4_passTick 21 = .ok (.istore_n 3, 1) := by decide +kernel
theorem dX4_passTick_22 : decode cX4_passTick 22 = .ok (.aload_n 0, 1) := by decide +kernel
theorem dX4_passTick_23 : decode cX4_passTick 23 = .ok (.getfield 45, 3) := by decide +kernel
theorem dX4_passTick_26 : decode cX4_passTick 26 = .ok (.ifCond .le 13, 3) := by decide +kernel
theorem dX4_passTick_29 : decode cX4_passTick 29 = .ok (.aload_n 0, 1) := by decide +kernel
theorem dX4_passTick_30 : decode cX4_passTick 30 = .ok (.dup, 1) := by decide +kernel
theorem dX4_passTick_31 : decode cX4_passTick 31 = .ok (.getfield 45, 3) := by decide +kernel
theorem dX4_passTick_34 : decode cX4_passTick 34 = .ok (.iconst 1, 1) := by decide +kernel
theorem dX4_passTick_35 : decode cX4_passTick 35 = .ok (.isub, 1) := by decide +kernel
theorem dX4_passTick_36 : decode cX4_passTick 36 = .ok (.putfield 45, 3) := by decide +kernel
theorem dX4_passTick_39 : decode cX4_passTick 39 = .ok (.iload_n 3, 1) := by decide +kernel
theorem dX4_passTick_40 : decode cX4_passTick 40 = .ok (.iconst (-1), 1) := by decide +kernel
theorem dX4_passTick_41 : decode cX4_passTick 41 = .ok (.if_icmp .eq 14, 3) := by decide +kernel
theorem dX4_passTick_44 : decode cX4_passTick 44 = .ok (.aload_n 0, 1) := by decide +kernel
theorem dX4_passTick_45 : decode cX4_passTick 45 = .ok (.iload_n 3, 1) := by decide +kernel
theorem dX4_passTick_46 : decode cX4_passTick 46 = .ok (.aload_n 0, 1) := by decide +kernel
theorem dX4_passTick_47 : decode cX4_passTick 47 = .ok (.iload_n 3, 1) := by decide +kernel
theorem dX4_passTick_48 : decode cX4_passTick 48 = .ok (.fload_n 1, 1) := by decide +kernel
theorem dX4_passTick_49 : decode cX4_passTick 49 = .ok (.invokevirtual 94, 3) := by decide +kernel
theorem dX4_passTick_52 : decode cX4_passTick 52 = .ok (.invokevirtual 98, 3) := by decide +kernel
theorem dX4_passTick_55 : decode cX4_passTick 55 = .ok (.aload_n 0, 1) := by decide +kernel
theorem dX4_passTick_56 : decode cX4_passTick 56 = .ok (.fload_n 1, 1) := by decide +kernel
theorem dX4_passTick_57 : decode cX4_passTick 57 = .ok (.putfield 52, 3) := by decide +kernel
theorem dX4_passTick_60 : decode cX4_passTick 60 = .ok (.aload_n 0, 1) := by decide +kernel
theorem dX4_passTick_61 : decode cX4_passTick 61 = .ok (.fload_n 2, 1) := by decide +kernel
theorem dX4_passTick_62 : decode cX4_passTick 62 = .ok (.putfield 56, 3) := by decide +kernel
theorem dX4_passTick_65 : decode cX4_passTick 65 = .ok (.aload_n 0, 1) := by decide +kernel
theorem dX4_passTick_66 : decode cX4_passTick 66 = .ok (.invokevirtual 102, 3) := by decide +kernel
theorem dX4_passTick_69 : decode cX4_passTick 69 = .ok (.iload_n 3, 1) := by decide +kernel
theorem dX4_passTick_70 : decode cX4_passTick 70 = .ok (.iconst (-1), 1) := by decide +kernel
theorem dX4_passTick_71 : decode cX4_passTick 71 = .ok (.if_icmp .eq 7, 3) := by decide +kernel
theorem dX4_passTick_74 : decode cX4_passTick 74 = .ok (.iconst 1, 1) := by decide +kernel
theorem dX4_passTick_75 : decode cX4_passTick 75 = .ok (.goto 4, 3) := by decide +kernel
theorem dX4_passTick_78 : decode cX4_passTick 78 = .ok (.iconst 0, 1) := by decide +kernel
theorem dX4_passTick_79 : decode cX4_passTick 79 = .ok (.ireturn, 1) := by decide +kernel
set_option maxRecDepth 20000 in
theorem ggX4_goOnWithChange_X4_isChanging : GoodIn wsX4_goOnWithChange wsX4_isChanging := goodIn_r _ [8, 2, 14, 15, 16, 17, 18, 19, 20, 21, 22, 23, 24] (by decide +kernel) (by decide +kernel)
set_option maxRecDepth 20000 in
theorem gX4_goOnWithChange_X4_isChanging : GoodIn wsX4_goOnWithChange (wsV RX4 86 RX4 yX4_isChanging wsX4_isChanging) := goodIn_app (goodIn_of _ (by decide +kernel)) ggX4_goOnWithChange_X4_isChanging
set_option maxRecDepth 20000 in
theorem ggX4_goOnWithChange_X4_setting : GoodIn wsX4_goOnWithChange wsX4_setting := goodIn_r _ [12, 13, 14, 15, 16, 17, 18, 19, 20, 21, 22, 23, 24] (by decide +kernel) (by decide +kernel)
set_option maxRecDepth 20000 in
theorem gX4_goOnWithChange_X4_setting : GoodIn wsX4_goOnWithChange (wsV RX4 72 RX4 yX4_setting wsX4_setting) := goodIn_app (goodIn_of _ (by decide +kernel)) ggX4_goOnWithChange_X4_setting
theorem dX4_goOnWithChange_0 : decode cX4_goOnWithChange 0 = .ok (.aload_n 0, 1) := by decide +kernel
theorem dX4_goOnWithChange_1 : decode cX4_goOnWithChange 1 = .ok (.invokevirtual 86, 3) := by decide +kernel
theorem dX4_goOnWithChange_4 : decode cX4_goOnWithChange 4 = .ok (.ifCond .ne 4, 3) := by decide +kernel
theorem dX4_goOnWithChange_7 : decode cX4_goOnWithChange 7 = .ok (.return_, 1) := by decide +kernel
theorem dX4_goOnWithChange_8 : decode cX4_goOnWithChange 8 = .ok (.aload_n 0, 1) := by decide +kernel
theorem dX4_goOnWithChange_9 : decode cX4_goOnWithChange 9 = .ok (.dup, 1) := by decide +kernel
theorem dX4_goOnWithChange_10 : decode cX4_goOnWithChange 10 = .ok (.getfield 42, 3) := by decide +kernel
theorem dX4_goOnWithChange_13 : decode cX4_goOnWithChange 13 = .ok (.iconst 1, 1) := by decide +kernel
theorem dX4_goOnWithChange_14 : decode cX4_goOnWithChange 14 = .ok (.iadd, 1) := by decide +kernel
theorem dX4_goOnWithChange_15 : decode cX4_goOnWithChange 15 = .ok (.putfield 42, 3) := by decide +kernel
theorem dX4_goOnWithChange_18 : decode cX4_goOnWithChange 18 = .ok (.aload_n 0, 1) := by decide +kernel
theorem dX4_goOnWithChange_19 : decode cX4_goOnWithChange 19 = .ok (.getfield 42, 3) := by decide +kernel
theorem dX4_goOnWithChange_22 : decode cX4_goOnWithChange 22 = .ok (.aload_n 0, 1) := by decide +kernel
theorem dX4_goOnWithChange_23 : decode cX4_goOnWithChange 23 = .ok (.iconst 0, 1) := by decide +kernel
theorem dX4_goOnWithChange_24 : decode cX4_goOnWithChange 24 = .ok (.invokevirtual 72, 3) := by decide +kernel
theorem dX4_goOnWithChange_27 : decode cX4_goOnWithChange 27 = .ok (.if_icmp .lt 16, 3) := by decide +kernel
theorem dX4_goOnWithChange_30 : decode cX4_goOnWithChange 30 = .ok (.aload_n 0, 1) := by decide +kernel
theorem dX4_goOnWithChange_31 : decode cX4_goOnWithChange 31 = .ok (.aload_n 0, 1) := by decide +kernel
theorem dX4_goOnWithChange_32 : decode cX4_goOnWithChange 32 = .ok (.getfield 39, 3) := by decide +kernel
theorem dX4_goOnWithChange_35 : decode cX4_goOnWithChange 35 = .ok (.putfield 35, 3) := by decide +kernel
theorem dX4_goOnWithChange_38 : decode cX4_goOnWithChange 38 = .ok (.aload_n 0, 1) := by decide +kernel
theorem dX4_goOnWithChange_39 : decode cX4_goOnWithChange 39 = .ok (.iconst 0, 1) := by decide +kernel
theorem dX4_goOnWithChange_40 : decode cX4_goOnWithChange 40 = .ok (.putfield 39, 3) := by decide +kernel
theorem dX4_goOnWithChange_43 : decode cX4_goOnWithChange 43 = .ok (.return_, 1) := by decide +kernel
set_option maxRecDepth 20000 in
theorem ggX4_reasonToChange_X3_exceeds : GoodIn wsX4_reasonToChange wsX3_exceeds := goodIn_r _ [10, 11, 12, 13, 9, 14, 15, 49] (by decide +kernel) (by decide +kernel)
set_option maxRecDepth 20000 in
theorem gX4_reasonToChange_X3_exceeds : GoodIn wsX4_reasonToChange (wsV RX4 105 RX3 yX3_exceeds wsX3_exceeds) := goodIn_app (goodIn_of _ (by decide +kernel)) ggX4_reasonToChange_X3_exceeds
set_option maxRecDepth 20000 in
theorem ggX4_reasonToChange_X4_isDeep : GoodIn wsX4_reasonToChange wsX4_isDeep := goodIn_r _ [19, 20] (by decide +kernel) (by decide +kernel)
set_option maxRecDepth 20000 in
theorem gX4_reasonToChange_X4_isDeep : GoodIn wsX4_reasonToChange (va_wsS RX4 109 yX4_isDeep wsX4_isDeep) := goodIn_app (goodIn_of _ (by decide +kernel)) ggX4_reasonToChange_X4_isDeep
set_option maxRecDepth 20000 in
theorem ggX4_reasonToChange_X4_kickdownGear : GoodIn wsX4_reasonToChange wsX4_kickdownGear := goodIn_r _ [24, 1, 25, 26, 27, 28, 2, 6, 7, 8, 9, 10, 11, 12, 13, 14, 15, 38, 39, 40, 41, 42, 43, 44, 45, 46, 47, 48, 49] (by decide +kernel) (by decide +kernel)
set_option maxRecDepth 20000 in
theorem gX4_reasonToChange_X4_kickdownGear : GoodIn wsX4_reasonToChange (wsV RX4 113 RX4 yX4_kickdownGear wsX4_kickdownGear) := goodIn_app (goodIn_of _ (by decide +kernel)) ggX4_reasonToChange_X4_kickdownGear
set_option maxRecDepth 20000 in
theorem ggX4_reasonToChange_X3_upFrom : GoodIn wsX4_reasonToChange wsX3_upFrom := goodIn_r _ [32, 11, 12, 13, 9, 14, 15, 49] (by decide +kernel) (by decide +kernel)
set_option maxRecDepth 20000 in
theorem gX4_reasonToChange_X3_upFrom : GoodIn wsX4_reasonToChange (wsV RX4 117 RX3 yX3_upFrom wsX3_upFrom) := goodIn_app (goodIn_of _ (by decide +kernel)) ggX4_reasonToChange_X3_upFrom
set_option maxRecDepth 20000 in
theorem ggX4_reasonToChange_X3_downTo : GoodIn wsX4_reasonToChange wsX3_downTo := goodIn_r _ [36, 37, 30, 31, 9, 32, 11, 12, 13, 14, 15, 49] (by decide +kernel) (by decide +kernel)
set_option maxRecDepth 20000 in
theorem gX4_reasonToChange_X3_downTo : GoodIn wsX4_reasonToChange (wsV RX4 121 RX3 yX3_downTo wsX3_downTo) := goodIn_app (goodIn_of _ (by decide +kernel)) ggX4_reasonToChange_X3_downTo
theorem dX4_reasonToChange_0 : decode cX4_reasonToChange 0 = .ok (.aload_n 0, 1) := by decide +kernel
theorem dX4_reasonToChange_1 : decode cX4_reasonToChange 1 = .ok (.getfield 35, 3) := by decide +kernel
theorem dX4_reasonToChange_4 : decode cX4_reasonToChange 4 = .ok (.iconst 5, 1) := by decide +kernel
theorem dX4_reasonToChange_5 : decode cX4_reasonToChange 5 = .ok (.if_icmp .ge 20, 3) := by decide +kernel
theorem dX4_reasonToChange_8 : decode cX4_reasonToChange 8 = .ok (.aload_n 0, 1) := by decide +kernel
theorem dX4_reasonToChange_9 : decode cX4_reasonToChange 9 = .ok (.getfield 12, 3) := by decide +kernel
theorem dX4_reasonToChange_12 : decode cX4_reasonToChange 12 = .ok (.fload_n 1, 1) := by decide +kernel
theorem dX4_reasonToChange_13 : decode cX4_reasonToChange 13 = .ok (.aload_n 0, 1) := by decide +kernel
theorem dX4_reasonToChange_14 : decode cX4_reasonToChange 14 = .ok (.getfield 35, 3) := by decide +kernel
theorem dX4_reasonToChange_17 : decode cX4_reasonToChange 17 = .ok (.invokevirtual 105, 3) := by decide +kernel
theorem dX4_reasonToChange_20 : decode cX4_reasonToChange 20 = .ok (.ifCond .eq 5, 3) := by decide +kernel
theorem dX4_reasonToChange_23 : decode cX4_reasonToChange 23 = .ok (.iconst 4, 1) := by decide +kernel
theorem dX4_reasonToChange_24 : decode cX4_reasonToChange 24 = .ok (.ireturn, 1) := by decide +kernel
theorem dX4_reasonToChange_25 : decode cX4_reasonToChange 25 = .ok (.fload_n 2, 1) := by decide +kernel
theorem dX4_reasonToChange_26 : decode cX4_reasonToChange 26 = .ok (.invokestatic 109, 3) := by decide +kernel
theorem dX4_reasonToChange_29 : decode cX4_reasonToChange 29 = .ok (.ifCond .eq 23, 3) := by decide +kernel
theorem dX4_reasonToChange_32 : decode cX4_reasonToChange 32 = .ok (.aload_n 0, 1) := by decide +kernel
theorem dX4_reasonToChange_33 : decode cX4_reasonToChange 33 = .ok (.getfield 56, 3) := by decide +kernel
theorem dX4_reasonToChange_36 : decode cX4_reasonToChange 36 = .ok (.invokestatic 109, 3) := by decide +kernel
theorem dX4_reasonToChange_39 : decode cX4_reasonToChange 39 = .ok (.ifCond .ne 13, 3) := by decide +kernel
theorem dX4_reasonToChange_42 : decode cX4_reasonToChange 42 = .ok (.aload_n 0, 1) := by decide +kernel
theorem dX4_reasonToChange_43 : decode cX4_reasonToChange 43 = .ok (.fload_n 1, 1) := by decide +kernel
theorem dX4_reasonToChange_44 : decode cX4_reasonToChange 44 = .ok (.invokevirtual 113, 3) := by decide +kernel
theorem dX4_reasonToChange_47 : decode cX4_reasonToChange 47 = .ok (.ifCond .eq 5, 3) := by decide +kernel
theorem dX4_reasonToChange_50 : decode cX4_reasonToChange 50 = .ok (.iconst 2, 1) := by decide +kernel
theorem dX4_reasonToChange_51 : decode cX4_reasonToChange 51 = .ok (.ireturn, 1) := by decide +kernel
theorem dX4_reasonToChange_52 : decode cX4_reasonToChange 52 = .ok (.aload_n 0, 1) := by decide +kernel
theorem dX4_reasonToChange_53 : decode cX4_reasonToChange 53 = .ok (.getfield 48, 3) := by decide +kernel
theorem dX4_reasonToChange_56 : decode cX4_reasonToChange 56 = .ok (.ifCond .ne 10, 3) := by decide +kernel
theorem dX4_reasonToChange_59 : decode cX4_reasonToChange 59 = .ok (.aload_n 0, 1) := by decide +kernel
theorem dX4_reasonToChange_60 : decode cX4_reasonToChange 60 = .ok (.getfield 45, 3) := by decide +kernel
theorem dX4_reasonToChange_63 : decode cX4_reasonToChange 63 = .ok (.ifCond .le 5, 3) := by decide +kernel
theorem dX4_reasonToChange_66 : decode cX4_reasonToChange 66 = .ok (.iconst (-1), 1) := by decide +kernel
theorem dX4_reasonToChange_67 : decode cX4_reasonToChange 67 = .ok (.ireturn, 1) := by decide +kernel
theorem dX4_reasonToChange_68 : decode cX4_reasonToChange 68 = .ok (.aload_n 0, 1) := by decide +kernel
theorem dX4_reasonToChange_69 : decode cX4_reasonToChange 69 = .ok (.getfield 35, 3) := by decide +kernel
theorem dX4_reasonToChange_72 : decode cX4_reasonToChange 72 = .ok (.iconst 5, 1) := by decide +kernel
theorem dX4_reasonToChange_73 : decode cX4_reasonToChange 73 = .ok (.if_icmp .ge 22, 3) := by decide +kernel
theorem dX4_reasonToChange_76 : decode cX4_reasonToChange 76 = .ok (.fload_n 1, 1) := by decide +kernel
theorem dX4_reasonToChange_77 : decode cX4_reasonToChange 77 = .ok (.aload_n 0, 1) := by decide +kernel
theorem dX4_reasonToChange_78 : decode cX4_reasonToChange 78 = .ok (.getfield 12, 3) := by decide +kernel
theorem dX4_reasonToChange_81 : decode cX4_reasonToChange 81 = .ok (.aload_n 0, 1) := by decide +kernel
theorem dX4_reasonToChange_82 : decode cX4_reasonToChange 82 = .ok (.getfield 35, 3) := by decide +kernel
theorem dX4_reasonToChange_85 : decode cX4_reasonToChange 85 = .ok (.fload_n 2, 1) := by decide +kernel
theorem dX4_reasonToChange_86 : decode cX4_reasonToChange 86 = .ok (.invokevirtual 117, 3) := by decide +kernel
theorem dX4_reasonToChange_89 : decode cX4_reasonToChange 89 = .ok (.fcmp .l, 1) := by decide +kernel
theorem dX4_reasonToChange_90 : decode cX4_reasonToChange 90 = .ok (.ifCond .le 5, 3) := by decide +kernel
theorem dX4_reasonToChange_93 : decode cX4_reasonToChange 93 = .ok (.iconst 0, 1) := by decide +kernel
theorem dX4_reasonToChange_94 : decode cX4_reasonToChange 94 = .ok (.ireturn, 1) := by decide +kernel
theorem dX4_reasonToChange_95 : decode cX4_reasonToChange 95 = .ok (.aload_n 0, 1) := by decide +kernel
theorem dX4_reasonToChange_96 : decode cX4_reasonToChange 96 = .ok (.getfield 35, 3) := by decide +kernel
theorem dX4_reasonToChange_99 : decode cX4_reasonToChange 99 = .ok (.iconst 1, 1) := by decide +kernel
theorem dX4_reasonToChange_100 : decode cX4_reasonToChange 100 = .ok (.if_icmp .le 24, 3) := by decide +kernel
theorem dX4_reasonToChange_103 : decode cX4_reasonToChange 103 = .ok (.fload_n 1, 1) := by decide +kernel
theorem dX4_reasonToChange_104 : decode cX4_reasonToChange 104 = .ok (.aload_n 0, 1) := by decide +kernel
theorem dX4_reasonToChange_105 : decode cX4_reasonToChange 105 = .ok (.getfield 12, 3) := by decide +kernel
theorem dX4_reasonToChange_108 : decode cX4_reasonToChange 108 = .ok (.aload_n 0, 1) := by decide +kernel
theorem dX4_reasonToChange_109 : decode cX4_reasonToChange 109 = .ok (.getfield 35, 3) := by decide +kernel
theorem dX4_reasonToChange_112 : decode cX4_reasonToChange 112 = .ok (.iconst 1, 1) := by decide +kernel
theorem dX4_reasonToChange_113 : decode cX4_reasonToChange 113 = .ok (.isub, 1) := by decide +kernel
theorem dX4_reasonToChange_114 : decode cX4_reasonToChange 114 = .ok (.fload_n 2, 1) := by decide +kernel
theorem dX4_reasonToChange_115 : decode cX4_reasonToChange 115 = .ok (.invokevirtual 121, 3) := by decide +kernel
theorem dX4_reasonToChange_118 : decode cX4_reasonToChange 118 = .ok (.fcmp .g, 1) := by decide +kernel
theorem dX4_reasonToChange_119 : decode cX4_reasonToChange 119 = .ok (.ifCond .ge 5, 3) := by decide +kernel
theorem dX4_reasonToChange_122 : decode cX4_reasonToChange 122 = .ok (.iconst 1, 1) := by decide +kernel
theorem dX4_reasonToChange_123 : decode cX4_reasonToChange 123 = .ok (.ireturn, 1) := by decide +kernel
theorem dX4_reasonToChange_124 : decode cX4_reasonToChange 124 = .ok (.iconst (-1), 1) := by decide +kernel
theorem dX4_reasonToChange_125 : decode cX4_reasonToChange 125 = .ok (.ireturn, 1) := by decide +kernel
theorem dX4_isDeep_0 : decode cX4_isDeep 0 = .ok (.fload_n 0, 1) := by decide +kernel
theorem dX4_isDeep_1 : decode cX4_isDeep 1 = .ok (.ldc 124, 2) := by decide +kernel
theorem dX4_isDeep_3 : decode cX4_isDeep 3 = .ok (.fcmp .l, 1) := by decide +kernel
theorem dX4_isDeep_4 : decode cX4_isDeep 4 = .ok (.ifCond .lt 7, 3) := by decide +kernel
theorem dX4_isDeep_7 : decode cX4_isDeep 7 = .ok (.iconst 1, 1) := by decide +kernel
theorem dX4_isDeep_8 : decode cX4_isDeep 8 = .ok (.goto 4, 3) := by decide +kernel
theorem dX4_isDeep_11 : decode cX4_isDeep 11 = .ok (.iconst 0, 1) := by decide +kernel
theorem dX4_isDeep_12 : decode cX4_isDeep 12 = .ok (.ireturn, 1) := by decide +kernel
set_option maxRecDepth 20000 in
theorem ggX4_kickdownGear_X3_exceeds : GoodIn wsX4_kickdownGear wsX3_exceeds := goodIn_r _ [11, 12, 13, 14, 10, 15, 16, 28] (by decide +kernel) (by decide +kernel)
set_option maxRecDepth 20000 in
theorem gX4_kickdownGear_X3_exceeds : GoodIn wsX4_kickdownGear (wsV RX4 105 RX3 yX3_exceeds wsX3_exceeds) := goodIn_app (goodIn_of _ (by decide +kernel)) ggX4_kickdownGear_X3_exceeds
theorem dX4_kickdownGear_0 : decode cX4_kickdownGear 0 = .ok (.aload_n 0, 1) := by decide +kernel
theorem dX4_kickdownGear_1 : decode cX4_kickdownGear 1 = .ok (.getfield 35, 3) := by decide +kernel
theorem dX4_kickdownGear_4 : decode cX4_kickdownGear 4 = .ok (.iconst 2, 1) := by decide +kernel
theorem dX4_kickdownGear_5 : decode cX4_kickdownGear 5 = .ok (.isub, 1) := by decide +kernel
theorem dX4_kickdownGear_6 : decode cX4_kickdownGear 6 = .ok (.iconst 1, 1) := by decide +kernel
theorem dX4_kickdownGear_7 : decode cX4_kickdownGear 7 = .ok (.invokestatic 125, 3) := by decide +kernel
theorem dX4_kickdownGear_10 : decode cX4_kickdownGear 10 = .ok (.istore_n 2, 1) := by decide +kernel
theorem dX4_kickdownGear_11 : decode cX4_kickdownGear 11 = .ok (.iload_n 2, 1) := by decide +kernel
theorem dX4_kickdownGear_12 : decode cX4_kickdownGear 12 = .ok (.aload_n 0, 1) := by decide +kernel
theorem dX4_kickdownGear_13 : decode cX4_kickdownGear 13 = .ok (.getfield 35, 3) := by decide +kernel
theorem dX4_kickdownGear_16 : decode cX4_kickdownGear 16 = .ok (.if_icmp .ge 23, 3) := by decide +kernel
theorem dX4_kickdownGear_19 : decode cX4_kickdownGear 19 = .ok (.aload_n 0, 1) := by decide +kernel
theorem dX4_kickdownGear_20 : decode cX4_kickdownGear 20 = .ok (.getfield 12, 3) := by decide +kernel
theorem dX4_kickdownGear_23 : decode cX4_kickdownGear 23 = .ok (.fload_n 1, 1) := by decide +kernel
theorem dX4_kickdownGear_24 : decode cX4_kickdownGear 24 = .ok (.iload_n 2, 1) := by decide +kernel
theorem dX4_kickdownGear_25 : decode cX4_kickdownGear 25 = .ok (.invokevirtual 105, 3) := by decide +kernel
theorem dX4_kickdownGear_28 : decode cX4_kickdownGear 28 = .ok (.ifCond .ne 5, 3) := by decide +kernel
theorem dX4_kickdownGear_31 : decode cX4_kickdownGear 31 = .ok (.iload_n 2, 1) := by decide +kernel
theorem dX4_kickdownGear_32 : decode cX4_kickdownGear 32 = .ok (.ireturn, 1) := by decide +kernel
theorem dX4_kickdownGear_33 : decode cX4_kickdownGear 33 = .ok (.iinc 2 1, 3) := by decide +kernel
theorem dX4_kickdownGear_36 : decode cX4_kickdownGear 36 = .ok (.goto (-25), 3) := by decide +kernel
theorem dX4_kickdownGear_39 : decode cX4_kickdownGear 39 = .ok (.iconst 0, 1) := by decide +kernel
theorem dX4_kickdownGear_40 : decode cX4_kickdownGear 40 = .ok (.ireturn, 1) := by decide +kernel
set_option maxRecDepth 20000 in
theorem ggX4_gearChosenBy_X4_kickdownGear : GoodIn wsX4_gearChosenBy wsX4_kickdownGear := goodIn_r _ [6, 1, 7, 8, 9, 10, 11, 12, 13, 14, 15, 16, 17, 18, 19, 20, 21, 22, 23, 24, 25, 26, 27, 28, 29, 30, 31, 32, 33] (by decide +kernel) (by decide +kernel)
set_option maxRecDepth 20000 in
theorem gX4_gearChosenBy_X4_kickdownGear : GoodIn wsX4_gearChosenBy (wsV RX4 113 RX4 yX4_kickdownGear wsX4_kickdownGear) := goodIn_app (goodIn_of _ (by decide +kernel)) ggX4_gearChosenBy_X4_kickdownGear
theorem dX4_gearChosenBy_0 : decode cX4_gearChosenBy 0 = .ok (.iload_n 1, 1) := by decide +kernel
theorem dX4_gearChosenBy_1 : decode cX4_gearChosenBy 1 = .ok (.lookupswitch 40 #[(1, 33), (2, 27)], 27) := by decide +kernel
theorem dX4_gearChosenBy_28 : decode cX4_gearChosenBy 28 = .ok (.aload_n 0, 1) := by decide +kernel
theorem dX4_gearChosenBy_29 : decode cX4_gearChosenBy 29 = .ok (.fload_n 2, 1) := by decide +kernel
theorem dX4_gearChosenBy_30 : decode cX4_gearChosenBy 30 = .ok (.invokevirtual 113, 3) := by decide +kernel
theorem dX4_gearChosenBy_33 : decode cX4_gearChosenBy 33 = .ok (.ireturn, 1) := by decide +kernel
theorem dX4_gearChosenBy_34 : decode cX4_gearChosenBy 34 = .ok (.aload_n 0, 1) := by decide +kernel
theorem dX4_gearChosenBy_35 : decode cX4_gearChosenBy 35 = .ok (.getfield 35, 3) := by decide +kernel
theorem dX4_gearChosenBy_38 : decode cX4_gearChosenBy 38 = .ok (.iconst 1, 1) := by decide +kernel
theorem dX4_gearChosenBy_39 : decode cX4_gearChosenBy 39 = .ok (.isub, 1) := by decide +kernel
theorem dX4_gearChosenBy_40 : decode cX4_gearChosenBy 40 = .ok (.ireturn, 1) := by decide +kernel
theorem dX4_gearChosenBy_41 : decode cX4_gearChosenBy 41 = .ok (.aload_n 0, 1) := by decide +kernel
theorem dX4_gearChosenBy_42 : decode cX4_gearChosenBy 42 = .ok (.getfield 35, 3) := by decide +kernel
theorem dX4_gearChosenBy_45 : decode cX4_gearChosenBy 45 = .ok (.iconst 1, 1) := by decide +kernel
theorem dX4_gearChosenBy_46 : decode cX4_gearChosenBy 46 = .ok (.iadd, 1) := by decide +kernel
theorem dX4_gearChosenBy_47 : decode cX4_gearChosenBy 47 = .ok (.ireturn, 1) := by decide +kernel
set_option maxRecDepth 20000 in
theorem ggX4_countTick_X4_countOneMore : GoodIn wsX4_countTick wsX4_countOneMore := goodIn_r _ [6, 7, 13, 14, 15, 16, 17, 18, 19, 20, 21, 22, 23] (by decide +kernel) (by decide +kernel)
set_option maxRecDepth 20000 in
theorem gX4_countTick_X4_countOneMore : GoodIn wsX4_countTick (wsV RX4 131 RX4 yX4_countOneMore wsX4_countOneMore) := goodIn_app (goodIn_of _ (by decide +kernel)) ggX4_countTick_X4_countOneMore
set_option maxRecDepth 20000 in
theorem ggX4_countTick_X4_isChanging : GoodIn wsX4_countTick wsX4_isChanging := goodIn_r _ [11, 12, 13, 14, 15, 16, 17, 18, 19, 20, 21, 22, 23] (by decide +kernel) (by decide +kernel)
set_option maxRecDepth 20000 in
theorem gX4_countTick_X4_isChanging : GoodIn wsX4_countTick (wsV RX4 86 RX4 yX4_isChanging wsX4_isChanging) := goodIn_app (goodIn_of _ (by decide +kernel)) ggX4_countTick_X4_isChanging
theorem dX4_countTick_0 : decode cX4_countTick 0 = .ok (.aload_n 0, 1) := by decide +kernel
theorem dX4_countTick_1 : decode cX4_countTick 1 = .ok (.iconst 0, 1) := by decide +kernel
theorem dX4_countTick_2 : decode cX4_countTick 2 = .ok (.invokevirtual 131, 3) := by decide +kernel
theorem dX4_countTick_5 : decode cX4_countTick 5 = .ok (.aload_n 0, 1) := by decide +kernel
theorem dX4_countTick_6 : decode cX4_countTick 6 = .ok (.bipush 7, 2) := by decide +kernel
theorem dX4_countTick_8 : decode cX4_countTick 8 = .ok (.aload_n 0, 1) := by decide +kernel
theorem dX4_countTick_9 : decode cX4_countTick 9 = .ok (.getfield 35, 3) := by decide +kernel
theorem dX4_countTick_12 : decode cX4_countTick 12 = .ok (.iadd, 1) := by decide +kernel
theorem dX4_countTick_13 : decode cX4_countTick 13 = .ok (.iconst 1, 1) := by decide +kernel
theorem dX4_countTick_14 : decode cX4_countTick 14 = .ok (.isub, 1) := by decide +kernel
theorem dX4_countTick_15 : decode cX4_countTick 15 = .ok (.invokevirtual 131, 3) := by decide +kernel
theorem dX4_countTick_18 : decode cX4_countTick 18 = .ok (.aload_n 0, 1) := by decide +kernel
theorem dX4_countTick_19 : decode cX4_countTick 19 = .ok (.invokevirtual 86, 3) := by decide +kernel
theorem dX4_countTick_22 : decode cX4_countTick 22 = .ok (.ifCond .eq 9, 3) := by decide +kernel
theorem dX4_countTick_25 : decode cX4_countTick 25 = .ok (.aload_n 0, 1) := by decide +kernel
