set_option maxRecDepth 20000 in
theorem ggX5_setNumber_X4_setting : GoodIn wsX5_setNumber wsX4_setting := goodIn_r _ [11, 12, 78, 79, 80, 81, 82, 83, 84, 85, 86, 87, 88] (by decide +kernel) (by decide +kernel)
set_option maxRecDepth 20000 in
theorem gX5_setNumber_X4_setting : GoodIn wsX5_setNumber (wsV RX5 77 RX4 yX4_setting wsX4_setting) := goodIn_app (goodIn_of _ (by decide +kernel)) ggX5_setNumber_X4_setting
set_option maxRecDepth 20000 in
theorem ggX5_setNumber_X1_record : GoodIn wsX5_setNumber wsX1_record := goodIn_r _ [23, 24, 25, 26, 27, 28, 29, 30, 31, 32, 22, 33, 34, 35, 36, 37, 6, 38, 39, 40, 41, 42, 43, 44, 45, 12, 46, 17, 47, 48, 49, 50, 51, 52, 53, 54, 55, 56, 57, 58, 59, 60, 61, 62, 63, 64, 65, 66, 67, 89, 90, 91, 78, 79, 80, 81, 82, 83, 84, 85, 86, 87, 88, 92, 93, 94, 95] (by decide +kernel) (by decide +kernel)
set_option maxRecDepth 20000 in
theorem gX5_setNumber_X1_record : GoodIn wsX5_setNumber (wsV RX5 62 RX1 yX1_record wsX1_record) := goodIn_app (goodIn_of _ (by decide +kernel)) ggX5_setNumber_X1_record
set_option maxRecDepth 20000 in
theorem ggX5_setNumber_X4_putSetting : GoodIn wsX5_setNumber wsX4_putSetting := goodIn_r _ [71, 12, 78, 79, 80, 81, 82, 83, 84, 85, 86, 87, 88] (by decide +kernel) (by decide +kernel)
set_option maxRecDepth 20000 in
theorem gX5_setNumber_X4_putSetting : GoodIn wsX5_setNumber (wsV RX5 81 RX4 yX4_putSetting wsX4_putSetting) := goodIn_app (goodIn_of _ (by decide +kernel)) ggX5_setNumber_X4_putSetting
theorem dX5_setNumber_0 : decode cX5_setNumber 0 = .ok (.iload_n 1, 1) := by decide +kernel
theorem dX5_setNumber_1 : decode cX5_setNumber 1 = .ok (.ifCond .lt 8, 3) := by decide +kernel
theorem dX5_setNumber_4 : decode cX5_setNumber 4 = .ok (.iload_n 1, 1) := by decide +kernel
theorem dX5_setNumber_5 : decode cX5_setNumber 5 = .ok (.iconst 3, 1) := by decide +kernel
theorem dX5_setNumber_6 : decode cX5_setNumber 6 = .ok (.if_icmp .le 5, 3) := by decide +kernel
theorem dX5_setNumber_9 : decode cX5_setNumber 9 = .ok (.iconst (-1), 1) := by decide +kernel
theorem dX5_setNumber_10 : decode cX5_setNumber 10 = .ok (.ireturn, 1) := by decide +kernel
theorem dX5_setNumber_11 : decode cX5_setNumber 11 = .ok (.aload_n 0, 1) := by decide +kernel
theorem dX5_setNumber_12 : decode cX5_setNumber 12 = .ok (.getfield 10, 3) := by decide +kernel
theorem dX5_setNumber_15 : decode cX5_setNumber 15 = .ok (.iload_n 1, 1) := by decide +kernel
theorem dX5_setNumber_16 : decode cX5_setNumber 16 = .ok (.iload_n 2, 1) := by decide +kernel
theorem dX5_setNumber_17 : decode cX5_setNumber 17 = .ok (.invokevirtual 70, 3) := by decide +kernel
theorem dX5_setNumber_20 : decode cX5_setNumber 20 = .ok (.ifCond .ne 6, 3) := by decide +kernel
theorem dX5_setNumber_23 : decode cX5_setNumber 23 = .ok (.bipush (-2), 2) := by decide +kernel
theorem dX5_setNumber_25 : decode cX5_setNumber 25 = .ok (.ireturn, 1) := by decide +kernel
theorem dX5_setNumber_26 : decode cX5_setNumber 26 = .ok (.iload_n 1, 1) := by decide +kernel
theorem dX5_setNumber_27 : decode cX5_setNumber 27 = .ok (.iconst 1, 1) := by decide +kernel
theorem dX5_setNumber_28 : decode cX5_setNumber 28 = .ok (.if_icmp .gt 16, 3) := by decide +kernel
theorem dX5_setNumber_31 : decode cX5_setNumber 31 = .ok (.aload_n 0, 1) := by decide +kernel
theorem dX5_setNumber_32 : decode cX5_setNumber 32 = .ok (.getfield 10, 3) := by decide +kernel
theorem dX5_setNumber_35 : decode cX5_setNumber 35 = .ok (.invokevirtual 73, 3) := by decide +kernel
theorem dX5_setNumber_38 : decode cX5_setNumber 38 = .ok (.ifCond .eq 6, 3) := by decide +kernel
theorem dX5_setNumber_41 : decode cX5_setNumber 41 = .ok (.bipush (-4), 2) := by decide +kernel
theorem dX5_setNumber_43 : decode cX5_setNumber 43 = .ok (.ireturn, 1) := by decide +kernel
theorem dX5_setNumber_44 : decode cX5_setNumber 44 = .ok (.aload_n 0, 1) := by decide +kernel
theorem dX5_setNumber_45 : decode cX5_setNumber 45 = .ok (.getfield 10, 3) := by decide +kernel
theorem dX5_setNumber_48 : decode cX5_setNumber 48 = .ok (.iload_n 1, 1) := by decide +kernel
theorem dX5_setNumber_49 : decode cX5_setNumber 49 = .ok (.invokevirtual 77, 3) := by decide +kernel
theorem dX5_setNumber_52 : decode cX5_setNumber 52 = .ok (.istore_n 3, 1) := by decide +kernel
theorem dX5_setNumber_53 : decode cX5_setNumber 53 = .ok (.iload_n 3, 1) := by decide +kernel
theorem dX5_setNumber_54 : decode cX5_setNumber 54 = .ok (.iload_n 2, 1) := by decide +kernel
theorem dX5_setNumber_55 : decode cX5_setNumber 55 = .ok (.if_icmp .ne 6, 3) := by decide +kernel
theorem dX5_setNumber_58 : decode cX5_setNumber 58 = .ok (.bipush (-5), 2) := by decide +kernel
theorem dX5_setNumber_60 : decode cX5_setNumber 60 = .ok (.ireturn, 1) := by decide +kernel
theorem dX5_setNumber_61 : decode cX5_setNumber 61 = .ok (.aload_n 0, 1) := by decide +kernel
theorem dX5_setNumber_62 : decode cX5_setNumber 62 = .ok (.getfield 25, 3) := by decide +kernel
theorem dX5_setNumber_65 : decode cX5_setNumber 65 = .ok (.aload_n 0, 1) := by decide +kernel
theorem dX5_setNumber_66 : decode cX5_setNumber 66 = .ok (.getfield 10, 3) := by decide +kernel
theorem dX5_setNumber_69 : decode cX5_setNumber 69 = .ok (.invokevirtual 62, 3) := by decide +kernel
theorem dX5_setNumber_72 : decode cX5_setNumber 72 = .ok (.aload_n 0, 1) := by decide +kernel
theorem dX5_setNumber_73 : decode cX5_setNumber 73 = .ok (.getfield 10, 3) := by decide +kernel
theorem dX5_setNumber_76 : decode cX5_setNumber 76 = .ok (.iload_n 1, 1) := by decide +kernel
theorem dX5_setNumber_77 : decode cX5_setNumber 77 = .ok (.iload_n 2, 1) := by decide +kernel
theorem dX5_setNumber_78 : decode cX5_setNumber 78 = .ok (.invokevirtual 81, 3) := by decide +kernel
theorem dX5_setNumber_81 : decode cX5_setNumber 81 = .ok (.iload_n 3, 1) := by decide +kernel
theorem dX5_setNumber_82 : decode cX5_setNumber 82 = .ok (.ireturn, 1) := by decide +kernel
set_option maxRecDepth 20000 in
theorem ggX5_byHand_X1_record : GoodIn wsX5_byHand wsX1_record := goodIn_r _ [7, 8, 9, 10, 11, 12, 13, 14, 15, 16, 6, 17, 18, 19, 20, 21, 22, 23, 24, 25, 26, 27, 28, 29, 30, 31, 32, 33, 34, 35, 36, 37, 38, 39, 40, 41, 42, 43, 44, 45, 46, 47, 48, 49, 50, 51, 52, 53, 54, 72, 73, 74, 61, 62, 63, 64, 65, 66, 67, 68, 69, 70, 71, 75, 76, 77, 78] (by decide +kernel) (by decide +kernel)
set_option maxRecDepth 20000 in
theorem gX5_byHand_X1_record : GoodIn wsX5_byHand (wsV RX5 62 RX1 yX1_record wsX1_record) := goodIn_app (goodIn_of _ (by decide +kernel)) ggX5_byHand_X1_record
theorem dX5_byHand_0 : decode cX5_byHand 0 = .ok (.aload_n 0, 1) := by decide +kernel
theorem dX5_byHand_1 : decode cX5_byHand 1 = .ok (.getfield 10, 3) := by decide +kernel
theorem dX5_byHand_4 : decode cX5_byHand 4 = .ok (.getfield 85, 3) := by decide +kernel
theorem dX5_byHand_7 : decode cX5_byHand 7 = .ok (.iload_n 1, 1) := by decide +kernel
theorem dX5_byHand_8 : decode cX5_byHand 8 = .ok (.if_icmp .ne 6, 3) := by decide +kernel
theorem dX5_byHand_11 : decode cX5_byHand 11 = .ok (.bipush (-5), 2) := by decide +kernel
theorem dX5_byHand_13 : decode cX5_byHand 13 = .ok (.ireturn, 1) := by decide +kernel
theorem dX5_byHand_14 : decode cX5_byHand 14 = .ok (.aload_n 0, 1) := by decide +kernel
theorem dX5_byHand_15 : decode cX5_byHand 15 = .ok (.getfield 25, 3) := by decide +kernel
theorem dX5_byHand_18 : decode cX5_byHand 18 = .ok (.aload_n 0, 1) := by decide +kernel
theorem dX5_byHand_19 : decode cX5_byHand 19 = .ok (.getfield 10, 3) := by decide +kernel
theorem dX5_byHand_22 : decode cX5_byHand 22 = .ok (.invokevirtual 62, 3) := by decide +kernel
theorem dX5_byHand_25 : decode cX5_byHand 25 = .ok (.aload_n 0, 1) := by decide +kernel
theorem dX5_byHand_26 : decode cX5_byHand 26 = .ok (.getfield 10, 3) := by decide +kernel
theorem dX5_byHand_29 : decode cX5_byHand 29 = .ok (.iload_n 1, 1) := by decide +kernel
theorem dX5_byHand_30 : decode cX5_byHand 30 = .ok (.putfield 85, 3) := by decide +kernel
theorem dX5_byHand_33 : decode cX5_byHand 33 = .ok (.aload_n 0, 1) := by decide +kernel
theorem dX5_byHand_34 : decode cX5_byHand 34 = .ok (.getfield 10, 3) := by decide +kernel
theorem dX5_byHand_37 : decode cX5_byHand 37 = .ok (.getfield 88, 3) := by decide +kernel
theorem dX5_byHand_40 : decode cX5_byHand 40 = .ok (.ireturn, 1) := by decide +kernel
set_option maxRecDepth 20000 in
theorem ggX5_drive_X5_isSpeed : GoodIn wsX5_drive wsX5_isSpeed := goodIn_r _ [7, 8] (by decide +kernel) (by decide +kernel)
set_option maxRecDepth 20000 in
theorem gX5_drive_X5_isSpeed : GoodIn wsX5_drive (va_wsS RX5 46 yX5_isSpeed wsX5_isSpeed) := goodIn_app (goodIn_of _ (by decide +kernel)) ggX5_drive_X5_isSpeed
set_option maxRecDepth 20000 in
theorem ggX5_drive_X5_isPedal : GoodIn wsX5_drive wsX5_isPedal := goodIn_r _ [11, 12] (by decide +kernel) (by decide +kernel)
set_option maxRecDepth 20000 in
theorem gX5_drive_X5_isPedal : GoodIn wsX5_drive (va_wsS RX5 92 yX5_isPedal wsX5_isPedal) := goodIn_app (goodIn_of _ (by decide +kernel)) ggX5_drive_X5_isPedal
set_option maxRecDepth 20000 in
theorem ggX5_drive_X4_tick : GoodIn wsX5_drive wsX4_tick := goodIn_r _ [17, 18, 19, 20, 16, 21, 22, 167, 168, 169, 170, 171, 172, 173, 174, 175, 176, 177] (by decide +kernel) (by decide +kernel)
set_option maxRecDepth 20000 in
theorem gX5_drive_X4_tick : GoodIn wsX5_drive (wsV RX5 95 RX4 yX4_tick wsX4_tick) := goodIn_app (goodIn_of _ (by decide +kernel)) ggX5_drive_X4_tick
set_option maxRecDepth 20000 in
theorem ggX5_drive_X1_record : GoodIn wsX5_drive wsX1_record := goodIn_r _ [27, 28, 29, 30, 31, 32, 33, 34, 35, 36, 26, 37, 38, 39, 40, 41, 16, 42, 43, 44, 22, 45, 46, 47, 48, 49, 50, 51, 52, 53, 54, 55, 56, 57, 58, 59, 60, 61, 62, 63, 64, 65, 66, 67, 68, 69, 70, 71, 72, 178, 179, 180, 167, 168, 169, 170, 171, 172, 173, 174, 175, 176, 177, 181, 182, 183, 184] (by decide +kernel) (by decide +kernel)
set_option maxRecDepth 20000 in
theorem gX5_drive_X1_record : GoodIn wsX5_drive (wsV RX5 62 RX1 yX1_record wsX1_record) := goodIn_app (goodIn_of _ (by decide +kernel)) ggX5_drive_X1_record
set_option maxRecDepth 20000 in
theorem ggX5_drive_X5_floatOf : GoodIn wsX5_drive wsX5_floatOf := goodIn_r _ [75, 76, 77, 78] (by decide +kernel) (by decide +kernel)
set_option maxRecDepth 20000 in
theorem gX5_drive_X5_floatOf : GoodIn wsX5_drive (va_wsS RX5 50 yX5_floatOf wsX5_floatOf) := goodIn_app (goodIn_of _ (by decide +kernel)) ggX5_drive_X5_floatOf
set_option maxRecDepth 20000 in
theorem ggX5_drive_X4_passTicks : GoodIn wsX5_drive wsX4_passTicks := goodIn_r _ [82, 83, 84, 85, 16, 86, 53, 55, 56, 87, 88, 89, 90, 52, 51, 50, 91, 92, 93, 94, 95, 96, 97, 98, 49, 99, 100, 101, 102, 43, 54, 103, 104, 105, 60, 106, 107, 108, 109, 110, 62, 111, 112, 113, 114, 115, 116, 117, 118, 119, 120, 32, 121, 122, 123, 124, 125, 126, 127, 128, 129, 130, 131, 132, 133, 134, 135, 136, 137, 138, 44, 139, 140, 141, 142, 143, 144, 145, 67, 146, 72, 71, 69, 147, 14, 15, 17, 18, 19, 20, 21, 22, 148, 149, 150, 151, 152, 31, 33, 153, 154, 155, 156, 157, 158, 159, 160, 167, 168, 169, 170, 171, 172, 173, 174, 175, 176, 177, 181, 182, 183, 184] (by decide +kernel) (by decide +kernel)
set_option maxRecDepth 20000 in
theorem gX5_drive_X4_passTicks : GoodIn wsX5_drive (wsV RX5 100 RX4 yX4_passTicks wsX4_passTicks) := goodIn_app (goodIn_of _ (by decide +kernel)) ggX5_drive_X4_passTicks
theorem dX5_drive_0 : decode cX5_drive 0 = .ok (.iload_n 1, 1) := by decide +kernel
theorem dX5_drive_1 : decode cX5_drive 1 = .ok (.invokestatic 46, 3) := by decide +kernel
theorem dX5_drive_4 : decode cX5_drive 4 = .ok (.ifCond .eq 21, 3) := by decide +kernel
theorem dX5_drive_7 : decode cX5_drive 7 = .ok (.iload_n 2, 1) := by decide +kernel
theorem dX5_drive_8 : decode cX5_drive 8 = .ok (.invokestatic 92, 3) := by decide +kernel
theorem dX5_drive_11 : decode cX5_drive 11 = .ok (.ifCond .eq 14, 3) := by decide +kernel
theorem dX5_drive_14 : decode cX5_drive 14 = .ok (.iload_n 3, 1) := by decide +kernel
theorem dX5_drive_15 : decode cX5_drive 15 = .ok (.iconst 1, 1) := by decide +kernel
theorem dX5_drive_16 : decode cX5_drive 16 = .ok (.if_icmp .lt 9, 3) := by decide +kernel
theorem dX5_drive_19 : decode cX5_drive 19 = .ok (.iload_n 3, 1) := by decide +kernel
theorem dX5_drive_20 : decode cX5_drive 20 = .ok (.bipush 99, 2) := by decide +kernel
theorem dX5_drive_22 : decode cX5_drive 22 = .ok (.if_icmp .le 6, 3) := by decide +kernel
theorem dX5_drive_25 : decode cX5_drive 25 = .ok (.bipush (-2), 2) := by decide +kernel
theorem dX5_drive_27 : decode cX5_drive 27 = .ok (.ireturn, 1) := by decide +kernel
theorem dX5_drive_28 : decode cX5_drive 28 = .ok (.aload_n 0, 1) := by decide +kernel
theorem dX5_drive_29 : decode cX5_drive 29 = .ok (.getfield 10, 3) := by decide +kernel
theorem dX5_drive_32 : decode cX5_drive 32 = .ok (.invokevirtual 95, 3) := by decide +kernel
theorem dX5_drive_35 : decode cX5_drive 35 = .ok (.iload_n 3, 1) := by decide +kernel
theorem dX5_drive_36 : decode cX5_drive 36 = .ok (.iadd, 1) := by decide +kernel
theorem dX5_drive_37 : decode cX5_drive 37 = .ok (.ldc 99, 2) := by decide +kernel
theorem dX5_drive_39 : decode cX5_drive 39 = .ok (.if_icmp .le 6, 3) := by decide +kernel
theorem dX5_drive_42 : decode cX5_drive 42 = .ok (.bipush (-3), 2) := by decide +kernel
theorem dX5_drive_44 : decode cX5_drive 44 = .ok (.ireturn, 1) := by decide +kernel
theorem dX5_drive_45 : decode cX5_drive 45 = .ok (.aload_n 0, 1) := by decide +kernel
theorem dX5_drive_46 : decode cX5_drive 46 = .ok (.getfield 25, 3) := by decide +kernel
theorem dX5_drive_49 : decode cX5_drive 49 = .ok (.aload_n 0, 1) := by decide +kernel
theorem dX5_drive_50 : decode cX5_drive 50 = .ok (.getfield 10, 3) := by decide +kernel
theorem dX5_drive_53 : decode cX5_drive 53 = .ok (.invokevirtual 62, 3) := by decide +kernel
theorem dX5_drive_56 : decode cX5_drive 56 = .ok (.aload_n 0, 1) := by decide +kernel
theorem dX5_drive_57 : decode cX5_drive 57 = .ok (.getfield 10, 3) := by decide +kernel
theorem dX5_drive_60 : decode cX5_drive 60 = .ok (.iload_n 1, 1) := by decide +kernel
theorem dX5_drive_61 : decode cX5_drive 61 = .ok (.invokestatic 50, 3) := by decide +kernel
theorem dX5_drive_64 : decode cX5_drive 64 = .ok (.iload_n 2, 1) := by decide +kernel
theorem dX5_drive_65 : decode cX5_drive 65 = .ok (.invokestatic 50, 3) := by decide +kernel
theorem dX5_drive_68 : decode cX5_drive 68 = .ok (.iload_n 3, 1) := by decide +kernel
theorem dX5_drive_69 : decode cX5_drive 69 = .ok (.invokevirtual 100, 3) := by decide +kernel
theorem dX5_drive_72 : decode cX5_drive 72 = .ok (.ireturn, 1) := by decide +kernel
set_option maxRecDepth 20000 in
theorem ggX5_readDrive_X0_read : GoodIn wsX5_readDrive wsX0_read := goodIn_r _ [10, 11, 12, 13, 14, 15, 16, 9, 17, 18, 19, 20, 21, 22, 23, 24, 25, 26, 27, 28, 29, 30, 31, 32, 33, 34, 35, 36, 37, 38, 39, 40, 41, 42, 216, 217, 218, 219, 220, 221, 222] (by decide +kernel) (by decide +kernel)
set_option maxRecDepth 20000 in
theorem gX5_readDrive_X0_read : GoodIn wsX5_readDrive (wsV RX5 104 RX0 yX0_read wsX0_read) := goodIn_app (goodIn_of _ (by decide +kernel)) ggX5_readDrive_X0_read
set_option maxRecDepth 20000 in
theorem ggX5_readDrive_X4_tick : GoodIn wsX5_readDrive wsX4_tick := goodIn_r _ [47, 48, 49, 50, 46, 51, 52, 223, 224, 225, 226, 227, 228, 229, 230, 231, 232, 233] (by decide +kernel) (by decide +kernel)
set_option maxRecDepth 20000 in
theorem gX5_readDrive_X4_tick : GoodIn wsX5_readDrive (wsV RX5 95 RX4 yX4_tick wsX4_tick) := goodIn_app (goodIn_of _ (by decide +kernel)) ggX5_readDrive_X4_tick
set_option maxRecDepth 20000 in
theorem ggX5_readDrive_X0_ticksOfAllParts : GoodIn wsX5_readDrive wsX0_ticksOfAllParts := goodIn_r _ [56, 11, 57, 58, 59, 9, 60, 61, 62, 63, 64, 33, 216, 217, 218, 219, 220, 221, 222] (by decide +kernel) (by decide +kernel)
set_option maxRecDepth 20000 in
theorem gX5_readDrive_X0_ticksOfAllParts : GoodIn wsX5_readDrive (wsV RX5 107 RX0 yX0_ticksOfAllParts wsX0_ticksOfAllParts) := goodIn_app (goodIn_of _ (by decide +kernel)) ggX5_readDrive_X0_ticksOfAllParts
set_option maxRecDepth 20000 in
theorem ggX5_readDrive_X1_record : GoodIn wsX5_readDrive wsX1_record := goodIn_r _ [69, 70, 71, 72, 73, 74, 75, 76, 77, 78, 68, 79, 80, 81, 82, 83, 46, 84, 85, 86, 52, 87, 88, 89, 90, 91, 92, 93, 94, 95, 96, 97, 98, 99, 100, 101, 102, 103, 104, 105, 106, 107, 108, 109, 110, 111, 112, 113, 114, 234, 235, 236, 223, 224, 225, 226, 227, 228, 229, 230, 231, 232, 233, 237, 238, 239, 240] (by decide +kernel) (by decide +kernel)
set_option maxRecDepth 20000 in
theorem gX5_readDrive_X1_record : GoodIn wsX5_readDrive (wsV RX5 62 RX1 yX1_record wsX1_record) := goodIn_app (goodIn_of _ (by decide +kernel)) ggX5_readDrive_X1_record
set_option maxRecDepth 20000 in
theorem ggX5_readDrive_X0_partCount : GoodIn wsX5_readDrive wsX0_partCount := goodIn_r _ [118, 11, 216, 217, 218, 219, 220, 221, 222] (by decide +kernel) (by decide +kernel)
set_option maxRecDepth 20000 in
theorem gX5_readDrive_X0_partCount : GoodIn wsX5_readDrive (wsV RX5 110 RX0 yX0_partCount wsX0_partCount) := goodIn_app (goodIn_of _ (by decide +kernel)) ggX5_readDrive_X0_partCount
set_option maxRecDepth 20000 in
theorem ggX5_readDrive_X0_speedOf : GoodIn wsX5_readDrive wsX0_speedOf := goodIn_r _ [122, 61, 62, 63, 9, 64, 33, 216, 217, 218, 219, 220, 221, 222] (by decide +kernel) (by decide +kernel)
set_option maxRecDepth 20000 in
theorem gX5_readDrive_X0_speedOf : GoodIn wsX5_readDrive (wsV RX5 113 RX0 yX0_speedOf wsX0_speedOf) := goodIn_app (goodIn_of _ (by decide +kernel)) ggX5_readDrive_X0_speedOf
set_option maxRecDepth 20000 in
theorem ggX5_readDrive_X0_hundredthsOf : GoodIn wsX5_readDrive wsX0_hundredthsOf := goodIn_r _ [126, 61, 62, 63, 9, 64, 33, 216, 217, 218, 219, 220, 221, 222] (by decide +kernel) (by decide +kernel)
set_option maxRecDepth 20000 in
theorem gX5_readDrive_X0_hundredthsOf : GoodIn wsX5_readDrive (wsV RX5 116 RX0 yX0_hundredthsOf wsX0_hundredthsOf) := goodIn_app (goodIn_of _ (by decide +kernel)) ggX5_readDrive_X0_hundredthsOf
set_option maxRecDepth 20000 in
theorem ggX5_readDrive_X0_ticksOf : GoodIn wsX5_readDrive wsX0_ticksOf := goodIn_r _ [60, 61, 62, 63, 9, 64, 33, 216, 217, 218, 219, 220, 221, 222] (by decide +kernel) (by decide +kernel)
set_option maxRecDepth 20000 in
theorem gX5_readDrive_X0_ticksOf : GoodIn wsX5_readDrive (wsV RX5 120 RX0 yX0_ticksOf wsX0_ticksOf) := goodIn_app (goodIn_of _ (by decide +kernel)) ggX5_readDrive_X0_ticksOf
set_option maxRecDepth 20000 in
theorem ggX5_readDrive_X4_passTicks : GoodIn wsX5_readDrive wsX4_passTicks := goodIn_r _ [131, 132, 133, 134, 46, 135, 95, 97, 98, 136, 137, 138, 139, 94, 93, 92, 140, 141, 142, 143, 144, 145, 146, 147, 91, 148, 149, 150, 151, 85, 96, 152, 153, 154, 102, 155, 156, 157, 158, 159, 104, 160, 161, 162, 163, 164, 165, 166, 167, 168, 169, 74, 170, 171, 172, 173, 174, 175, 176, 177, 178, 179, 180, 181, 182, 183, 184, 185, 186, 187, 86, 188, 189, 190, 191, 192, 193, 194, 109, 195, 114, 113, 111, 196, 44, 45, 47, 48, 49, 50, 51, 52, 197, 198, 199, 200, 201, 73, 75, 202, 203, 204, 205, 206, 207, 208, 209, 223, 224, 225, 226, 227, 228, 229, 230, 231, 232, 233, 237, 238, 239, 240] (by decide +kernel) (by decide +kernel)
set_option maxRecDepth 20000 in
theorem gX5_readDrive_X4_passTicks : GoodIn wsX5_readDrive (wsV RX5 100 RX4 yX4_passTicks wsX4_passTicks) := goodIn_app (goodIn_of _ (by decide +kernel)) ggX5_readDrive_X4_passTicks
theorem dX5_readDrive_0 : decode cX5_readDrive 0 = .ok (.aload_n 0, 1) := by decide +kernel
theorem dX5_readDrive_1 : decode cX5_readDrive 1 = .ok (.getfield 32, 3) := by decide +kernel
theorem dX5_readDrive_4 : decode cX5_readDrive 4 = .ok (.invokevirtual 104, 3) := by decide +kernel
theorem dX5_readDrive_7 : decode cX5_readDrive 7 = .ok (.istore_n 1, 1) := by decide +kernel
theorem dX5_readDrive_8 : decode cX5_readDrive 8 = .ok (.iload_n 1, 1) := by decide +kernel
theorem dX5_readDrive_9 : decode cX5_readDrive 9 = .ok (.iconst (-1), 1) := by decide +kernel
theorem dX5_readDrive_10 : decode cX5_readDrive 10 = .ok (.if_icmp .eq 8, 3) := by decide +kernel
theorem dX5_readDrive_13 : decode cX5_readDrive 13 = .ok (.bipush (-100), 2) := by decide +kernel
theorem dX5_readDrive_15 : decode cX5_readDrive 15 = .ok (.iload_n 1, 1) := by decide +kernel
theorem dX5_readDrive_16 : decode cX5_readDrive 16 = .ok (.isub, 1) := by decide +kernel
theorem dX5_readDrive_17 : decode cX5_readDrive 17 = .ok (.ireturn, 1) := by decide +kernel
theorem dX5_readDrive_18 : decode cX5_readDrive 18 = .ok (.aload_n 0, 1) := by decide +kernel
theorem dX5_readDrive_19 : decode cX5_readDrive 19 = .ok (.getfield 10, 3) := by decide +kernel
theorem dX5_readDrive_22 : decode cX5_readDrive 22 = .ok (.invokevirtual 95, 3) := by decide +kernel
theorem dX5_readDrive_25 : decode cX5_readDrive 25 = .ok (.aload_n 0, 1) := by decide +kernel
theorem dX5_readDrive_26 : decode cX5_readDrive 26 = .ok (.getfield 32, 3) := by decide +kernel
theorem dX5_readDrive_29 : decode cX5_readDrive 29 = .ok (.invokevirtual 107, 3) := by decide +kernel
theorem dX5_readDrive_32 : decode cX5_readDrive 32 = .ok (.iadd, 1) := by decide +kernel
theorem dX5_readDrive_33 : decode cX5_readDrive 33 = .ok (.ldc 99, 2) := by decide +kernel
theorem dX5_readDrive_35 : decode cX5_readDrive 35 = .ok (.if_icmp .le 6, 3) := by decide +kernel
theorem dX5_readDrive_38 : decode cX5_readDrive 38 = .ok (.bipush (-3), 2) := by decide +kernel
theorem dX5_readDrive_40 : decode cX5_readDrive 40 = .ok (.ireturn, 1) := by decide +kernel
theorem dX5_readDrive_41 : decode cX5_readDrive 41 = .ok (.aload_n 0, 1) := by decide +kernel
theorem dX5_readDrive_42 : decode cX5_readDrive 42 = .ok (.getfield 25, 3) := by decide +kernel
theorem dX5_readDrive_45 : decode cX5_readDrive 45 = .ok (.aload_n 0, 1) := by decide +kernel
theorem dX5_readDrive_46 : decode cX5_readDrive 46 = .ok (.getfield 10, 3) := by decide +kernel
theorem dX5_readDrive_49 : decode cX5_readDrive 49 = .ok (.invokevirtual 62, 3) := by decide +kernel
theorem dX5_readDrive_52 : decode cX5_readDrive 52 = .ok (.iconst 0, 1) := by decide +kernel
theorem dX5_readDrive_53 : decode cX5_readDrive 53 = .ok (.istore_n 2, 1) := by decide +kernel
theorem dX5_readDrive_54 : decode cX5_readDrive 54 = .ok (.iconst 0, 1) := by decide +kernel
theorem dX5_readDrive_55 : decode cX5_readDrive 55 = .ok (.istore_n 3, 1) := by decide +kernel
theorem dX5_readDrive_56 : decode cX5_readDrive 56 = .ok (.iload_n 3, 1) := by decide +kernel
theorem dX5_readDrive_57 : decode cX5_readDrive 57 = .ok (.aload_n 0, 1) := by decide +kernel
theorem dX5_readDrive_58 : decode cX5_readDrive 58 = .ok (.getfield 32, 3) := by decide +kernel
theorem dX5_readDrive_61 : decode cX5_readDrive 61 = .ok (.invokevirtual 110, 3) := by decide +kernel
theorem dX5_readDrive_64 : decode cX5_readDrive 64 = .ok (.if_icmp .ge 56, 3) := by decide +kernel
theorem dX5_readDrive_67 : decode cX5_readDrive 67 = .ok (.aload_n 0, 1) := by decide +kernel
theorem dX5_readDrive_68 : decode cX5_readDrive 68 = .ok (.getfield 32, 3) := by decide +kernel
theorem dX5_readDrive_71 : decode cX5_readDrive 71 = .ok (.iload_n 3, 1) := by decide +kernel
theorem dX5_readDrive_72 : decode cX5_readDrive 72 = .ok (.invokevirtual 113, 3) := by decide +kernel
theorem dX5_readDrive_75 : decode cX5_readDrive 75 = .ok (.i2f, 1) := by decide +kernel
theorem dX5_readDrive_76 : decode cX5_readDrive 76 = .ok (.fstore 4, 2) := by decide +kernel
theorem dX5_readDrive_78 : decode cX5_readDrive 78 = .ok (.aload_n 0, 1) := by decide +kernel
theorem dX5_readDrive_79 : decode cX5_readDrive 79 = .ok (.getfield 32, 3) := by decide +kernel
theorem dX5_readDrive_82 : decode cX5_readDrive 82 = .ok (.iload_n 3, 1) := by decide +kernel
theorem dX5_readDrive_83 : decode cX5_readDrive 83 = .ok (.invokevirtual 116, 3) := by decide +kernel
theorem dX5_readDrive_86 : decode cX5_readDrive 86 = .ok (.i2f, 1) := by decide +kernel
theorem dX5_readDrive_87 : decode cX5_readDrive 87 = .ok (.ldc 119, 2) := by decide +kernel
theorem dX5_readDrive_89 : decode cX5_readDrive 89 = .ok (.fdiv, 1) := by decide +kernel
theorem dX5_readDrive_90 : decode cX5_readDrive 90 = .ok (.fstore 5, 2) := by decide +kernel
theorem dX5_readDrive_92 : decode cX5_readDrive 92 = .ok (.iload_n 2, 1) := by decide +kernel
theorem dX5_readDrive_93 : decode cX5_readDrive 93 = .ok (.aload_n 0, 1) := by decide +kernel
theorem dX5_readDrive_94 : decode cX5_readDrive 94 = .ok (.getfield 10, 3) := by decide +kernel
theorem dX5_readDrive_97 : decode cX5_readDrive 97 = .ok (.fload 4, 2) := by decide +kernel
theorem dX5_readDrive_99 : decode cX5_readDrive 99 = .ok (.fload 5, 2) := by decide +kernel
theorem dX5_readDrive_101 : decode cX5_readDrive 101 = .ok (.aload_n 0, 1) := by decide +kernel
theorem dX5_readDrive_102 : decode cX5_readDrive 102 = .ok (.getfield 32, 3) := by decide +kernel
theorem dX5_readDrive_105 : decode cX5_readDrive 105 = .ok (.iload_n 3, 1) := by decide +kernel
theorem dX5_readDrive_106 : decode cX5_readDrive 106 = .ok (.invokevirtual 120, 3) := by decide +kernel
theorem dX5_readDrive_109 : decode cX5_readDrive 109 = .ok (.invokevirtual 100, 3) := by decide +kernel
theorem dX5_readDrive_112 : decode cX5_readDrive 112 = .ok (.iadd, 1) := by decide +kernel
theorem dX5_readDrive_113 : decode cX5_readDrive 113 = .ok (.istore_n 2, 1) := by decide +kernel
theorem dX5_readDrive_114 : decode cX5_readDrive 114 = .ok (.iinc 3 1, 3) := by decide +kernel
theorem dX5_readDrive_117 : decode cX5_readDrive 117 = .ok (.goto (-61), 3) := by decide +kernel
theorem dX5_readDrive_120 : decode cX5_readDrive 120 = .ok (.iload_n 2, 1) := by decide +kernel
theorem dX5_readDrive_121 : decode cX5_readDrive 121 = .ok (.ireturn, 1) := by decide +kernel
set_option maxRecDepth 20000 in
theorem ggX5_shift_X4_mayShiftTo : GoodIn wsX5_shift wsX4_mayShiftTo := goodIn_r _ [7, 8, 9, 10, 11, 12, 13, 6, 14, 15, 16, 17, 18, 19, 20, 21, 22, 23, 24, 25, 110, 111, 112, 113, 114, 115, 116, 117, 118, 119, 120, 121] (by decide +kernel) (by decide +kernel)
set_option maxRecDepth 20000 in
theorem gX5_shift_X4_mayShiftTo : GoodIn wsX5_shift (wsV RX5 123 RX4 yX4_mayShiftTo wsX4_mayShiftTo) := goodIn_app (goodIn_of _ (by decide +kernel)) ggX5_shift_X4_mayShiftTo
set_option maxRecDepth 20000 in
theorem ggX5_shift_X1_record : GoodIn wsX5_shift wsX1_record := goodIn_r _ [30, 31, 32, 33, 34, 35, 36, 37, 38, 39, 29, 40, 41, 42, 43, 44, 6, 45, 9, 46, 47, 48, 49, 50, 51, 52, 53, 15, 54, 55, 8, 10, 56, 57, 58, 59, 19, 60, 25, 61, 62, 63, 64, 65, 66, 67, 68, 69, 70, 122, 123, 124, 110, 111, 112, 113, 114, 115, 116, 117, 118, 119, 120, 121, 125, 126, 127] (by decide +kernel) (by decide +kernel)
set_option maxRecDepth 20000 in
theorem gX5_shift_X1_record : GoodIn wsX5_shift (wsV RX5 62 RX1 yX1_record wsX1_record) := goodIn_app (goodIn_of _ (by decide +kernel)) ggX5_shift_X1_record
set_option maxRecDepth 20000 in
theorem ggX5_shift_X4_begin : GoodIn wsX5_shift wsX4_begin := goodIn_r _ [74, 46, 53, 15, 54, 55, 75, 76, 77, 6, 78, 79, 80, 81, 65, 82, 70, 69, 67, 83, 84, 85, 86, 87, 88, 89, 90, 47, 91, 92, 93, 94, 52, 95, 96, 97, 98, 99, 34, 35, 36, 100, 101, 102, 103, 110, 111, 112, 113, 114, 115, 116, 117, 118, 119, 120, 125, 126, 127] (by decide +kernel) (by decide +kernel)
set_option maxRecDepth 20000 in
theorem gX5_shift_X4_begin : GoodIn wsX5_shift (wsV RX5 126 RX4 yX4_begin wsX4_begin) := goodIn_app (goodIn_of _ (by decide +kernel)) ggX5_shift_X4_begin
theorem dX5_shift_0 : decode cX5_shift 0 = .ok (.iload_n 1, 1) := by decide +kernel
theorem dX5_shift_1 : decode cX5_shift 1 = .ok (.ifCond .eq 15, 3) := by decide +kernel
theorem dX5_shift_4 : decode cX5_shift 4 = .ok (.aload_n 0, 1) := by decide +kernel
theorem dX5_shift_5 : decode cX5_shift 5 = .ok (.getfield 10, 3) := by decide +kernel
theorem dX5_shift_8 : decode cX5_shift 8 = .ok (.getfield 88, 3) := by decide +kernel
theorem dX5_shift_11 : decode cX5_shift 11 = .ok (.iconst 1, 1) := by decide +kernel
theorem dX5_shift_12 : decode cX5_shift 12 = .ok (.iadd, 1) := by decide +kernel
theorem dX5_shift_13 : decode cX5_shift 13 = .ok (.goto 12, 3) := by decide +kernel
theorem dX5_shift_16 : decode cX5_shift 16 = .ok (.aload_n 0, 1) := by decide +kernel
theorem dX5_shift_17 : decode cX5_shift 17 = .ok (.getfield 10, 3) := by decide +kernel
theorem dX5_shift_20 : decode cX5_shift 20 = .ok (.getfield 88, 3) := by decide +kernel
theorem dX5_shift_23 : decode cX5_shift 23 = .ok (.iconst 1, 1) := by decide +kernel
theorem dX5_shift_24 : decode cX5_shift 24 = .ok (.isub, 1) := by decide +kernel
theorem dX5_shift_25 : decode cX5_shift 25 = .ok (.istore_n 2, 1) := by decide +kernel
theorem dX5_shift_26 : decode cX5_shift 26 = .ok (.aload_n 0, 1) := by decide +kernel
theorem dX5_shift_27 : decode cX5_shift 27 = .ok (.getfield 10, 3) := by decide +kernel
theorem dX5_shift_30 : decode cX5_shift 30 = .ok (.iload_n 2, 1) := by decide +kernel
theorem dX5_shift_31 : decode cX5_shift 31 = .ok (.invokevirtual 123, 3) := by decide +kernel
theorem dX5_shift_34 : decode cX5_shift 34 = .ok (.ifCond .ne 6, 3) := by decide +kernel
theorem dX5_shift_37 : decode cX5_shift 37 = .ok (.bipush (-4), 2) := by decide +kernel
theorem dX5_shift_39 : decode cX5_shift 39 = .ok (.ireturn, 1) := by decide +kernel
theorem dX5_shift_40 : decode cX5_shift 40 = .ok (.aload_n 0, 1) := by decide +kernel
theorem dX5_shift_41 : decode cX5_shift 41 = .ok (.getfield 25, 3) := by decide +kernel
theorem dX5_shift_44 : decode cX5_shift 44 = .ok (.aload_n 0, 1) := by decide +kernel
theorem dX5_shift_45 : decode cX5_shift 45 = .ok (.getfield 10, 3) := by decide +kernel
theorem dX5_shift_48 : decode cX5_shift 48 = .ok (.invokevirtual 62, 3) := by decide +kernel
theorem dX5_shift_51 : decode cX5_shift 51 = .ok (.aload_n 0, 1) := by decide +kernel
theorem dX5_shift_52 : decode cX5_shift 52 = .ok (.getfield 10, 3) := by decide +kernel
theorem dX5_shift_55 : decode cX5_shift 55 = .ok (.iconst 3, 1) := by decide +kernel
theorem dX5_shift_56 : decode cX5_shift 56 = .ok (.iload_n 2, 1) := by decide +kernel
theorem dX5_shift_57 : decode cX5_shift 57 = .ok (.invokevirtual 126, 3) := by decide +kernel
theorem dX5_shift_60 : decode cX5_shift 60 = .ok (.iload_n 2, 1) := by decide +kernel
theorem dX5_shift_61 : decode cX5_shift 61 = .ok (.ireturn, 1) := by decide +kernel
set_option maxRecDepth 20000 in
theorem ggX5_type_X0_append : GoodIn wsX5_type wsX0_append := goodIn_r _ [6, 7, 8, 19, 20, 21, 22, 23, 24, 25] (by decide +kernel) (by decide +kernel)
set_option maxRecDepth 20000 in
theorem gX5_type_X0_append : GoodIn wsX5_type (wsV RX5 129 RX0 yX0_append wsX0_append) := goodIn_app (goodIn_of _ (by decide +kernel)) ggX5_type_X0_append
set_option maxRecDepth 20000 in
theorem ggX5_type_X0_length : GoodIn wsX5_type wsX0_length := goodIn_r _ [12, 7, 19, 20, 21, 22, 23, 24, 25] (by decide +kernel) (by decide +kernel)
set_option maxRecDepth 20000 in
theorem gX5_type_X0_length : GoodIn wsX5_type (wsV RX5 133 RX0 yX0_length wsX0_length) := goodIn_app (goodIn_of _ (by decide +kernel)) ggX5_type_X0_length
theorem dX5_type_0 : decode cX5_type 0 = .ok (.aload_n 0, 1) := by decide +kernel
theorem dX5_type_1 : decode cX5_type 1 = .ok (.getfield 32, 3) := by decide +kernel
theorem dX5_type_4 : decode cX5_type 4 = .ok (.iload_n 1, 1) := by decide +kernel
theorem dX5_type_5 : decode cX5_type 5 = .ok (.invokevirtual 129, 3) := by decide +kernel
theorem dX5_type_8 : decode cX5_type 8 = .ok (.ifCond .eq 13, 3) := by decide +kernel
theorem dX5_type_11 : decode cX5_type 11 = .ok (.aload_n 0, 1) := by decide +kernel
theorem dX5_type_12 : decode cX5_type 12 = .ok (.getfield 32, 3) := by decide +kernel
theorem dX5_type_15 : decode cX5_type 15 = .ok (.invokevirtual 133, 3) := by decide +kernel
theorem dX5_type_18 : decode cX5_type 18 = .ok (.goto 5, 3) := by decide +kernel
theorem dX5_type_21 : decode cX5_type 21 = .ok (.bipush (-3), 2) := by decide +kernel
theorem dX5_type_23 : decode cX5_type 23 = .ok (.ireturn, 1) := by decide +kernel
set_option maxRecDepth 20000 in
theorem ggX5_clearText_X0_length : GoodIn wsX5_clearText wsX0_length := goodIn_r _ [6, 7, 18, 19, 20, 21, 22, 23, 24] (by decide +kernel) (by decide +kernel)
set_option maxRecDepth 20000 in
theorem gX5_clearText_X0_length : GoodIn wsX5_clearText (wsV RX5 133 RX0 yX0_length wsX0_length) := goodIn_app (goodIn_of _ (by decide +kernel)) ggX5_clearText_X0_length
set_option maxRecDepth 20000 in
theorem ggX5_clearText_X0_clear : GoodIn wsX5_clearText wsX0_clear := goodIn_r _ [11, 7, 18, 19, 20, 21, 22, 23, 24] (by decide +kernel) (by decide +kernel)
set_option maxRecDepth 20000 in
theorem gX5_clearText_X0_clear : GoodIn wsX5_clearText (wsV RX5 136 RX0 yX0_clear wsX0_clear) := goodIn_app (goodIn_of _ (by decide +kernel)) ggX5_clearText_X0_clear
theorem dX5_clearText_0 : decode cX5_clearText 0 = .ok (.aload_n 0, 1) := by decide +kernel
theorem dX5_clearText_1 : decode cX5_clearText 1 = .ok (.getfield 32, 3) := by decide +kernel
theorem dX5_clearText_4 : decode cX5_clearText 4 = .ok (.invokevirtual 133, 3) := by decide +kernel
theorem dX5_clearText_7 : decode cX5_clearText 7 = .ok (.istore_n 1, 1) := by decide +kernel
theorem dX5_clearText_8 : decode cX5_clearText 8 = .ok (.aload_n 0, 1) := by decide +kernel
theorem dX5_clearText_9 : decode cX5_clearText 9 = .ok (.getfield 32, 3) := by decide +kernel
theorem dX5_clearText_12 : decode cX5_clearText 12 = .ok (.invokevirtual 136, 3) := by decide +kernel
theorem dX5_clearText_15 : decode cX5_clearText 15 = .ok (.iload_n 1, 1) := by decide +kernel
theorem dX5_clearText_16 : decode cX5_clearText 16 = .ok (.ireturn, 1) := by decide +kernel
set_option maxRecDepth 20000 in
theorem ggX5_undo_X1_takeLatestInto : GoodIn wsX5_undo wsX1_takeLatestInto := goodIn_r _ [7, 8, 9, 10, 11, 12, 6, 13, 14, 15, 16, 17, 18, 19, 20, 21, 22, 23, 24, 25, 26, 27, 28, 29, 30, 31, 32, 33, 34, 35, 36, 37, 38, 39, 40, 41, 42, 43, 44, 45, 46, 47, 48, 49, 50, 61, 62, 63, 64, 65, 66, 67, 68, 69, 70, 71, 72, 73, 74, 75, 76, 77, 78] (by decide +kernel) (by decide +kernel)
set_option maxRecDepth 20000 in
theorem gX5_undo_X1_takeLatestInto : GoodIn wsX5_undo (wsV RX5 139 RX1 yX1_takeLatestInto wsX1_takeLatestInto) := goodIn_app (goodIn_of _ (by decide +kernel)) ggX5_undo_X1_takeLatestInto
set_option maxRecDepth 20000 in
theorem ggX5_undo_X1_size : GoodIn wsX5_undo wsX1_size := goodIn_r _ [54, 9, 61, 62, 63] (by decide +kernel) (by decide +kernel)
set_option maxRecDepth 20000 in
theorem gX5_undo_X1_size : GoodIn wsX5_undo (wsV RX5 143 RX1 yX1_size wsX1_size) := goodIn_app (goodIn_of _ (by decide +kernel)) ggX5_undo_X1_size
theorem dX5_undo_0 : decode cX5_undo 0 = .ok (.aload_n 0, 1) := by decide +kernel
theorem dX5_undo_1 : decode cX5_undo 1 = .ok (.getfield 25, 3) := by decide +kernel
theorem dX5_undo_4 : decode cX5_undo 4 = .ok (.aload_n 0, 1) := by decide +kernel
theorem dX5_undo_5 : decode cX5_undo 5 = .ok (.getfield 10, 3) := by decide +kernel
theorem dX5_undo_8 : decode cX5_undo 8 = .ok (.invokevirtual 139, 3) := by decide +kernel
theorem dX5_undo_11 : decode cX5_undo 11 = .ok (.ifCond .eq 13, 3) := by decide +kernel
theorem dX5_undo_14 : decode cX5_undo 14 = .ok (.aload_n 0, 1) := by decide +kernel
theorem dX5_undo_15 : decode cX5_undo 15 = .ok (.getfield 25, 3) := by decide +kernel
theorem dX5_undo_18 : decode cX5_undo 18 = .ok (.invokevirtual 143, 3) := by decide +kernel
theorem dX5_undo_21 : decode cX5_undo 21 = .ok (.goto 5, 3) := by decide +kernel
theorem dX5_undo_24 : decode cX5_undo 24 = .ok (.bipush (-5), 2) := by decide +kernel
theorem dX5_undo_26 : decode cX5_undo 26 = .ok (.ireturn, 1) := by decide +kernel
set_option maxRecDepth 20000 in
theorem ggX5_car_X4_isChanging : GoodIn wsX5_car wsX4_isChanging := goodIn_r _ [6, 7, 32, 33, 34, 35, 36, 37, 38, 39, 40, 41, 42] (by decide +kernel) (by decide +kernel)
set_option maxRecDepth 20000 in
theorem gX5_car_X4_isChanging : GoodIn wsX5_car (wsV RX5 73 RX4 yX4_isChanging wsX4_isChanging) := goodIn_app (goodIn_of _ (by decide +kernel)) ggX5_car_X4_isChanging
set_option maxRecDepth 20000 in
theorem ggX5_car_X4_opening : GoodIn wsX5_car wsX4_opening := goodIn_r _ [11, 12, 7, 13, 3, 4, 5, 6, 14, 15, 16, 17, 18, 19, 20, 21, 32, 33, 34, 35, 36, 37, 38, 39, 40, 41, 42] (by decide +kernel) (by decide +kernel)
set_option maxRecDepth 20000 in
theorem gX5_car_X4_opening : GoodIn wsX5_car (wsV RX5 158 RX4 yX4_opening wsX4_opening) := goodIn_app (goodIn_of _ (by decide +kernel)) ggX5_car_X4_opening
set_option maxRecDepth 20000 in
theorem ggX5_car_X4_closing : GoodIn wsX5_car wsX4_closing := goodIn_r _ [25, 7, 12, 13, 3, 4, 5, 6, 14, 15, 16, 17, 18, 19, 20, 21, 32, 33, 34, 35, 36, 37, 38, 39, 40, 41, 42] (by decide +kernel) (by decide +kernel)
set_option maxRecDepth 20000 in
theorem gX5_car_X4_closing : GoodIn wsX5_car (wsV RX5 161 RX4 yX4_closing wsX4_closing) := goodIn_app (goodIn_of _ (by decide +kernel)) ggX5_car_X4_closing
theorem dX5_car_0 : decode cX5_car 0 = .ok (.iload_n 1, 1) := by decide +kernel
theorem dX5_car_1 : decode cX5_car 1 = .ok (.tableswitch 137 0 6 #[43, 51, 74, 97, 105, 121, 129], 43) := by decide +kernel
theorem dX5_car_44 : decode cX5_car 44 = .ok (.aload_n 0, 1) := by decide +kernel
theorem dX5_car_45 : decode cX5_car 45 = .ok (.getfield 10, 3) := by decide +kernel
theorem dX5_car_48 : decode cX5_car 48 = .ok (.getfield 88, 3) := by decide +kernel
theorem dX5_car_51 : decode cX5_car 51 = .ok (.ireturn, 1) := by decide +kernel
theorem dX5_car_52 : decode cX5_car 52 = .ok (.aload_n 0, 1) := by decide +kernel
theorem dX5_car_53 : decode cX5_car 53 = .ok (.getfield 10, 3) := by decide +kernel
theorem dX5_car_56 : decode cX5_car 56 = .ok (.invokevirtual 73, 3) := by decide +kernel
theorem dX5_car_59 : decode cX5_car 59 = .ok (.ifCond .eq 13, 3) := by decide +kernel
theorem dX5_car_62 : decode cX5_car 62 = .ok (.aload_n 0, 1) := by decide +kernel
theorem dX5_car_63 : decode cX5_car 63 = .ok (.getfield 10, 3) := by decide +kernel
theorem dX5_car_66 : decode cX5_car 66 = .ok (.getfield 149, 3) := by decide +kernel
theorem dX5_car_69 : decode cX5_car 69 = .ok (.goto 5, 3) := by decide +kernel
theorem dX5_car_72 : decode cX5_car 72 = .ok (.bipush (-5), 2) := by decide +kernel
theorem dX5_car_74 : decode cX5_car 74 = .ok (.ireturn, 1) := by decide +kernel
theorem dX5_car_75 : decode cX5_car 75 = .ok (.aload_n 0, 1) := by decide +kernel
theorem dX5_car_76 : decode cX5_car 76 = .ok (.getfield 10, 3) := by decide +kernel
theorem dX5_car_79 : decode cX5_car 79 = .ok (.invokevirtual 73, 3) := by decide +kernel
theorem dX5_car_82 : decode cX5_car 82 = .ok (.ifCond .eq 13, 3) := by decide +kernel
theorem dX5_car_85 : decode cX5_car 85 = .ok (.aload_n 0, 1) := by decide +kernel
theorem dX5_car_86 : decode cX5_car 86 = .ok (.getfield 10, 3) := by decide +kernel
theorem dX5_car_89 : decode cX5_car 89 = .ok (.getfield 152, 3) := by decide +kernel
theorem dX5_car_92 : decode cX5_car 92 = .ok (.goto 5, 3) := by decide +kernel
theorem dX5_car_95 : decode cX5_car 95 = .ok (.bipush (-5), 2) := by decide +kernel
theorem dX5_car_97 : decode cX5_car 97 = .ok (.ireturn, 1) := by decide +kernel
theorem dX5_car_98 : decode cX5_car 98 = .ok (.aload_n 0, 1) := by decide +kernel
theorem dX5_car_99 : decode cX5_car 99 = .ok (.getfield 10, 3) := by decide +kernel
theorem dX5_car_102 : decode cX5_car 102 = .ok (.getfield 155, 3) := by decide +kernel
theorem dX5_car_105 : decode cX5_car 105 = .ok (.ireturn, 1) := by decide +kernel
theorem dX5_car_106 : decode cX5_car 106 = .ok (.aload_n 0, 1) := by decide +kernel
theorem dX5_car_107 : decode cX5_car 107 = .ok (.getfield 10, 3) := by decide +kernel
theorem dX5_car_110 : decode cX5_car 110 = .ok (.getfield 85, 3) := by decide +kernel
theorem dX5_car_113 : decode cX5_car 113 = .ok (.ifCond .eq 7, 3) := by decide +kernel
theorem dX5_car_116 : decode cX5_car 116 = .ok (.iconst 1, 1) := by decide +kernel
theorem dX5_car_117 : decode cX5_car 117 = .ok (.goto 4, 3) := by decide +kernel
theorem dX5_car_120 : decode cX5_car 120 = .ok (.iconst 0, 1) := by decide +kernel
theorem dX5_car_121 : decode cX5_car 121 = .ok (.ireturn, 1) := by decide +kernel
theorem dX5_car_122 : decode cX5_car 122 = .ok (.aload_n 0, 1) := by decide +kernel
theorem dX5_car_123 : decode cX5_car 123 = .ok (.getfield 10, 3) := by decide +kernel
theorem dX5_car_126 : decode cX5_car 126 = .ok (.invokevirtual 158, 3) := by decide +kernel
theorem dX5_car_129 : decode cX5_car 129 = .ok (.ireturn, 1) := by decide +kernel
theorem dX5_car_130 : decode cX5_car 130 = .ok (.aload_n 0, 1) := by decide +kernel
theorem dX5_car_131 : decode cX5_car 131 = .ok (.getfield 10, 3) := by decide +kernel
theorem dX5_car_134 : decode cX5_car 134 = .ok (.invokevirtual 161, 3) := by decide +kernel
theorem dX5_car_137 : decode cX5_car 137 = .ok (.ireturn, 1) := by decide +kernel
theorem dX5_car_138 : decode cX5_car 138 = .ok (.bipush (-2), 2) := by decide +kernel
theorem dX5_car_140 : decode cX5_car 140 = .ok (.ireturn, 1) := by decide +kernel
set_option maxRecDepth 20000 in
theorem ggX5_pressed_X4_pressureOf : GoodIn wsX5_pressed wsX4_pressureOf := goodIn_r _ [6, 7, 8, 9, 10, 5, 11, 12, 13, 14, 15, 16, 17, 18, 19, 20, 21, 22, 23, 24, 25, 26, 27, 28, 29, 30, 31, 32, 33, 34, 35, 36, 37, 38, 39, 40, 41, 42, 54, 55, 56, 57, 58, 59, 60, 61, 62, 63, 64] (by decide +kernel) (by decide +kernel)
set_option maxRecDepth 20000 in
theorem gX5_pressed_X4_pressureOf : GoodIn wsX5_pressed (wsV RX5 164 RX4 yX4_pressureOf wsX4_pressureOf) := goodIn_app (goodIn_of _ (by decide +kernel)) ggX5_pressed_X4_pressureOf
set_option maxRecDepth 20000 in
theorem ggX5_pressed_X5_notANumber : GoodIn wsX5_pressed wsX5_notANumber := goodIn_r _ [46, 47] (by decide +kernel) (by decide +kernel)
set_option maxRecDepth 20000 in
theorem gX5_pressed_X5_notANumber : GoodIn wsX5_pressed (va_wsS RX5 167 yX5_notANumber wsX5_notANumber) := goodIn_app (goodIn_of _ (by decide +kernel)) ggX5_pressed_X5_notANumber
theorem dX5_pressed_0 : decode cX5_pressed 0 = .ok (.iload_n 1, 1) := by decide +kernel
theorem dX5_pressed_1 : decode cX5_pressed 1 = .ok (.ifCond .lt 19, 3) := by decide +kernel
theorem dX5_pressed_4 : decode cX5_pressed 4 = .ok (.iload_n 1, 1) := by decide +kernel
theorem dX5_pressed_5 : decode cX5_pressed 5 = .ok (.iconst 5, 1) := by decide +kernel
theorem dX5_pressed_6 : decode cX5_pressed 6 = .ok (.if_icmp .ge 14, 3) := by decide +kernel
theorem dX5_pressed_9 : decode cX5_pressed 9 = .ok (.aload_n 0, 1) := by decide +kernel
theorem dX5_pressed_10 : decode cX5_pressed 10 = .ok (.getfield 10, 3) := by decide +kernel
theorem dX5_pressed_13 : decode cX5_pressed 13 = .ok (.iload_n 1, 1) := by decide +kernel
theorem dX5_pressed_14 : decode cX5_pressed 14 = .ok (.invokevirtual 164, 3) := by decide +kernel
theorem dX5_pressed_17 : decode cX5_pressed 17 = .ok (.goto 6, 3) := by decide +kernel
theorem dX5_pressed_20 : decode cX5_pressed 20 = .ok (.invokestatic 167, 3) := by decide +kernel
theorem dX5_pressed_23 : decode cX5_pressed 23 = .ok (.freturn, 1) := by decide +kernel
set_option maxRecDepth 20000 in
theorem ggX5_force_X4_greaterPressure : GoodIn wsX5_force wsX4_greaterPressure := goodIn_r _ [6, 7, 8, 9, 5, 10, 11, 12, 13, 14, 15, 16, 17, 18, 19, 20, 21, 22, 23, 24, 25, 32, 33, 34, 35, 36, 37, 38, 39, 40, 41, 42] (by decide +kernel) (by decide +kernel)
set_option maxRecDepth 20000 in
theorem gX5_force_X4_greaterPressure : GoodIn wsX5_force (wsV RX5 171 RX4 yX4_greaterPressure wsX4_greaterPressure) := goodIn_app (goodIn_of _ (by decide +kernel)) ggX5_force_X4_greaterPressure
theorem dX5_force_0 : decode cX5_force 0 = .ok (.aload_n 0, 1) := by decide +kernel
theorem dX5_force_1 : decode cX5_force 1 = .ok (.getfield 10, 3) := by decide +kernel
theorem dX5_force_4 : decode cX5_force 4 = .ok (.invokevirtual 171, 3) := by decide +kernel
theorem dX5_force_7 : decode cX5_force 7 = .ok (.freturn, 1) := by decide +kernel
set_option maxRecDepth 20000 in
theorem ggX5_map_X3_has : GoodIn wsX5_map wsX3_has := goodIn_r _ [5] (by decide +kernel) (by decide +kernel)
set_option maxRecDepth 20000 in
theorem gX5_map_X3_has : GoodIn wsX5_map (va_wsS RX5 40 yX3_has wsX3_has) := goodIn_app (goodIn_of _ (by decide +kernel)) ggX5_map_X3_has
set_option maxRecDepth 20000 in
theorem ggX5_map_X3_speed : GoodIn wsX5_map wsX3_speed := goodIn_r _ [9, 10, 33] (by decide +kernel) (by decide +kernel)
set_option maxRecDepth 20000 in
theorem gX5_map_X3_speed : GoodIn wsX5_map (wsV RX5 58 RX3 yX3_speed wsX3_speed) := goodIn_app (goodIn_of _ (by decide +kernel)) ggX5_map_X3_speed
set_option maxRecDepth 20000 in
theorem ggX5_map_X5_notANumber : GoodIn wsX5_map wsX5_notANumber := goodIn_r _ [14, 15] (by decide +kernel) (by decide +kernel)
set_option maxRecDepth 20000 in
theorem gX5_map_X5_notANumber : GoodIn wsX5_map (va_wsS RX5 167 yX5_notANumber wsX5_notANumber) := goodIn_app (goodIn_of _ (by decide +kernel)) ggX5_map_X5_notANumber
theorem dX5_map_0 : decode cX5_map 0 = .ok (.iload_n 1, 1) := by decide +kernel
theorem dX5_map_1 : decode cX5_map 1 = .ok (.iload_n 2, 1) := by decide +kernel
theorem dX5_map_2 : decode cX5_map 2 = .ok (.invokestatic 40, 3) := by decide +kernel
theorem dX5_map_5 : decode cX5_map 5 = .ok (.ifCond .eq 18, 3) := by decide +kernel
theorem dX5_map_8 : decode cX5_map 8 = .ok (.aload_n 0, 1) := by decide +kernel
theorem dX5_map_9 : decode cX5_map 9 = .ok (.getfield 10, 3) := by decide +kernel
theorem dX5_map_12 : decode cX5_map 12 = .ok (.getfield 54, 3) := by decide +kernel
theorem dX5_map_15 : decode cX5_map 15 = .ok (.iload_n 1, 1) := by decide +kernel
theorem dX5_map_16 : decode cX5_map 16 = .ok (.iload_n 2, 1) := by decide +kernel
theorem dX5_map_17 : decode cX5_map 17 = .ok (.invokevirtual 58, 3) := by decide +kernel
theorem dX5_map_20 : decode cX5_map 20 = .ok (.goto 6, 3) := by decide +kernel
theorem dX5_map_23 : decode cX5_map 23 = .ok (.invokestatic 167, 3) := by decide +kernel
theorem dX5_map_26 : decode cX5_map 26 = .ok (.freturn, 1) := by decide +kernel
set_option maxRecDepth 20000 in
theorem ggX5_border_X3_has : GoodIn wsX5_border wsX3_has := goodIn_r _ [5] (by decide +kernel) (by decide +kernel)
set_option maxRecDepth 20000 in
theorem gX5_border_X3_has : GoodIn wsX5_border (va_wsS RX5 40 yX3_has wsX3_has) := goodIn_app (goodIn_of _ (by decide +kernel)) ggX5_border_X3_has
set_option maxRecDepth 20000 in
theorem ggX5_border_X5_isPedal : GoodIn wsX5_border wsX5_isPedal := goodIn_r _ [9, 10] (by decide +kernel) (by decide +kernel)
set_option maxRecDepth 20000 in
theorem gX5_border_X5_isPedal : GoodIn wsX5_border (va_wsS RX5 92 yX5_isPedal wsX5_isPedal) := goodIn_app (goodIn_of _ (by decide +kernel)) ggX5_border_X5_isPedal
set_option maxRecDepth 20000 in
theorem ggX5_border_X5_notANumber : GoodIn wsX5_border wsX5_notANumber := goodIn_r _ [13, 14] (by decide +kernel) (by decide +kernel)
set_option maxRecDepth 20000 in
theorem gX5_border_X5_notANumber : GoodIn wsX5_border (va_wsS RX5 167 yX5_notANumber wsX5_notANumber) := goodIn_app (goodIn_of _ (by decide +kernel)) ggX5_border_X5_notANumber
set_option maxRecDepth 20000 in
theorem ggX5_border_X5_floatOf : GoodIn wsX5_border wsX5_floatOf := goodIn_r _ [17, 18, 19, 20] (by decide +kernel) (by decide +kernel)
set_option maxRecDepth 20000 in
theorem gX5_border_X5_floatOf : GoodIn wsX5_border (va_wsS RX5 50 yX5_floatOf wsX5_floatOf) := goodIn_app (goodIn_of _ (by decide +kernel)) ggX5_border_X5_floatOf
set_option maxRecDepth 20000 in
theorem ggX5_border_X3_upFrom : GoodIn wsX5_border wsX3_upFrom := goodIn_r _ [24, 25, 26, 27, 4, 28, 29, 52] (by decide +kernel) (by decide +kernel)
set_option maxRecDepth 20000 in
theorem gX5_border_X3_upFrom : GoodIn wsX5_border (wsV RX5 174 RX3 yX3_upFrom wsX3_upFrom) := goodIn_app (goodIn_of _ (by decide +kernel)) ggX5_border_X3_upFrom
set_option maxRecDepth 20000 in
theorem ggX5_border_X3_downTo : GoodIn wsX5_border wsX3_downTo := goodIn_r _ [33, 34, 22, 23, 4, 24, 25, 26, 27, 28, 29, 52] (by decide +kernel) (by decide +kernel)
set_option maxRecDepth 20000 in
theorem gX5_border_X3_downTo : GoodIn wsX5_border (wsV RX5 178 RX3 yX3_downTo wsX3_downTo) := goodIn_app (goodIn_of _ (by decide +kernel)) ggX5_border_X3_downTo
theorem dX5_border_0 : decode cX5_border 0 = .ok (.iload_n 1, 1) := by decide +kernel
theorem dX5_border_1 : decode cX5_border 1 = .ok (.iconst 0, 1) := by decide +kernel
theorem dX5_border_2 : decode cX5_border 2 = .ok (.invokestatic 40, 3) := by decide +kernel
theorem dX5_border_5 : decode cX5_border 5 = .ok (.ifCond .eq 10, 3) := by decide +kernel
theorem dX5_border_8 : decode cX5_border 8 = .ok (.iload_n 2, 1) := by decide +kernel
theorem dX5_border_9 : decode cX5_border 9 = .ok (.invokestatic 92, 3) := by decide +kernel
theorem dX5_border_12 : decode cX5_border 12 = .ok (.ifCond .ne 7, 3) := by decide +kernel
theorem dX5_border_15 : decode cX5_border 15 = .ok (.invokestatic 167, 3) := by decide +kernel
theorem dX5_border_18 : decode cX5_border 18 = .ok (.freturn, 1) := by decide +kernel
theorem dX5_border_19 : decode cX5_border 19 = .ok (.iload_n 2, 1) := by decide +kernel
theorem dX5_border_20 : decode cX5_border 20 = .ok (.invokestatic 50, 3) := by decide +kernel
theorem dX5_border_23 : decode cX5_border 23 = .ok (.fstore 4, 2) := by decide +kernel
theorem dX5_border_25 : decode cX5_border 25 = .ok (.iload_n 3, 1) := by decide +kernel
theorem dX5_border_26 : decode cX5_border 26 = .ok (.ifCond .eq 19, 3) := by decide +kernel
theorem dX5_border_29 : decode cX5_border 29 = .ok (.aload_n 0, 1) := by decide +kernel
theorem dX5_border_30 : decode cX5_border 30 = .ok (.getfield 10, 3) := by decide +kernel
theorem dX5_border_33 : decode cX5_border 33 = .ok (.getfield 54, 3) := by decide +kernel
theorem dX5_border_36 : decode cX5_border 36 = .ok (.iload_n 1, 1) := by decide +kernel
theorem dX5_border_37 : decode cX5_border 37 = .ok (.fload 4, 2) := by decide +kernel
theorem dX5_border_39 : decode cX5_border 39 = .ok (.invokevirtual 174, 3) := by decide +kernel
theorem dX5_border_42 : decode cX5_border 42 = .ok (.goto 16, 3) := by decide +kernel
theorem dX5_border_45 : decode cX5_border 45 = .ok (.aload_n 0, 1) := by decide +kernel
theorem dX5_border_46 : decode cX5_border 46 = .ok (.getfield 10, 3) := by decide +kernel
