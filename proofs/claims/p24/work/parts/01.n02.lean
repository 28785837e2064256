theorem dX0_init_0 : decode cX0_init 0 = .ok (.aload_n 0, 1) := by decide +kernel
theorem dX0_init_1 : decode cX0_init 1 = .ok (.invokespecial 3, 3) := by decide +kernel
theorem dX0_init_4 : decode cX0_init 4 = .ok (.aload_n 0, 1) := by decide +kernel
theorem dX0_init_5 : decode cX0_init 5 = .ok (.bipush 60, 2) := by decide +kernel
theorem dX0_init_7 : decode cX0_init 7 = .ok (.newarray .char, 2) := by decide +kernel
theorem dX0_init_9 : decode cX0_init 9 = .ok (.putfield 9, 3) := by decide +kernel
theorem dX0_init_12 : decode cX0_init 12 = .ok (.aload_n 0, 1) := by decide +kernel
theorem dX0_init_13 : decode cX0_init 13 = .ok (.iconst 0, 1) := by decide +kernel
theorem dX0_init_14 : decode cX0_init 14 = .ok (.putfield 13, 3) := by decide +kernel
theorem dX0_init_17 : decode cX0_init 17 = .ok (.aload_n 0, 1) := by decide +kernel
theorem dX0_init_18 : decode cX0_init 18 = .ok (.bipush 45, 2) := by decide +kernel
theorem dX0_init_20 : decode cX0_init 20 = .ok (.newarray .int, 2) := by decide +kernel
theorem dX0_init_22 : decode cX0_init 22 = .ok (.putfield 17, 3) := by decide +kernel
theorem dX0_init_25 : decode cX0_init 25 = .ok (.aload_n 0, 1) := by decide +kernel
theorem dX0_init_26 : decode cX0_init 26 = .ok (.iconst 0, 1) := by decide +kernel
theorem dX0_init_27 : decode cX0_init 27 = .ok (.putfield 21, 3) := by decide +kernel
theorem dX0_init_30 : decode cX0_init 30 = .ok (.aload_n 0, 1) := by decide +kernel
theorem dX0_init_31 : decode cX0_init 31 = .ok (.iconst 0, 1) := by decide +kernel
theorem dX0_init_32 : decode cX0_init 32 = .ok (.putfield 24, 3) := by decide +kernel
theorem dX0_init_35 : decode cX0_init 35 = .ok (.aload_n 0, 1) := by decide +kernel
theorem dX0_init_36 : decode cX0_init 36 = .ok (.iconst 0, 1) := by decide +kernel
theorem dX0_init_37 : decode cX0_init 37 = .ok (.putfield 27, 3) := by decide +kernel
theorem dX0_init_40 : decode cX0_init 40 = .ok (.aload_n 0, 1) := by decide +kernel
theorem dX0_init_41 : decode cX0_init 41 = .ok (.iconst 0, 1) := by decide +kernel
theorem dX0_init_42 : decode cX0_init 42 = .ok (.putfield 30, 3) := by decide +kernel
theorem dX0_init_45 : decode cX0_init 45 = .ok (.return_, 1) := by decide +kernel
theorem dX0_append_0 : decode cX0_append 0 = .ok (.aload_n 0, 1) := by decide +kernel
theorem dX0_append_1 : decode cX0_append 1 = .ok (.getfield 13, 3) := by decide +kernel
theorem dX0_append_4 : decode cX0_append 4 = .ok (.ifCond .lt 15, 3) := by decide +kernel
theorem dX0_append_7 : decode cX0_append 7 = .ok (.aload_n 0, 1) := by decide +kernel
theorem dX0_append_8 : decode cX0_append 8 = .ok (.getfield 13, 3) := by decide +kernel
theorem dX0_append_11 : decode cX0_append 11 = .ok (.aload_n 0, 1) := by decide +kernel
theorem dX0_append_12 : decode cX0_append 12 = .ok (.getfield 9, 3) := by decide +kernel
theorem dX0_append_15 : decode cX0_append 15 = .ok (.arraylength, 1) := by decide +kernel
theorem dX0_append_16 : decode cX0_append 16 = .ok (.if_icmp .lt 5, 3) := by decide +kernel
theorem dX0_append_19 : decode cX0_append 19 = .ok (.iconst 0, 1) := by decide +kernel
theorem dX0_append_20 : decode cX0_append 20 = .ok (.ireturn, 1) := by decide +kernel
theorem dX0_append_21 : decode cX0_append 21 = .ok (.aload_n 0, 1) := by decide +kernel
theorem dX0_append_22 : decode cX0_append 22 = .ok (.getfield 9, 3) := by decide +kernel
theorem dX0_append_25 : decode cX0_append 25 = .ok (.aload_n 0, 1) := by decide +kernel
theorem dX0_append_26 : decode cX0_append 26 = .ok (.getfield 13, 3) := by decide +kernel
theorem dX0_append_29 : decode cX0_append 29 = .ok (.iload_n 1, 1) := by decide +kernel
theorem dX0_append_30 : decode cX0_append 30 = .ok (.castore, 1) := by decide +kernel
theorem dX0_append_31 : decode cX0_append 31 = .ok (.aload_n 0, 1) := by decide +kernel
theorem dX0_append_32 : decode cX0_append 32 = .ok (.dup, 1) := by decide +kernel
theorem dX0_append_33 : decode cX0_append 33 = .ok (.getfield 13, 3) := by decide +kernel
theorem dX0_append_36 : decode cX0_append 36 = .ok (.iconst 1, 1) := by decide +kernel
theorem dX0_append_37 : decode cX0_append 37 = .ok (.iadd, 1) := by decide +kernel
theorem dX0_append_38 : decode cX0_append 38 = .ok (.putfield 13, 3) := by decide +kernel
theorem dX0_append_41 : decode cX0_append 41 = .ok (.iconst 1, 1) := by decide +kernel
theorem dX0_append_42 : decode cX0_append 42 = .ok (.ireturn, 1) := by decide +kernel
theorem dX0_length_0 : decode cX0_length 0 = .ok (.aload_n 0, 1) := by decide +kernel
theorem dX0_length_1 : decode cX0_length 1 = .ok (.getfield 13, 3) := by decide +kernel
theorem dX0_length_4 : decode cX0_length 4 = .ok (.ireturn, 1) := by decide +kernel
theorem dX0_clear_0 : decode cX0_clear 0 = .ok (.aload_n 0, 1) := by decide +kernel
theorem dX0_clear_1 : decode cX0_clear 1 = .ok (.iconst 0, 1) := by decide +kernel
theorem dX0_clear_2 : decode cX0_clear 2 = .ok (.putfield 13, 3) := by decide +kernel
theorem dX0_clear_5 : decode cX0_clear 5 = .ok (.return_, 1) := by decide +kernel
theorem dX0_partCount_0 : decode cX0_partCount 0 = .ok (.aload_n 0, 1) := by decide +kernel
theorem dX0_partCount_1 : decode cX0_partCount 1 = .ok (.getfield 21, 3) := by decide +kernel
theorem dX0_partCount_4 : decode cX0_partCount 4 = .ok (.ireturn, 1) := by decide +kernel
set_option maxRecDepth 20000 in
theorem ggX0_speedOf_X0_numberOf : GoodIn wsX0_speedOf wsX0_numberOf := goodIn_r _ [5, 6, 7, 8, 9, 10, 11, 12, 13] (by decide +kernel) (by decide +kernel)
set_option maxRecDepth 20000 in
theorem gX0_speedOf_X0_numberOf : GoodIn wsX0_speedOf (wsV RX0 33 RX0 yX0_numberOf wsX0_numberOf) := goodIn_app (goodIn_of _ (by decide +kernel)) ggX0_speedOf_X0_numberOf
theorem dX0_speedOf_0 : decode cX0_speedOf 0 = .ok (.aload_n 0, 1) := by decide +kernel
theorem dX0_speedOf_1 : decode cX0_speedOf 1 = .ok (.iload_n 1, 1) := by decide +kernel
theorem dX0_speedOf_2 : decode cX0_speedOf 2 = .ok (.iconst 0, 1) := by decide +kernel
theorem dX0_speedOf_3 : decode cX0_speedOf 3 = .ok (.invokevirtual 33, 3) := by decide +kernel
theorem dX0_speedOf_6 : decode cX0_speedOf 6 = .ok (.ireturn, 1) := by decide +kernel
set_option maxRecDepth 20000 in
theorem ggX0_hundredthsOf_X0_numberOf : GoodIn wsX0_hundredthsOf wsX0_numberOf := goodIn_r _ [5, 6, 7, 8, 9, 10, 11, 12, 13] (by decide +kernel) (by decide +kernel)
set_option maxRecDepth 20000 in
theorem gX0_hundredthsOf_X0_numberOf : GoodIn wsX0_hundredthsOf (wsV RX0 33 RX0 yX0_numberOf wsX0_numberOf) := goodIn_app (goodIn_of _ (by decide +kernel)) ggX0_hundredthsOf_X0_numberOf
theorem dX0_hundredthsOf_0 : decode cX0_hundredthsOf 0 = .ok (.aload_n 0, 1) := by decide +kernel
theorem dX0_hundredthsOf_1 : decode cX0_hundredthsOf 1 = .ok (.iload_n 1, 1) := by decide +kernel
theorem dX0_hundredthsOf_2 : decode cX0_hundredthsOf 2 = .ok (.iconst 1, 1) := by decide +kernel
theorem dX0_hundredthsOf_3 : decode cX0_hundredthsOf 3 = .ok (.invokevirtual 33, 3) := by decide +kernel
theorem dX0_hundredthsOf_6 : decode cX0_hundredthsOf 6 = .ok (.ireturn, 1) := by decide +kernel
set_option maxRecDepth 20000 in
theorem ggX0_ticksOf_X0_numberOf : GoodIn wsX0_ticksOf wsX0_numberOf := goodIn_r _ [5, 6, 7, 8, 9, 10, 11, 12, 13] (by decide +kernel) (by decide +kernel)
set_option maxRecDepth 20000 in
theorem gX0_ticksOf_X0_numberOf : GoodIn wsX0_ticksOf (wsV RX0 33 RX0 yX0_numberOf wsX0_numberOf) := goodIn_app (goodIn_of _ (by decide +kernel)) ggX0_ticksOf_X0_numberOf
theorem dX0_ticksOf_0 : decode cX0_ticksOf 0 = .ok (.aload_n 0, 1) := by decide +kernel
theorem dX0_ticksOf_1 : decode cX0_ticksOf 1 = .ok (.iload_n 1, 1) := by decide +kernel
theorem dX0_ticksOf_2 : decode cX0_ticksOf 2 = .ok (.iconst 2, 1) := by decide +kernel
theorem dX0_ticksOf_3 : decode cX0_ticksOf 3 = .ok (.invokevirtual 33, 3) := by decide +kernel
theorem dX0_ticksOf_6 : decode cX0_ticksOf 6 = .ok (.ireturn, 1) := by decide +kernel
set_option maxRecDepth 20000 in
theorem ggX0_ticksOfAllParts_X0_ticksOf : GoodIn wsX0_ticksOfAllParts wsX0_ticksOf := goodIn_r _ [6, 7, 8, 9, 5, 10, 11, 12, 13, 14, 15, 16, 17, 18] (by decide +kernel) (by decide +kernel)
set_option maxRecDepth 20000 in
theorem gX0_ticksOfAllParts_X0_ticksOf : GoodIn wsX0_ticksOfAllParts (wsV RX0 37 RX0 yX0_ticksOf wsX0_ticksOf) := goodIn_app (goodIn_of _ (by decide +kernel)) ggX0_ticksOfAllParts_X0_ticksOf
theorem dX0_ticksOfAllParts_0 : decode cX0_ticksOfAllParts 0 = .ok (.iconst 0, 1) := by decide +kernel
theorem dX0_ticksOfAllParts_1 : decode cX0_ticksOfAllParts 1 = .ok (.istore_n 1, 1) := by decide +kernel
theorem dX0_ticksOfAllParts_2 : decode cX0_ticksOfAllParts 2 = .ok (.iconst 0, 1) := by decide +kernel
theorem dX0_ticksOfAllParts_3 : decode cX0_ticksOfAllParts 3 = .ok (.istore_n 2, 1) := by decide +kernel
theorem dX0_ticksOfAllParts_4 : decode cX0_ticksOfAllParts 4 = .ok (.iload_n 2, 1) := by decide +kernel
theorem dX0_ticksOfAllParts_5 : decode cX0_ticksOfAllParts 5 = .ok (.aload_n 0, 1) := by decide +kernel
theorem dX0_ticksOfAllParts_6 : decode cX0_ticksOfAllParts 6 = .ok (.getfield 21, 3) := by decide +kernel
theorem dX0_ticksOfAllParts_9 : decode cX0_ticksOfAllParts 9 = .ok (.if_icmp .ge 17, 3) := by decide +kernel
theorem dX0_ticksOfAllParts_12 : decode cX0_ticksOfAllParts 12 = .ok (.iload_n 1, 1) := by decide +kernel
theorem dX0_ticksOfAllParts_13 : decode cX0_ticksOfAllParts 13 = .ok (.aload_n 0, 1) := by decide +kernel
theorem dX0_ticksOfAllParts_14 : decode cX0_ticksOfAllParts 14 = .ok (.iload_n 2, 1) := by decide +kernel
theorem dX0_ticksOfAllParts_15 : decode cX0_ticksOfAllParts 15 = .ok (.invokevirtual 37, 3) := by decide +kernel
theorem dX0_ticksOfAllParts_18 : decode cX0_ticksOfAllParts 18 = .ok (.iadd, 1) := by decide +kernel
theorem dX0_ticksOfAllParts_19 : decode cX0_ticksOfAllParts 19 = .ok (.istore_n 1, 1) := by decide +kernel
theorem dX0_ticksOfAllParts_20 : decode cX0_ticksOfAllParts 20 = .ok (.iinc 2 1, 3) := by decide +kernel
theorem dX0_ticksOfAllParts_23 : decode cX0_ticksOfAllParts 23 = .ok (.goto (-19), 3) := by decide +kernel
theorem dX0_ticksOfAllParts_26 : decode cX0_ticksOfAllParts 26 = .ok (.iload_n 1, 1) := by decide +kernel
theorem dX0_ticksOfAllParts_27 : decode cX0_ticksOfAllParts 27 = .ok (.ireturn, 1) := by decide +kernel
set_option maxRecDepth 20000 in
theorem ggX0_read_X0_expectNumber : GoodIn wsX0_read wsX0_expectNumber := goodIn_r _ [8, 9, 10, 11, 34, 35, 36, 37, 38, 39, 40] (by decide +kernel) (by decide +kernel)
set_option maxRecDepth 20000 in
theorem gX0_read_X0_expectNumber : GoodIn wsX0_read (wsV RX0 41 RX0 yX0_expectNumber wsX0_expectNumber) := goodIn_app (goodIn_of _ (by decide +kernel)) ggX0_read_X0_expectNumber
set_option maxRecDepth 20000 in
theorem ggX0_read_X0_takes : GoodIn wsX0_read wsX0_takes := goodIn_r _ [15, 9, 16, 17, 18, 7, 19, 11, 10, 20, 21, 22, 23, 1, 24, 4, 5, 6, 8, 25, 26, 27, 28, 29, 30, 31, 32, 33, 34, 35, 36, 37, 38, 39, 40] (by decide +kernel) (by decide +kernel)
set_option maxRecDepth 20000 in
theorem gX0_read_X0_takes : GoodIn wsX0_read (wsV RX0 45 RX0 yX0_takes wsX0_takes) := goodIn_app (goodIn_of _ (by decide +kernel)) ggX0_read_X0_takes
set_option maxRecDepth 20000 in
theorem ggX0_read_X0_endPart : GoodIn wsX0_read wsX0_endPart := goodIn_r _ [28, 9, 1, 16, 17, 18, 7, 19, 11, 10, 20, 21, 22, 23, 24, 4, 5, 6, 8, 34, 35, 36, 37, 38, 39, 40] (by decide +kernel) (by decide +kernel)
set_option maxRecDepth 20000 in
theorem gX0_read_X0_endPart : GoodIn wsX0_read (wsV RX0 49 RX0 yX0_endPart wsX0_endPart) := goodIn_app (goodIn_of _ (by decide +kernel)) ggX0_read_X0_endPart
theorem dX0_read_0 : decode cX0_read 0 = .ok (.aload_n 0, 1) := by decide +kernel
theorem dX0_read_1 : decode cX0_read 1 = .ok (.iconst 0, 1) := by decide +kernel
theorem dX0_read_2 : decode cX0_read 2 = .ok (.putfield 21, 3) := by decide +kernel
theorem dX0_read_5 : decode cX0_read 5 = .ok (.aload_n 0, 1) := by decide +kernel
theorem dX0_read_6 : decode cX0_read 6 = .ok (.iconst 0, 1) := by decide +kernel
theorem dX0_read_7 : decode cX0_read 7 = .ok (.invokevirtual 41, 3) := by decide +kernel
theorem dX0_read_10 : decode cX0_read 10 = .ok (.iconst 0, 1) := by decide +kernel
theorem dX0_read_11 : decode cX0_read 11 = .ok (.istore_n 1, 1) := by decide +kernel
theorem dX0_read_12 : decode cX0_read 12 = .ok (.iload_n 1, 1) := by decide +kernel
theorem dX0_read_13 : decode cX0_read 13 = .ok (.aload_n 0, 1) := by decide +kernel
theorem dX0_read_14 : decode cX0_read 14 = .ok (.getfield 13, 3) := by decide +kernel
theorem dX0_read_17 : decode cX0_read 17 = .ok (.if_icmp .ge 33, 3) := by decide +kernel
theorem dX0_read_20 : decode cX0_read 20 = .ok (.iload_n 1, 1) := by decide +kernel
theorem dX0_read_21 : decode cX0_read 21 = .ok (.aload_n 0, 1) := by decide +kernel
theorem dX0_read_22 : decode cX0_read 22 = .ok (.getfield 9, 3) := by decide +kernel
theorem dX0_read_25 : decode cX0_read 25 = .ok (.arraylength, 1) := by decide +kernel
theorem dX0_read_26 : decode cX0_read 26 = .ok (.if_icmp .ge 24, 3) := by decide +kernel
theorem dX0_read_29 : decode cX0_read 29 = .ok (.aload_n 0, 1) := by decide +kernel
theorem dX0_read_30 : decode cX0_read 30 = .ok (.aload_n 0, 1) := by decide +kernel
theorem dX0_read_31 : decode cX0_read 31 = .ok (.getfield 9, 3) := by decide +kernel
theorem dX0_read_34 : decode cX0_read 34 = .ok (.iload_n 1, 1) := by decide +kernel
theorem dX0_read_35 : decode cX0_read 35 = .ok (.caload, 1) := by decide +kernel
theorem dX0_read_36 : decode cX0_read 36 = .ok (.invokevirtual 45, 3) := by decide +kernel
theorem dX0_read_39 : decode cX0_read 39 = .ok (.ifCond .ne 5, 3) := by decide +kernel
theorem dX0_read_42 : decode cX0_read 42 = .ok (.iload_n 1, 1) := by decide +kernel
theorem dX0_read_43 : decode cX0_read 43 = .ok (.ireturn, 1) := by decide +kernel
theorem dX0_read_44 : decode cX0_read 44 = .ok (.iinc 1 1, 3) := by decide +kernel
theorem dX0_read_47 : decode cX0_read 47 = .ok (.goto (-35), 3) := by decide +kernel
theorem dX0_read_50 : decode cX0_read 50 = .ok (.aload_n 0, 1) := by decide +kernel
theorem dX0_read_51 : decode cX0_read 51 = .ok (.invokevirtual 49, 3) := by decide +kernel
theorem dX0_read_54 : decode cX0_read 54 = .ok (.ifCond .eq 7, 3) := by decide +kernel
theorem dX0_read_57 : decode cX0_read 57 = .ok (.iconst (-1), 1) := by decide +kernel
theorem dX0_read_58 : decode cX0_read 58 = .ok (.goto 7, 3) := by decide +kernel
theorem dX0_read_61 : decode cX0_read 61 = .ok (.aload_n 0, 1) := by decide +kernel
theorem dX0_read_62 : decode cX0_read 62 = .ok (.getfield 13, 3) := by decide +kernel
theorem dX0_read_65 : decode cX0_read 65 = .ok (.ireturn, 1) := by decide +kernel
theorem dX0_expectNumber_0 : decode cX0_expectNumber 0 = .ok (.aload_n 0, 1) := by decide +kernel
theorem dX0_expectNumber_1 : decode cX0_expectNumber 1 = .ok (.iload_n 1, 1) := by decide +kernel
theorem dX0_expectNumber_2 : decode cX0_expectNumber 2 = .ok (.putfield 24, 3) := by decide +kernel
theorem dX0_expectNumber_5 : decode cX0_expectNumber 5 = .ok (.aload_n 0, 1) := by decide +kernel
theorem dX0_expectNumber_6 : decode cX0_expectNumber 6 = .ok (.iconst 0, 1) := by decide +kernel
theorem dX0_expectNumber_7 : decode cX0_expectNumber 7 = .ok (.putfield 27, 3) := by decide +kernel
theorem dX0_expectNumber_10 : decode cX0_expectNumber 10 = .ok (.aload_n 0, 1) := by decide +kernel
theorem dX0_expectNumber_11 : decode cX0_expectNumber 11 = .ok (.iconst 0, 1) := by decide +kernel
theorem dX0_expectNumber_12 : decode cX0_expectNumber 12 = .ok (.putfield 30, 3) := by decide +kernel
theorem dX0_expectNumber_15 : decode cX0_expectNumber 15 = .ok (.return_, 1) := by decide +kernel
set_option maxRecDepth 20000 in
theorem ggX0_takes_X0_endNumber : GoodIn wsX0_takes wsX0_endNumber := goodIn_r _ [6, 7, 1, 8, 9, 10, 11, 5, 12, 13, 14, 15, 16, 17, 18, 28, 29, 30, 31, 32, 33, 34] (by decide +kernel) (by decide +kernel)
set_option maxRecDepth 20000 in
theorem gX0_takes_X0_endNumber : GoodIn wsX0_takes (wsV RX0 53 RX0 yX0_endNumber wsX0_endNumber) := goodIn_app (goodIn_of _ (by decide +kernel)) ggX0_takes_X0_endNumber
set_option maxRecDepth 20000 in
theorem ggX0_takes_X0_endPart : GoodIn wsX0_takes wsX0_endPart := goodIn_r _ [22, 1, 13, 2, 3, 4, 5, 6, 7, 8, 9, 10, 11, 12, 14, 15, 16, 17, 18, 28, 29, 30, 31, 32, 33, 34] (by decide +kernel) (by decide +kernel)
set_option maxRecDepth 20000 in
theorem gX0_takes_X0_endPart : GoodIn wsX0_takes (wsV RX0 49 RX0 yX0_endPart wsX0_endPart) := goodIn_app (goodIn_of _ (by decide +kernel)) ggX0_takes_X0_endPart
set_option maxRecDepth 20000 in
theorem ggX0_takes_X0_takesDigit : GoodIn wsX0_takes wsX0_takesDigit := goodIn_r _ [26, 7, 8, 1, 27, 28, 29, 30, 31, 32, 33, 34] (by decide +kernel) (by decide +kernel)
set_option maxRecDepth 20000 in
theorem gX0_takes_X0_takesDigit : GoodIn wsX0_takes (wsV RX0 57 RX0 yX0_takesDigit wsX0_takesDigit) := goodIn_app (goodIn_of _ (by decide +kernel)) ggX0_takes_X0_takesDigit
theorem dX0_takes_0 : decode cX0_takes 0 = .ok (.iload_n 1, 1) := by decide +kernel
theorem dX0_takes_1 : decode cX0_takes 1 = .ok (.lookupswitch 83 #[(42, 56), (44, 35), (59, 78)], 35) := by decide +kernel
theorem dX0_takes_36 : decode cX0_takes 36 = .ok (.aload_n 0, 1) := by decide +kernel
theorem dX0_takes_37 : decode cX0_takes 37 = .ok (.getfield 24, 3) := by decide +kernel
theorem dX0_takes_40 : decode cX0_takes 40 = .ok (.ifCond .ne 15, 3) := by decide +kernel
theorem dX0_takes_43 : decode cX0_takes 43 = .ok (.aload_n 0, 1) := by decide +kernel
theorem dX0_takes_44 : decode cX0_takes 44 = .ok (.iconst 1, 1) := by decide +kernel
theorem dX0_takes_45 : decode cX0_takes 45 = .ok (.invokevirtual 53, 3) := by decide +kernel
theorem dX0_takes_48 : decode cX0_takes 48 = .ok (.ifCond .eq 7, 3) := by decide +kernel
theorem dX0_takes_51 : decode cX0_takes 51 = .ok (.iconst 1, 1) := by decide +kernel
theorem dX0_takes_52 : decode cX0_takes 52 = .ok (.goto 4, 3) := by decide +kernel
theorem dX0_takes_55 : decode cX0_takes 55 = .ok (.iconst 0, 1) := by decide +kernel
theorem dX0_takes_56 : decode cX0_takes 56 = .ok (.ireturn, 1) := by decide +kernel
theorem dX0_takes_57 : decode cX0_takes 57 = .ok (.aload_n 0, 1) := by decide +kernel
theorem dX0_takes_58 : decode cX0_takes 58 = .ok (.getfield 24, 3) := by decide +kernel
theorem dX0_takes_61 : decode cX0_takes 61 = .ok (.iconst 1, 1) := by decide +kernel
theorem dX0_takes_62 : decode cX0_takes 62 = .ok (.if_icmp .ne 15, 3) := by decide +kernel
theorem dX0_takes_65 : decode cX0_takes 65 = .ok (.aload_n 0, 1) := by decide +kernel
theorem dX0_takes_66 : decode cX0_takes 66 = .ok (.iconst 2, 1) := by decide +kernel
theorem dX0_takes_67 : decode cX0_takes 67 = .ok (.invokevirtual 53, 3) := by decide +kernel
theorem dX0_takes_70 : decode cX0_takes 70 = .ok (.ifCond .eq 7, 3) := by decide +kernel
theorem dX0_takes_73 : decode cX0_takes 73 = .ok (.iconst 1, 1) := by decide +kernel
theorem dX0_takes_74 : decode cX0_takes 74 = .ok (.goto 4, 3) := by decide +kernel
theorem dX0_takes_77 : decode cX0_takes 77 = .ok (.iconst 0, 1) := by decide +kernel
theorem dX0_takes_78 : decode cX0_takes 78 = .ok (.ireturn, 1) := by decide +kernel
theorem dX0_takes_79 : decode cX0_takes 79 = .ok (.aload_n 0, 1) := by decide +kernel
theorem dX0_takes_80 : decode cX0_takes 80 = .ok (.invokevirtual 49, 3) := by decide +kernel
theorem dX0_takes_83 : decode cX0_takes 83 = .ok (.ireturn, 1) := by decide +kernel
theorem dX0_takes_84 : decode cX0_takes 84 = .ok (.iload_n 1, 1) := by decide +kernel
theorem dX0_takes_85 : decode cX0_takes 85 = .ok (.bipush 48, 2) := by decide +kernel
theorem dX0_takes_87 : decode cX0_takes 87 = .ok (.if_icmp .lt 24, 3) := by decide +kernel
theorem dX0_takes_90 : decode cX0_takes 90 = .ok (.iload_n 1, 1) := by decide +kernel
theorem dX0_takes_91 : decode cX0_takes 91 = .ok (.bipush 57, 2) := by decide +kernel
theorem dX0_takes_93 : decode cX0_takes 93 = .ok (.if_icmp .gt 18, 3) := by decide +kernel
theorem dX0_takes_96 : decode cX0_takes 96 = .ok (.aload_n 0, 1) := by decide +kernel
theorem dX0_takes_97 : decode cX0_takes 97 = .ok (.iload_n 1, 1) := by decide +kernel
theorem dX0_takes_98 : decode cX0_takes 98 = .ok (.bipush 48, 2) := by decide +kernel
theorem dX0_takes_100 : decode cX0_takes 100 = .ok (.isub, 1) := by decide +kernel
theorem dX0_takes_101 : decode cX0_takes 101 = .ok (.invokevirtual 57, 3) := by decide +kernel
theorem dX0_takes_104 : decode cX0_takes 104 = .ok (.ifCond .eq 7, 3) := by decide +kernel
theorem dX0_takes_107 : decode cX0_takes 107 = .ok (.iconst 1, 1) := by decide +kernel
theorem dX0_takes_108 : decode cX0_takes 108 = .ok (.goto 4, 3) := by decide +kernel
theorem dX0_takes_111 : decode cX0_takes 111 = .ok (.iconst 0, 1) := by decide +kernel
theorem dX0_takes_112 : decode cX0_takes 112 = .ok (.ireturn, 1) := by decide +kernel
theorem dX0_takesDigit_0 : decode cX0_takesDigit 0 = .ok (.aload_n 0, 1) := by decide +kernel
theorem dX0_takesDigit_1 : decode cX0_takesDigit 1 = .ok (.getfield 30, 3) := by decide +kernel
theorem dX0_takesDigit_4 : decode cX0_takesDigit 4 = .ok (.ifCond .le 12, 3) := by decide +kernel
theorem dX0_takesDigit_7 : decode cX0_takesDigit 7 = .ok (.aload_n 0, 1) := by decide +kernel
theorem dX0_takesDigit_8 : decode cX0_takesDigit 8 = .ok (.getfield 27, 3) := by decide +kernel
theorem dX0_takesDigit_11 : decode cX0_takesDigit 11 = .ok (.ifCond .ne 5, 3) := by decide +kernel
theorem dX0_takesDigit_14 : decode cX0_takesDigit 14 = .ok (.iconst 0, 1) := by decide +kernel
theorem dX0_takesDigit_15 : decode cX0_takesDigit 15 = .ok (.ireturn, 1) := by decide +kernel
theorem dX0_takesDigit_16 : decode cX0_takesDigit 16 = .ok (.aload_n 0, 1) := by decide +kernel
theorem dX0_takesDigit_17 : decode cX0_takesDigit 17 = .ok (.getfield 24, 3) := by decide +kernel
theorem dX0_takesDigit_20 : decode cX0_takesDigit 20 = .ok (.iconst 2, 1) := by decide +kernel
theorem dX0_takesDigit_21 : decode cX0_takesDigit 21 = .ok (.if_icmp .ne 16, 3) := by decide +kernel
theorem dX0_takesDigit_24 : decode cX0_takesDigit 24 = .ok (.aload_n 0, 1) := by decide +kernel
theorem dX0_takesDigit_25 : decode cX0_takesDigit 25 = .ok (.getfield 30, 3) := by decide +kernel
theorem dX0_takesDigit_28 : decode cX0_takesDigit 28 = .ok (.ifCond .ne 9, 3) := by decide +kernel
theorem dX0_takesDigit_31 : decode cX0_takesDigit 31 = .ok (.iload_n 1, 1) := by decide +kernel
theorem dX0_takesDigit_32 : decode cX0_takesDigit 32 = .ok (.ifCond .ne 5, 3) := by decide +kernel
theorem dX0_takesDigit_35 : decode cX0_takesDigit 35 = .ok (.iconst 0, 1) := by decide +kernel
theorem dX0_takesDigit_36 : decode cX0_takesDigit 36 = .ok (.ireturn, 1) := by decide +kernel
theorem dX0_takesDigit_37 : decode cX0_takesDigit 37 = .ok (.aload_n 0, 1) := by decide +kernel
theorem dX0_takesDigit_38 : decode cX0_takesDigit 38 = .ok (.getfield 27, 3) := by decide +kernel
theorem dX0_takesDigit_41 : decode cX0_takesDigit 41 = .ok (.bipush 10, 2) := by decide +kernel
theorem dX0_takesDigit_43 : decode cX0_takesDigit 43 = .ok (.imul, 1) := by decide +kernel
theorem dX0_takesDigit_44 : decode cX0_takesDigit 44 = .ok (.iload_n 1, 1) := by decide +kernel
theorem dX0_takesDigit_45 : decode cX0_takesDigit 45 = .ok (.iadd, 1) := by decide +kernel
theorem dX0_takesDigit_46 : decode cX0_takesDigit 46 = .ok (.istore_n 2, 1) := by decide +kernel
theorem dX0_takesDigit_47 : decode cX0_takesDigit 47 = .ok (.aload_n 0, 1) := by decide +kernel
theorem dX0_takesDigit_48 : decode cX0_takesDigit 48 = .ok (.getfield 24, 3) := by decide +kernel
theorem dX0_takesDigit_51 : decode cX0_takesDigit 51 = .ok (.ifCond .lt 26, 3) := by decide +kernel
theorem dX0_takesDigit_54 : decode cX0_takesDigit 54 = .ok (.aload_n 0, 1) := by decide +kernel
theorem dX0_takesDigit_55 : decode cX0_takesDigit 55 = .ok (.getfield 24, 3) := by decide +kernel
theorem dX0_takesDigit_58 : decode cX0_takesDigit 58 = .ok (.getstatic 60, 3) := by decide +kernel
theorem dX0_takesDigit_61 : decode cX0_takesDigit 61 = .ok (.arraylength, 1) := by decide +kernel
theorem dX0_takesDigit_62 : decode cX0_takesDigit 62 = .ok (.if_icmp .ge 15, 3) := by decide +kernel
theorem dX0_takesDigit_65 : decode cX0_takesDigit 65 = .ok (.iload_n 2, 1) := by decide +kernel
theorem dX0_takesDigit_66 : decode cX0_takesDigit 66 = .ok (.getstatic 60, 3) := by decide +kernel
theorem dX0_takesDigit_69 : decode cX0_takesDigit 69 = .ok (.aload_n 0, 1) := by decide +kernel
theorem dX0_takesDigit_70 : decode cX0_takesDigit 70 = .ok (.getfield 24, 3) := by decide +kernel
theorem dX0_takesDigit_73 : decode cX0_takesDigit 73 = .ok (.iaload, 1) := by decide +kernel
theorem dX0_takesDigit_74 : decode cX0_takesDigit 74 = .ok (.if_icmp .le 5, 3) := by decide +kernel
theorem dX0_takesDigit_77 : decode cX0_takesDigit 77 = .ok (.iconst 0, 1) := by decide +kernel
theorem dX0_takesDigit_78 : decode cX0_takesDigit 78 = .ok (.ireturn, 1) := by decide +kernel
theorem dX0_takesDigit_79 : decode cX0_takesDigit 79 = .ok (.aload_n 0, 1) := by decide +kernel
theorem dX0_takesDigit_80 : decode cX0_takesDigit 80 = .ok (.iload_n 2, 1) := by decide +kernel
theorem dX0_takesDigit_81 : decode cX0_takesDigit 81 = .ok (.putfield 27, 3) := by decide +kernel
theorem dX0_takesDigit_84 : decode cX0_takesDigit 84 = .ok (.aload_n 0, 1) := by decide +kernel
theorem dX0_takesDigit_85 : decode cX0_takesDigit 85 = .ok (.dup, 1) := by decide +kernel
theorem dX0_takesDigit_86 : decode cX0_takesDigit 86 = .ok (.getfield 30, 3) := by decide +kernel
theorem dX0_takesDigit_89 : decode cX0_takesDigit 89 = .ok (.iconst 1, 1) := by decide +kernel
theorem dX0_takesDigit_90 : decode cX0_takesDigit 90 = .ok (.iadd, 1) := by decide +kernel
theorem dX0_takesDigit_91 : decode cX0_takesDigit 91 = .ok (.putfield 30, 3) := by decide +kernel
theorem dX0_takesDigit_94 : decode cX0_takesDigit 94 = .ok (.iconst 1, 1) := by decide +kernel
theorem dX0_takesDigit_95 : decode cX0_takesDigit 95 = .ok (.ireturn, 1) := by decide +kernel
set_option maxRecDepth 20000 in
theorem ggX0_endNumber_X0_putNumber : GoodIn wsX0_endNumber wsX0_putNumber := goodIn_r _ [8, 9, 10, 15, 16, 17, 18, 19, 20, 21] (by decide +kernel) (by decide +kernel)
set_option maxRecDepth 20000 in
theorem gX0_endNumber_X0_putNumber : GoodIn wsX0_endNumber (wsV RX0 63 RX0 yX0_putNumber wsX0_putNumber) := goodIn_app (goodIn_of _ (by decide +kernel)) ggX0_endNumber_X0_putNumber
set_option maxRecDepth 20000 in
theorem ggX0_endNumber_X0_expectNumber : GoodIn wsX0_endNumber wsX0_expectNumber := goodIn_r _ [14, 2, 3, 1, 15, 16, 17, 18, 19, 20, 21] (by decide +kernel) (by decide +kernel)
set_option maxRecDepth 20000 in
theorem gX0_endNumber_X0_expectNumber : GoodIn wsX0_endNumber (wsV RX0 41 RX0 yX0_expectNumber wsX0_expectNumber) := goodIn_app (goodIn_of _ (by decide +kernel)) ggX0_endNumber_X0_expectNumber
theorem dX0_endNumber_0 : decode cX0_endNumber 0 = .ok (.aload_n 0, 1) := by decide +kernel
theorem dX0_endNumber_1 : decode cX0_endNumber 1 = .ok (.getfield 30, 3) := by decide +kernel
theorem dX0_endNumber_4 : decode cX0_endNumber 4 = .ok (.ifCond .ne 5, 3) := by decide +kernel
theorem dX0_endNumber_7 : decode cX0_endNumber 7 = .ok (.iconst 0, 1) := by decide +kernel
theorem dX0_endNumber_8 : decode cX0_endNumber 8 = .ok (.ireturn, 1) := by decide +kernel
theorem dX0_endNumber_9 : decode cX0_endNumber 9 = .ok (.aload_n 0, 1) := by decide +kernel
theorem dX0_endNumber_10 : decode cX0_endNumber 10 = .ok (.aload_n 0, 1) := by decide +kernel
theorem dX0_endNumber_11 : decode cX0_endNumber 11 = .ok (.getfield 24, 3) := by decide +kernel
theorem dX0_endNumber_14 : decode cX0_endNumber 14 = .ok (.aload_n 0, 1) := by decide +kernel
theorem dX0_endNumber_15 : decode cX0_endNumber 15 = .ok (.getfield 27, 3) := by decide +kernel
theorem dX0_endNumber_18 : decode cX0_endNumber 18 = .ok (.invokevirtual 63, 3) := by decide +kernel
theorem dX0_endNumber_21 : decode cX0_endNumber 21 = .ok (.aload_n 0, 1) := by decide +kernel
theorem dX0_endNumber_22 : decode cX0_endNumber 22 = .ok (.iload_n 1, 1) := by decide +kernel
theorem dX0_endNumber_23 : decode cX0_endNumber 23 = .ok (.invokevirtual 41, 3) := by decide +kernel
theorem dX0_endNumber_26 : decode cX0_endNumber 26 = .ok (.iconst 1, 1) := by decide +kernel
theorem dX0_endNumber_27 : decode cX0_endNumber 27 = .ok (.ireturn, 1) := by decide +kernel
set_option maxRecDepth 20000 in
theorem ggX0_endPart_X0_endNumber : GoodIn wsX0_endPart wsX0_endNumber := goodIn_r _ [7, 8, 1, 9, 10, 11, 12, 6, 13, 2, 14, 15, 16, 17, 18, 19, 20, 21, 22, 23, 24, 25] (by decide +kernel) (by decide +kernel)
set_option maxRecDepth 20000 in
theorem gX0_endPart_X0_endNumber : GoodIn wsX0_endPart (wsV RX0 53 RX0 yX0_endNumber wsX0_endNumber) := goodIn_app (goodIn_of _ (by decide +kernel)) ggX0_endPart_X0_endNumber
set_option maxRecDepth 20000 in
theorem ggX0_endPart_X0_putNumber : GoodIn wsX0_endPart wsX0_putNumber := goodIn_r _ [13, 2, 14, 19, 20, 21, 22, 23, 24, 25] (by decide +kernel) (by decide +kernel)
set_option maxRecDepth 20000 in
theorem gX0_endPart_X0_putNumber : GoodIn wsX0_endPart (wsV RX0 63 RX0 yX0_putNumber wsX0_putNumber) := goodIn_app (goodIn_of _ (by decide +kernel)) ggX0_endPart_X0_putNumber
theorem dX0_endPart_0 : decode cX0_endPart 0 = .ok (.aload_n 0, 1) := by decide +kernel
theorem dX0_endPart_1 : decode cX0_endPart 1 = .ok (.getfield 24, 3) := by decide +kernel
theorem dX0_endPart_4 : decode cX0_endPart 4 = .ok (.iconst 2, 1) := by decide +kernel
theorem dX0_endPart_5 : decode cX0_endPart 5 = .ok (.if_icmp .ne 7, 3) := by decide +kernel
theorem dX0_endPart_8 : decode cX0_endPart 8 = .ok (.iconst 1, 1) := by decide +kernel
theorem dX0_endPart_9 : decode cX0_endPart 9 = .ok (.goto 4, 3) := by decide +kernel
theorem dX0_endPart_12 : decode cX0_endPart 12 = .ok (.iconst 0, 1) := by decide +kernel
theorem dX0_endPart_13 : decode cX0_endPart 13 = .ok (.istore_n 1, 1) := by decide +kernel
theorem dX0_endPart_14 : decode cX0_endPart 14 = .ok (.aload_n 0, 1) := by decide +kernel
theorem dX0_endPart_15 : decode cX0_endPart 15 = .ok (.getfield 24, 3) := by decide +kernel
theorem dX0_endPart_18 : decode cX0_endPart 18 = .ok (.ifCond .eq 11, 3) := by decide +kernel
theorem dX0_endPart_21 : decode cX0_endPart 21 = .ok (.aload_n 0, 1) := by decide +kernel
theorem dX0_endPart_22 : decode cX0_endPart 22 = .ok (.iconst 0, 1) := by decide +kernel
theorem dX0_endPart_23 : decode cX0_endPart 23 = .ok (.invokevirtual 53, 3) := by decide +kernel
theorem dX0_endPart_26 : decode cX0_endPart 26 = .ok (.ifCond .ne 5, 3) := by decide +kernel
theorem dX0_endPart_29 : decode cX0_endPart 29 = .ok (.iconst 0, 1) := by decide +kernel
theorem dX0_endPart_30 : decode cX0_endPart 30 = .ok (.ireturn, 1) := by decide +kernel
theorem dX0_endPart_31 : decode cX0_endPart 31 = .ok (.iload_n 1, 1) := by decide +kernel
theorem dX0_endPart_32 : decode cX0_endPart 32 = .ok (.ifCond .ne 9, 3) := by decide +kernel
theorem dX0_endPart_35 : decode cX0_endPart 35 = .ok (.aload_n 0, 1) := by decide +kernel
theorem dX0_endPart_36 : decode cX0_endPart 36 = .ok (.iconst 2, 1) := by decide +kernel
theorem dX0_endPart_37 : decode cX0_endPart 37 = .ok (.iconst 1, 1) := by decide +kernel
theorem dX0_endPart_38 : decode cX0_endPart 38 = .ok (.invokevirtual 63, 3) := by decide +kernel
theorem dX0_endPart_41 : decode cX0_endPart 41 = .ok (.aload_n 0, 1) := by decide +kernel
theorem dX0_endPart_42 : decode cX0_endPart 42 = .ok (.dup, 1) := by decide +kernel
theorem dX0_endPart_43 : decode cX0_endPart 43 = .ok (.getfield 21, 3) := by decide +kernel
theorem dX0_endPart_46 : decode cX0_endPart 46 = .ok (.iconst 1, 1) := by decide +kernel
theorem dX0_endPart_47 : decode cX0_endPart 47 = .ok (.iadd, 1) := by decide +kernel
theorem dX0_endPart_48 : decode cX0_endPart 48 = .ok (.putfield 21, 3) := by decide +kernel
theorem dX0_endPart_51 : decode cX0_endPart 51 = .ok (.iconst 1, 1) := by decide +kernel
theorem dX0_endPart_52 : decode cX0_endPart 52 = .ok (.ireturn, 1) := by decide +kernel
theorem dX0_putNumber_0 : decode cX0_putNumber 0 = .ok (.aload_n 0, 1) := by decide +kernel
theorem dX0_putNumber_1 : decode cX0_putNumber 1 = .ok (.getfield 21, 3) := by decide +kernel
theorem dX0_putNumber_4 : decode cX0_putNumber 4 = .ok (.iconst 3, 1) := by decide +kernel
theorem dX0_putNumber_5 : decode cX0_putNumber 5 = .ok (.imul, 1) := by decide +kernel
theorem dX0_putNumber_6 : decode cX0_putNumber 6 = .ok (.iload_n 1, 1) := by decide +kernel
theorem dX0_putNumber_7 : decode cX0_putNumber 7 = .ok (.iadd, 1) := by decide +kernel
theorem dX0_putNumber_8 : decode cX0_putNumber 8 = .ok (.istore_n 3, 1) := by decide +kernel
theorem dX0_putNumber_9 : decode cX0_putNumber 9 = .ok (.iload_n 3, 1) := by decide +kernel
theorem dX0_putNumber_10 : decode cX0_putNumber 10 = .ok (.ifCond .lt 19, 3) := by decide +kernel
theorem dX0_putNumber_13 : decode cX0_putNumber 13 = .ok (.iload_n 3, 1) := by decide +kernel
theorem dX0_putNumber_14 : decode cX0_putNumber 14 = .ok (.aload_n 0, 1) := by decide +kernel
theorem dX0_putNumber_15 : decode cX0_putNumber 15 = .ok (.getfield 17, 3) := by decide +kernel
theorem dX0_putNumber_18 : decode cX0_putNumber 18 = .ok (.arraylength, 1) := by decide +kernel
theorem dX0_putNumber_19 : decode cX0_putNumber 19 = .ok (.if_icmp .ge 10, 3) := by decide +kernel
theorem dX0_putNumber_22 : decode cX0_putNumber 22 = .ok (.aload_n 0, 1) := by decide +kernel
theorem dX0_putNumber_23 : decode cX0_putNumber 23 = .ok (.getfield 17, 3) := by decide +kernel
theorem dX0_putNumber_26 : decode cX0_putNumber 26 = .ok (.iload_n 3, 1) := by decide +kernel
theorem dX0_putNumber_27 : decode cX0_putNumber 27 = .ok (.iload_n 2, 1) := by decide +kernel
theorem dX0_putNumber_28 : decode cX0_putNumber 28 = .ok (.iastore, 1) := by decide +kernel
theorem dX0_putNumber_29 : decode cX0_putNumber 29 = .ok (.return_, 1) := by decide +kernel
theorem dX0_numberOf_0 : decode cX0_numberOf 0 = .ok (.iload_n 1, 1) := by decide +kernel
theorem dX0_numberOf_1 : decode cX0_numberOf 1 = .ok (.iconst 3, 1) := by decide +kernel
theorem dX0_numberOf_2 : decode cX0_numberOf 2 = .ok (.imul, 1) := by decide +kernel
theorem dX0_numberOf_3 : decode cX0_numberOf 3 = .ok (.iload_n 2, 1) := by decide +kernel
theorem dX0_numberOf_4 : decode cX0_numberOf 4 = .ok (.iadd, 1) := by decide +kernel
theorem dX0_numberOf_5 : decode cX0_numberOf 5 = .ok (.istore_n 3, 1) := by decide +kernel
theorem dX0_numberOf_6 : decode cX0_numberOf 6 = .ok (.iload_n 3, 1) := by decide +kernel
theorem dX0_numberOf_7 : decode cX0_numberOf 7 = .ok (.ifCond .lt 21, 3) := by decide +kernel
theorem dX0_numberOf_10 : decode cX0_numberOf 10 = .ok (.iload_n 3, 1) := by decide +kernel
theorem dX0_numberOf_11 : decode cX0_numberOf 11 = .ok (.aload_n 0, 1) := by decide +kernel
theorem dX0_numberOf_12 : decode cX0_numberOf 12 = .ok (.getfield 17, 3) := by decide +kernel
theorem dX0_numberOf_15 : decode cX0_numberOf 15 = .ok (.arraylength, 1) := by decide +kernel
theorem dX0_numberOf_16 : decode cX0_numberOf 16 = .ok (.if_icmp .ge 12, 3) := by decide +kernel
theorem dX0_numberOf_19 : decode cX0_numberOf 19 = .ok (.aload_n 0, 1) := by decide +kernel
theorem dX0_numberOf_20 : decode cX0_numberOf 20 = .ok (.getfield 17, 3) := by decide +kernel
theorem dX0_numberOf_23 : decode cX0_numberOf 23 = .ok (.iload_n 3, 1) := by decide +kernel
theorem dX0_numberOf_24 : decode cX0_numberOf 24 = .ok (.iaload, 1) := by decide +kernel
theorem dX0_numberOf_25 : decode cX0_numberOf 25 = .ok (.goto 4, 3) := by decide +kernel
theorem dX0_numberOf_28 : decode cX0_numberOf 28 = .ok (.iconst 0, 1) := by decide +kernel
theorem dX0_numberOf_29 : decode cX0_numberOf 29 = .ok (.ireturn, 1) := by decide +kernel
set_option maxRecDepth 20000 in
theorem ggX1_init_X4_init : GoodIn wsX1_init wsX4_init := goodIn_r _ [12, 13, 2, 3, 14, 15, 16, 17, 18, 19, 20, 21, 22, 23, 24, 25, 26, 27, 28, 29, 30, 31, 32, 33, 34, 35, 36, 37, 38, 39, 40, 41, 42, 43, 44, 45, 46, 47, 48, 49, 64, 53, 54, 55, 56, 57, 58, 59, 60, 61, 62, 63, 65, 66, 67] (by decide +kernel) (by decide +kernel)
set_option maxRecDepth 20000 in
theorem gX1_init_X4_init : GoodIn wsX1_init (wsX4_init) := ggX1_init_X4_init
theorem dX1_init_0 : decode cX1_init 0 = .ok (.aload_n 0, 1) := by decide +kernel
theorem dX1_init_1 : decode cX1_init 1 = .ok (.invokespecial 1, 3) := by decide +kernel
theorem dX1_init_4 : decode cX1_init 4 = .ok (.aload_n 0, 1) := by decide +kernel
theorem dX1_init_5 : decode cX1_init 5 = .ok (.iconst 4, 1) := by decide +kernel
theorem dX1_init_6 : decode cX1_init 6 = .ok (.anewarray 9, 3) := by decide +kernel
theorem dX1_init_9 : decode cX1_init 9 = .ok (.putfield 11, 3) := by decide +kernel
theorem dX1_init_12 : decode cX1_init 12 = .ok (.aload_n 0, 1) := by decide +kernel
theorem dX1_init_13 : decode cX1_init 13 = .ok (.iconst 0, 1) := by decide +kernel
theorem dX1_init_14 : decode cX1_init 14 = .ok (.putfield 15, 3) := by decide +kernel
theorem dX1_init_17 : decode cX1_init 17 = .ok (.aload_n 0, 1) := by decide +kernel
theorem dX1_init_18 : decode cX1_init 18 = .ok (.iconst 0, 1) := by decide +kernel
theorem dX1_init_19 : decode cX1_init 19 = .ok (.putfield 19, 3) := by decide +kernel
theorem dX1_init_22 : decode cX1_init 22 = .ok (.iconst 0, 1) := by decide +kernel
theorem dX1_init_23 : decode cX1_init 23 = .ok (.istore_n 1, 1) := by decide +kernel
theorem dX1_init_24 : decode cX1_init 24 = .ok (.iload_n 1, 1) := by decide +kernel
theorem dX1_init_25 : decode cX1_init 25 = .ok (.aload_n 0, 1) := by decide +kernel
theorem dX1_init_26 : decode cX1_init 26 = .ok (.getfield 11, 3) := by decide +kernel
theorem dX1_init_29 : decode cX1_init 29 = .ok (.arraylength, 1) := by decide +kernel
theorem dX1_init_30 : decode cX1_init 30 = .ok (.if_icmp .ge 22, 3) := by decide +kernel
theorem dX1_init_33 : decode cX1_init 33 = .ok (.aload_n 0, 1) := by decide +kernel
theorem dX1_init_34 : decode cX1_init 34 = .ok (.getfield 11, 3) := by decide +kernel
theorem dX1_init_37 : decode cX1_init 37 = .ok (.iload_n 1, 1) := by decide +kernel
theorem dX1_init_38 : decode cX1_init 38 = .ok (.new 9, 3) := by decide +kernel
theorem dX1_init_41 : decode cX1_init 41 = .ok (.dup, 1) := by decide +kernel
theorem dX1_init_42 : decode cX1_init 42 = .ok (.invokespecial 22, 3) := by decide +kernel
theorem dX1_init_45 : decode cX1_init 45 = .ok (.aastore, 1) := by decide +kernel
theorem dX1_init_46 : decode cX1_init 46 = .ok (.iinc 1 1, 3) := by decide +kernel
theorem dX1_init_49 : decode cX1_init 49 = .ok (.goto (-25), 3) := by decide +kernel
theorem dX1_init_52 : decode cX1_init 52 = .ok (.return_, 1) := by decide +kernel
theorem dX1_size_0 : decode cX1_size 0 = .ok (.aload_n 0, 1) := by decide +kernel
theorem dX1_size_1 : decode cX1_size 1 = .ok (.getfield 19, 3) := by decide +kernel
theorem dX1_size_4 : decode cX1_size 4 = .ok (.ireturn, 1) := by decide +kernel
set_option maxRecDepth 20000 in
theorem ggX1_record_X1_rowAt : GoodIn wsX1_record wsX1_rowAt := goodIn_r _ [11, 12, 49, 50, 51] (by decide +kernel) (by decide +kernel)
set_option maxRecDepth 20000 in
theorem gX1_record_X1_rowAt : GoodIn wsX1_record (wsV RX1 23 RX1 yX1_rowAt wsX1_rowAt) := goodIn_app (goodIn_of _ (by decide +kernel)) ggX1_record_X1_rowAt
set_option maxRecDepth 20000 in
theorem ggX1_record_X4_copyFrom : GoodIn wsX1_record wsX4_copyFrom := goodIn_r _ [17, 18, 19, 20, 21, 22, 23, 24, 25, 26, 27, 28, 29, 30, 31, 32, 33, 34, 35, 36, 37, 38, 39, 40, 41, 42, 43, 44, 45, 46, 47, 48, 52, 53, 54, 55, 56, 57, 58, 59, 60, 61, 62, 63, 64, 65, 66] (by decide +kernel) (by decide +kernel)
set_option maxRecDepth 20000 in
theorem gX1_record_X4_copyFrom : GoodIn wsX1_record (wsV RX1 27 RX4 yX4_copyFrom wsX4_copyFrom) := goodIn_app (goodIn_of _ (by decide +kernel)) ggX1_record_X4_copyFrom
theorem dX1_record_0 : decode cX1_record 0 = .ok (.aload_n 0, 1) := by decide +kernel
theorem dX1_record_1 : decode cX1_record 1 = .ok (.aload_n 0, 1) := by decide +kernel
theorem dX1_record_2 : decode cX1_record 2 = .ok (.getfield 15, 3) := by decide +kernel
theorem dX1_record_5 : decode cX1_record 5 = .ok (.invokevirtual 23, 3) := by decide +kernel
theorem dX1_record_8 : decode cX1_record 8 = .ok (.astore_n 2, 1) := by decide +kernel
theorem dX1_record_9 : decode cX1_record 9 = .ok (.aload_n 2, 1) := by decide +kernel
theorem dX1_record_10 : decode cX1_record 10 = .ok (.ifnonnull 4, 3) := by decide +kernel
theorem dX1_record_13 : decode cX1_record 13 = .ok (.return_, 1) := by decide +kernel
theorem dX1_record_14 : decode cX1_record 14 = .ok (.aload_n 2, 1) := by decide +kernel
theorem dX1_record_15 : decode cX1_record 15 = .ok (.aload_n 1, 1) := by decide +kernel
theorem dX1_record_16 : decode cX1_record 16 = .ok (.invokevirtual 27, 3) := by decide +kernel
theorem dX1_record_19 : decode cX1_record 19 = .ok (.aload_n 0, 1) := by decide +kernel
theorem dX1_record_20 : decode cX1_record 20 = .ok (.aload_n 0, 1) := by decide +kernel
theorem dX1_record_21 : decode cX1_record 21 = .ok (.getfield 15, 3) := by decide +kernel
theorem dX1_record_24 : decode cX1_record 24 = .ok (.iconst 1, 1) := by decide +kernel
theorem dX1_record_25 : decode cX1_record 25 = .ok (.iadd, 1) := by decide +kernel
theorem dX1_record_26 : decode cX1_record 26 = .ok (.iconst 4, 1) := by decide +kernel
theorem dX1_record_27 : decode cX1_record 27 = .ok (.if_icmp .ge 12, 3) := by decide +kernel
theorem dX1_record_30 : decode cX1_record 30 = .ok (.aload_n 0, 1) := by decide +kernel
theorem dX1_record_31 : decode cX1_record 31 = .ok (.getfield 15, 3) := by decide +kernel
theorem dX1_record_34 : decode cX1_record 34 = .ok (.iconst 1, 1) := by decide +kernel
theorem dX1_record_35 : decode cX1_record 35 = .ok (.iadd, 1) := by decide +kernel
theorem dX1_record_36 : decode cX1_record 36 = .ok (.goto 4, 3) := by decide +kernel
theorem dX1_record_39 : decode cX1_record 39 = .ok (.iconst 0, 1) := by decide +kernel
theorem dX1_record_40 : decode cX1_record 40 = .ok (.putfield 15, 3) := by decide +kernel
theorem dX1_record_43 : decode cX1_record 43 = .ok (.aload_n 0, 1) := by decide +kernel
theorem dX1_record_44 : decode cX1_record 44 = .ok (.aload_n 0, 1) := by decide +kernel
theorem dX1_record_45 : decode cX1_record 45 = .ok (.getfield 19, 3) := by decide +kernel
theorem dX1_record_48 : decode cX1_record 48 = .ok (.iconst 1, 1) := by decide +kernel
theorem dX1_record_49 : decode cX1_record 49 = .ok (.iadd, 1) := by decide +kernel
