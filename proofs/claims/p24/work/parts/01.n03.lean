theorem dX1_record_50 : decode cX1_record 50 = .ok (.iconst 4, 1) := by decide +kernel
theorem dX1_record_51 : decode cX1_record 51 = .ok (.invokestatic 31, 3) := by decide +kernel
theorem dX1_record_54 : decode cX1_record 54 = .ok (.putfield 19, 3) := by decide +kernel
theorem dX1_record_57 : decode cX1_record 57 = .ok (.return_, 1) := by decide +kernel
set_option maxRecDepth 20000 in
theorem ggX1_takeLatestInto_X1_rowAt : GoodIn wsX1_takeLatestInto wsX1_rowAt := goodIn_r _ [7, 8, 45, 46, 47] (by decide +kernel) (by decide +kernel)
set_option maxRecDepth 20000 in
theorem gX1_takeLatestInto_X1_rowAt : GoodIn wsX1_takeLatestInto (wsV RX1 23 RX1 yX1_rowAt wsX1_rowAt) := goodIn_app (goodIn_of _ (by decide +kernel)) ggX1_takeLatestInto_X1_rowAt
set_option maxRecDepth 20000 in
theorem ggX1_takeLatestInto_X4_copyFrom : GoodIn wsX1_takeLatestInto wsX4_copyFrom := goodIn_r _ [13, 14, 15, 16, 17, 18, 19, 20, 21, 22, 23, 24, 25, 26, 27, 28, 29, 30, 31, 32, 33, 34, 35, 36, 37, 38, 39, 40, 41, 42, 43, 44, 48, 49, 50, 51, 52, 53, 54, 55, 56, 57, 58, 59, 60, 61, 62] (by decide +kernel) (by decide +kernel)
set_option maxRecDepth 20000 in
theorem gX1_takeLatestInto_X4_copyFrom : GoodIn wsX1_takeLatestInto (wsV RX1 27 RX4 yX4_copyFrom wsX4_copyFrom) := goodIn_app (goodIn_of _ (by decide +kernel)) ggX1_takeLatestInto_X4_copyFrom
theorem dX1_takeLatestInto_0 : decode cX1_takeLatestInto 0 = .ok (.aload_n 0, 1) := by decide +kernel
theorem dX1_takeLatestInto_1 : decode cX1_takeLatestInto 1 = .ok (.getfield 15, 3) := by decide +kernel
theorem dX1_takeLatestInto_4 : decode cX1_takeLatestInto 4 = .ok (.ifCond .le 12, 3) := by decide +kernel
theorem dX1_takeLatestInto_7 : decode cX1_takeLatestInto 7 = .ok (.aload_n 0, 1) := by decide +kernel
theorem dX1_takeLatestInto_8 : decode cX1_takeLatestInto 8 = .ok (.getfield 15, 3) := by decide +kernel
theorem dX1_takeLatestInto_11 : decode cX1_takeLatestInto 11 = .ok (.iconst 1, 1) := by decide +kernel
theorem dX1_takeLatestInto_12 : decode cX1_takeLatestInto 12 = .ok (.isub, 1) := by decide +kernel
theorem dX1_takeLatestInto_13 : decode cX1_takeLatestInto 13 = .ok (.goto 4, 3) := by decide +kernel
theorem dX1_takeLatestInto_16 : decode cX1_takeLatestInto 16 = .ok (.iconst 3, 1) := by decide +kernel
theorem dX1_takeLatestInto_17 : decode cX1_takeLatestInto 17 = .ok (.istore_n 2, 1) := by decide +kernel
theorem dX1_takeLatestInto_18 : decode cX1_takeLatestInto 18 = .ok (.aload_n 0, 1) := by decide +kernel
theorem dX1_takeLatestInto_19 : decode cX1_takeLatestInto 19 = .ok (.iload_n 2, 1) := by decide +kernel
theorem dX1_takeLatestInto_20 : decode cX1_takeLatestInto 20 = .ok (.invokevirtual 23, 3) := by decide +kernel
theorem dX1_takeLatestInto_23 : decode cX1_takeLatestInto 23 = .ok (.astore_n 3, 1) := by decide +kernel
theorem dX1_takeLatestInto_24 : decode cX1_takeLatestInto 24 = .ok (.aload_n 0, 1) := by decide +kernel
theorem dX1_takeLatestInto_25 : decode cX1_takeLatestInto 25 = .ok (.getfield 19, 3) := by decide +kernel
theorem dX1_takeLatestInto_28 : decode cX1_takeLatestInto 28 = .ok (.ifCond .eq 7, 3) := by decide +kernel
theorem dX1_takeLatestInto_31 : decode cX1_takeLatestInto 31 = .ok (.aload_n 3, 1) := by decide +kernel
theorem dX1_takeLatestInto_32 : decode cX1_takeLatestInto 32 = .ok (.ifnonnull 5, 3) := by decide +kernel
theorem dX1_takeLatestInto_35 : decode cX1_takeLatestInto 35 = .ok (.iconst 0, 1) := by decide +kernel
theorem dX1_takeLatestInto_36 : decode cX1_takeLatestInto 36 = .ok (.ireturn, 1) := by decide +kernel
theorem dX1_takeLatestInto_37 : decode cX1_takeLatestInto 37 = .ok (.aload_n 1, 1) := by decide +kernel
theorem dX1_takeLatestInto_38 : decode cX1_takeLatestInto 38 = .ok (.aload_n 3, 1) := by decide +kernel
theorem dX1_takeLatestInto_39 : decode cX1_takeLatestInto 39 = .ok (.invokevirtual 27, 3) := by decide +kernel
theorem dX1_takeLatestInto_42 : decode cX1_takeLatestInto 42 = .ok (.aload_n 0, 1) := by decide +kernel
theorem dX1_takeLatestInto_43 : decode cX1_takeLatestInto 43 = .ok (.iload_n 2, 1) := by decide +kernel
theorem dX1_takeLatestInto_44 : decode cX1_takeLatestInto 44 = .ok (.putfield 15, 3) := by decide +kernel
theorem dX1_takeLatestInto_47 : decode cX1_takeLatestInto 47 = .ok (.aload_n 0, 1) := by decide +kernel
theorem dX1_takeLatestInto_48 : decode cX1_takeLatestInto 48 = .ok (.dup, 1) := by decide +kernel
theorem dX1_takeLatestInto_49 : decode cX1_takeLatestInto 49 = .ok (.getfield 19, 3) := by decide +kernel
theorem dX1_takeLatestInto_52 : decode cX1_takeLatestInto 52 = .ok (.iconst 1, 1) := by decide +kernel
theorem dX1_takeLatestInto_53 : decode cX1_takeLatestInto 53 = .ok (.isub, 1) := by decide +kernel
theorem dX1_takeLatestInto_54 : decode cX1_takeLatestInto 54 = .ok (.putfield 19, 3) := by decide +kernel
theorem dX1_takeLatestInto_57 : decode cX1_takeLatestInto 57 = .ok (.iconst 1, 1) := by decide +kernel
theorem dX1_takeLatestInto_58 : decode cX1_takeLatestInto 58 = .ok (.ireturn, 1) := by decide +kernel
theorem dX1_rowAt_0 : decode cX1_rowAt 0 = .ok (.iload_n 1, 1) := by decide +kernel
theorem dX1_rowAt_1 : decode cX1_rowAt 1 = .ok (.ifCond .lt 21, 3) := by decide +kernel
theorem dX1_rowAt_4 : decode cX1_rowAt 4 = .ok (.iload_n 1, 1) := by decide +kernel
theorem dX1_rowAt_5 : decode cX1_rowAt 5 = .ok (.aload_n 0, 1) := by decide +kernel
theorem dX1_rowAt_6 : decode cX1_rowAt 6 = .ok (.getfield 11, 3) := by decide +kernel
theorem dX1_rowAt_9 : decode cX1_rowAt 9 = .ok (.arraylength, 1) := by decide +kernel
theorem dX1_rowAt_10 : decode cX1_rowAt 10 = .ok (.if_icmp .ge 12, 3) := by decide +kernel
theorem dX1_rowAt_13 : decode cX1_rowAt 13 = .ok (.aload_n 0, 1) := by decide +kernel
theorem dX1_rowAt_14 : decode cX1_rowAt 14 = .ok (.getfield 11, 3) := by decide +kernel
theorem dX1_rowAt_17 : decode cX1_rowAt 17 = .ok (.iload_n 1, 1) := by decide +kernel
theorem dX1_rowAt_18 : decode cX1_rowAt 18 = .ok (.aaload, 1) := by decide +kernel
theorem dX1_rowAt_19 : decode cX1_rowAt 19 = .ok (.goto 4, 3) := by decide +kernel
theorem dX1_rowAt_22 : decode cX1_rowAt 22 = .ok (.aconst_null, 1) := by decide +kernel
theorem dX1_rowAt_23 : decode cX1_rowAt 23 = .ok (.areturn, 1) := by decide +kernel
theorem dX2_init_0 : decode cX2_init 0 = .ok (.aload_n 0, 1) := by decide +kernel
theorem dX2_init_1 : decode cX2_init 1 = .ok (.invokespecial 3, 3) := by decide +kernel
theorem dX2_init_4 : decode cX2_init 4 = .ok (.aload_n 0, 1) := by decide +kernel
theorem dX2_init_5 : decode cX2_init 5 = .ok (.bipush 50, 2) := by decide +kernel
theorem dX2_init_7 : decode cX2_init 7 = .ok (.newarray .int, 2) := by decide +kernel
theorem dX2_init_9 : decode cX2_init 9 = .ok (.putfield 11, 3) := by decide +kernel
theorem dX2_init_12 : decode cX2_init 12 = .ok (.aload_n 0, 1) := by decide +kernel
theorem dX2_init_13 : decode cX2_init 13 = .ok (.iconst 0, 1) := by decide +kernel
theorem dX2_init_14 : decode cX2_init 14 = .ok (.putfield 15, 3) := by decide +kernel
theorem dX2_init_17 : decode cX2_init 17 = .ok (.aload_n 0, 1) := by decide +kernel
theorem dX2_init_18 : decode cX2_init 18 = .ok (.iconst 0, 1) := by decide +kernel
theorem dX2_init_19 : decode cX2_init 19 = .ok (.putfield 19, 3) := by decide +kernel
theorem dX2_init_22 : decode cX2_init 22 = .ok (.return_, 1) := by decide +kernel
theorem dX2_add_0 : decode cX2_add 0 = .ok (.aload_n 0, 1) := by decide +kernel
theorem dX2_add_1 : decode cX2_add 1 = .ok (.getfield 15, 3) := by decide +kernel
theorem dX2_add_4 : decode cX2_add 4 = .ok (.iconst 5, 1) := by decide +kernel
theorem dX2_add_5 : decode cX2_add 5 = .ok (.imul, 1) := by decide +kernel
theorem dX2_add_6 : decode cX2_add 6 = .ok (.istore 6, 2) := by decide +kernel
theorem dX2_add_8 : decode cX2_add 8 = .ok (.iload 6, 2) := by decide +kernel
theorem dX2_add_10 : decode cX2_add 10 = .ok (.ifCond .lt 15, 3) := by decide +kernel
theorem dX2_add_13 : decode cX2_add 13 = .ok (.iload 6, 2) := by decide +kernel
theorem dX2_add_15 : decode cX2_add 15 = .ok (.iconst 5, 1) := by decide +kernel
theorem dX2_add_16 : decode cX2_add 16 = .ok (.iadd, 1) := by decide +kernel
theorem dX2_add_17 : decode cX2_add 17 = .ok (.aload_n 0, 1) := by decide +kernel
theorem dX2_add_18 : decode cX2_add 18 = .ok (.getfield 11, 3) := by decide +kernel
theorem dX2_add_21 : decode cX2_add 21 = .ok (.arraylength, 1) := by decide +kernel
theorem dX2_add_22 : decode cX2_add 22 = .ok (.if_icmp .le 4, 3) := by decide +kernel
theorem dX2_add_25 : decode cX2_add 25 = .ok (.return_, 1) := by decide +kernel
theorem dX2_add_26 : decode cX2_add 26 = .ok (.aload_n 0, 1) := by decide +kernel
theorem dX2_add_27 : decode cX2_add 27 = .ok (.getfield 11, 3) := by decide +kernel
theorem dX2_add_30 : decode cX2_add 30 = .ok (.iload 6, 2) := by decide +kernel
theorem dX2_add_32 : decode cX2_add 32 = .ok (.iload_n 1, 1) := by decide +kernel
theorem dX2_add_33 : decode cX2_add 33 = .ok (.iastore, 1) := by decide +kernel
theorem dX2_add_34 : decode cX2_add 34 = .ok (.aload_n 0, 1) := by decide +kernel
theorem dX2_add_35 : decode cX2_add 35 = .ok (.getfield 11, 3) := by decide +kernel
theorem dX2_add_38 : decode cX2_add 38 = .ok (.iload 6, 2) := by decide +kernel
theorem dX2_add_40 : decode cX2_add 40 = .ok (.iconst 1, 1) := by decide +kernel
theorem dX2_add_41 : decode cX2_add 41 = .ok (.iadd, 1) := by decide +kernel
theorem dX2_add_42 : decode cX2_add 42 = .ok (.iload_n 2, 1) := by decide +kernel
theorem dX2_add_43 : decode cX2_add 43 = .ok (.iastore, 1) := by decide +kernel
theorem dX2_add_44 : decode cX2_add 44 = .ok (.aload_n 0, 1) := by decide +kernel
theorem dX2_add_45 : decode cX2_add 45 = .ok (.getfield 11, 3) := by decide +kernel
theorem dX2_add_48 : decode cX2_add 48 = .ok (.iload 6, 2) := by decide +kernel
theorem dX2_add_50 : decode cX2_add 50 = .ok (.iconst 2, 1) := by decide +kernel
theorem dX2_add_51 : decode cX2_add 51 = .ok (.iadd, 1) := by decide +kernel
theorem dX2_add_52 : decode cX2_add 52 = .ok (.iload_n 3, 1) := by decide +kernel
theorem dX2_add_53 : decode cX2_add 53 = .ok (.iastore, 1) := by decide +kernel
theorem dX2_add_54 : decode cX2_add 54 = .ok (.aload_n 0, 1) := by decide +kernel
theorem dX2_add_55 : decode cX2_add 55 = .ok (.getfield 11, 3) := by decide +kernel
theorem dX2_add_58 : decode cX2_add 58 = .ok (.iload 6, 2) := by decide +kernel
theorem dX2_add_60 : decode cX2_add 60 = .ok (.iconst 3, 1) := by decide +kernel
theorem dX2_add_61 : decode cX2_add 61 = .ok (.iadd, 1) := by decide +kernel
theorem dX2_add_62 : decode cX2_add 62 = .ok (.iload 4, 2) := by decide +kernel
theorem dX2_add_64 : decode cX2_add 64 = .ok (.iastore, 1) := by decide +kernel
theorem dX2_add_65 : decode cX2_add 65 = .ok (.aload_n 0, 1) := by decide +kernel
theorem dX2_add_66 : decode cX2_add 66 = .ok (.getfield 11, 3) := by decide +kernel
theorem dX2_add_69 : decode cX2_add 69 = .ok (.iload 6, 2) := by decide +kernel
theorem dX2_add_71 : decode cX2_add 71 = .ok (.iconst 4, 1) := by decide +kernel
theorem dX2_add_72 : decode cX2_add 72 = .ok (.iadd, 1) := by decide +kernel
theorem dX2_add_73 : decode cX2_add 73 = .ok (.iload 5, 2) := by decide +kernel
theorem dX2_add_75 : decode cX2_add 75 = .ok (.ifCond .eq 7, 3) := by decide +kernel
theorem dX2_add_78 : decode cX2_add 78 = .ok (.iconst 1, 1) := by decide +kernel
theorem dX2_add_79 : decode cX2_add 79 = .ok (.goto 4, 3) := by decide +kernel
theorem dX2_add_82 : decode cX2_add 82 = .ok (.iconst 0, 1) := by decide +kernel
theorem dX2_add_83 : decode cX2_add 83 = .ok (.iastore, 1) := by decide +kernel
theorem dX2_add_84 : decode cX2_add 84 = .ok (.aload_n 0, 1) := by decide +kernel
theorem dX2_add_85 : decode cX2_add 85 = .ok (.aload_n 0, 1) := by decide +kernel
theorem dX2_add_86 : decode cX2_add 86 = .ok (.getfield 15, 3) := by decide +kernel
theorem dX2_add_89 : decode cX2_add 89 = .ok (.iconst 1, 1) := by decide +kernel
theorem dX2_add_90 : decode cX2_add 90 = .ok (.iadd, 1) := by decide +kernel
theorem dX2_add_91 : decode cX2_add 91 = .ok (.bipush 10, 2) := by decide +kernel
theorem dX2_add_93 : decode cX2_add 93 = .ok (.if_icmp .ge 12, 3) := by decide +kernel
theorem dX2_add_96 : decode cX2_add 96 = .ok (.aload_n 0, 1) := by decide +kernel
theorem dX2_add_97 : decode cX2_add 97 = .ok (.getfield 15, 3) := by decide +kernel
theorem dX2_add_100 : decode cX2_add 100 = .ok (.iconst 1, 1) := by decide +kernel
theorem dX2_add_101 : decode cX2_add 101 = .ok (.iadd, 1) := by decide +kernel
theorem dX2_add_102 : decode cX2_add 102 = .ok (.goto 4, 3) := by decide +kernel
theorem dX2_add_105 : decode cX2_add 105 = .ok (.iconst 0, 1) := by decide +kernel
theorem dX2_add_106 : decode cX2_add 106 = .ok (.putfield 15, 3) := by decide +kernel
theorem dX2_add_109 : decode cX2_add 109 = .ok (.aload_n 0, 1) := by decide +kernel
theorem dX2_add_110 : decode cX2_add 110 = .ok (.aload_n 0, 1) := by decide +kernel
theorem dX2_add_111 : decode cX2_add 111 = .ok (.getfield 19, 3) := by decide +kernel
theorem dX2_add_114 : decode cX2_add 114 = .ok (.iconst 1, 1) := by decide +kernel
theorem dX2_add_115 : decode cX2_add 115 = .ok (.iadd, 1) := by decide +kernel
theorem dX2_add_116 : decode cX2_add 116 = .ok (.bipush 10, 2) := by decide +kernel
theorem dX2_add_118 : decode cX2_add 118 = .ok (.invokestatic 22, 3) := by decide +kernel
theorem dX2_add_121 : decode cX2_add 121 = .ok (.putfield 19, 3) := by decide +kernel
theorem dX2_add_124 : decode cX2_add 124 = .ok (.return_, 1) := by decide +kernel
theorem dX2_told_0 : decode cX2_told 0 = .ok (.iload_n 1, 1) := by decide +kernel
theorem dX2_told_1 : decode cX2_told 1 = .ok (.ifCond .lt 20, 3) := by decide +kernel
theorem dX2_told_4 : decode cX2_told 4 = .ok (.iload_n 1, 1) := by decide +kernel
theorem dX2_told_5 : decode cX2_told 5 = .ok (.aload_n 0, 1) := by decide +kernel
theorem dX2_told_6 : decode cX2_told 6 = .ok (.getfield 19, 3) := by decide +kernel
theorem dX2_told_9 : decode cX2_told 9 = .ok (.if_icmp .ge 12, 3) := by decide +kernel
theorem dX2_told_12 : decode cX2_told 12 = .ok (.iload_n 2, 1) := by decide +kernel
theorem dX2_told_13 : decode cX2_told 13 = .ok (.ifCond .lt 8, 3) := by decide +kernel
theorem dX2_told_16 : decode cX2_told 16 = .ok (.iload_n 2, 1) := by decide +kernel
theorem dX2_told_17 : decode cX2_told 17 = .ok (.iconst 5, 1) := by decide +kernel
theorem dX2_told_18 : decode cX2_told 18 = .ok (.if_icmp .lt 6, 3) := by decide +kernel
theorem dX2_told_21 : decode cX2_told 21 = .ok (.bipush (-5), 2) := by decide +kernel
theorem dX2_told_23 : decode cX2_told 23 = .ok (.ireturn, 1) := by decide +kernel
theorem dX2_told_24 : decode cX2_told 24 = .ok (.aload_n 0, 1) := by decide +kernel
theorem dX2_told_25 : decode cX2_told 25 = .ok (.getfield 15, 3) := by decide +kernel
theorem dX2_told_28 : decode cX2_told 28 = .ok (.iconst 1, 1) := by decide +kernel
theorem dX2_told_29 : decode cX2_told 29 = .ok (.isub, 1) := by decide +kernel
theorem dX2_told_30 : decode cX2_told 30 = .ok (.iload_n 1, 1) := by decide +kernel
theorem dX2_told_31 : decode cX2_told 31 = .ok (.isub, 1) := by decide +kernel
theorem dX2_told_32 : decode cX2_told 32 = .ok (.istore_n 3, 1) := by decide +kernel
theorem dX2_told_33 : decode cX2_told 33 = .ok (.iload_n 3, 1) := by decide +kernel
theorem dX2_told_34 : decode cX2_told 34 = .ok (.ifCond .ge 10, 3) := by decide +kernel
theorem dX2_told_37 : decode cX2_told 37 = .ok (.iload_n 3, 1) := by decide +kernel
theorem dX2_told_38 : decode cX2_told 38 = .ok (.bipush 10, 2) := by decide +kernel
theorem dX2_told_40 : decode cX2_told 40 = .ok (.iadd, 1) := by decide +kernel
theorem dX2_told_41 : decode cX2_told 41 = .ok (.goto 4, 3) := by decide +kernel
theorem dX2_told_44 : decode cX2_told 44 = .ok (.iload_n 3, 1) := by decide +kernel
theorem dX2_told_45 : decode cX2_told 45 = .ok (.iconst 5, 1) := by decide +kernel
theorem dX2_told_46 : decode cX2_told 46 = .ok (.imul, 1) := by decide +kernel
theorem dX2_told_47 : decode cX2_told 47 = .ok (.iload_n 2, 1) := by decide +kernel
theorem dX2_told_48 : decode cX2_told 48 = .ok (.iadd, 1) := by decide +kernel
theorem dX2_told_49 : decode cX2_told 49 = .ok (.istore 4, 2) := by decide +kernel
theorem dX2_told_51 : decode cX2_told 51 = .ok (.iload 4, 2) := by decide +kernel
theorem dX2_told_53 : decode cX2_told 53 = .ok (.ifCond .lt 23, 3) := by decide +kernel
theorem dX2_told_56 : decode cX2_told 56 = .ok (.iload 4, 2) := by decide +kernel
theorem dX2_told_58 : decode cX2_told 58 = .ok (.aload_n 0, 1) := by decide +kernel
theorem dX2_told_59 : decode cX2_told 59 = .ok (.getfield 11, 3) := by decide +kernel
theorem dX2_told_62 : decode cX2_told 62 = .ok (.arraylength, 1) := by decide +kernel
theorem dX2_told_63 : decode cX2_told 63 = .ok (.if_icmp .ge 13, 3) := by decide +kernel
theorem dX2_told_66 : decode cX2_told 66 = .ok (.aload_n 0, 1) := by decide +kernel
theorem dX2_told_67 : decode cX2_told 67 = .ok (.getfield 11, 3) := by decide +kernel
theorem dX2_told_70 : decode cX2_told 70 = .ok (.iload 4, 2) := by decide +kernel
theorem dX2_told_72 : decode cX2_told 72 = .ok (.iaload, 1) := by decide +kernel
theorem dX2_told_73 : decode cX2_told 73 = .ok (.goto 5, 3) := by decide +kernel
theorem dX2_told_76 : decode cX2_told 76 = .ok (.bipush (-5), 2) := by decide +kernel
theorem dX2_told_78 : decode cX2_told 78 = .ok (.ireturn, 1) := by decide +kernel
theorem dX2_copyFrom_0 : decode cX2_copyFrom 0 = .ok (.aload_n 1, 1) := by decide +kernel
theorem dX2_copyFrom_1 : decode cX2_copyFrom 1 = .ok (.getfield 11, 3) := by decide +kernel
theorem dX2_copyFrom_4 : decode cX2_copyFrom 4 = .ok (.iconst 0, 1) := by decide +kernel
theorem dX2_copyFrom_5 : decode cX2_copyFrom 5 = .ok (.aload_n 0, 1) := by decide +kernel
theorem dX2_copyFrom_6 : decode cX2_copyFrom 6 = .ok (.getfield 11, 3) := by decide +kernel
theorem dX2_copyFrom_9 : decode cX2_copyFrom 9 = .ok (.iconst 0, 1) := by decide +kernel
theorem dX2_copyFrom_10 : decode cX2_copyFrom 10 = .ok (.aload_n 0, 1) := by decide +kernel
theorem dX2_copyFrom_11 : decode cX2_copyFrom 11 = .ok (.getfield 11, 3) := by decide +kernel
theorem dX2_copyFrom_14 : decode cX2_copyFrom 14 = .ok (.arraylength, 1) := by decide +kernel
theorem dX2_copyFrom_15 : decode cX2_copyFrom 15 = .ok (.invokestatic 28, 3) := by decide +kernel
theorem dX2_copyFrom_18 : decode cX2_copyFrom 18 = .ok (.aload_n 0, 1) := by decide +kernel
theorem dX2_copyFrom_19 : decode cX2_copyFrom 19 = .ok (.aload_n 1, 1) := by decide +kernel
theorem dX2_copyFrom_20 : decode cX2_copyFrom 20 = .ok (.getfield 15, 3) := by decide +kernel
theorem dX2_copyFrom_23 : decode cX2_copyFrom 23 = .ok (.putfield 15, 3) := by decide +kernel
theorem dX2_copyFrom_26 : decode cX2_copyFrom 26 = .ok (.aload_n 0, 1) := by decide +kernel
theorem dX2_copyFrom_27 : decode cX2_copyFrom 27 = .ok (.aload_n 1, 1) := by decide +kernel
theorem dX2_copyFrom_28 : decode cX2_copyFrom 28 = .ok (.getfield 19, 3) := by decide +kernel
theorem dX2_copyFrom_31 : decode cX2_copyFrom 31 = .ok (.putfield 19, 3) := by decide +kernel
theorem dX2_copyFrom_34 : decode cX2_copyFrom 34 = .ok (.return_, 1) := by decide +kernel
theorem dX3_init_0 : decode cX3_init 0 = .ok (.aload_n 0, 1) := by decide +kernel
theorem dX3_init_1 : decode cX3_init 1 = .ok (.invokespecial 3, 3) := by decide +kernel
theorem dX3_init_4 : decode cX3_init 4 = .ok (.aload_n 0, 1) := by decide +kernel
theorem dX3_init_5 : decode cX3_init 5 = .ok (.getstatic 9, 3) := by decide +kernel
theorem dX3_init_8 : decode cX3_init 8 = .ok (.arraylength, 1) := by decide +kernel
theorem dX3_init_9 : decode cX3_init 9 = .ok (.newarray .float, 2) := by decide +kernel
theorem dX3_init_11 : decode cX3_init 11 = .ok (.putfield 15, 3) := by decide +kernel
theorem dX3_init_14 : decode cX3_init 14 = .ok (.iconst 0, 1) := by decide +kernel
theorem dX3_init_15 : decode cX3_init 15 = .ok (.istore_n 1, 1) := by decide +kernel
theorem dX3_init_16 : decode cX3_init 16 = .ok (.iload_n 1, 1) := by decide +kernel
theorem dX3_init_17 : decode cX3_init 17 = .ok (.aload_n 0, 1) := by decide +kernel
theorem dX3_init_18 : decode cX3_init 18 = .ok (.getfield 15, 3) := by decide +kernel
theorem dX3_init_21 : decode cX3_init 21 = .ok (.arraylength, 1) := by decide +kernel
theorem dX3_init_22 : decode cX3_init 22 = .ok (.if_icmp .ge 21, 3) := by decide +kernel
theorem dX3_init_25 : decode cX3_init 25 = .ok (.aload_n 0, 1) := by decide +kernel
theorem dX3_init_26 : decode cX3_init 26 = .ok (.getfield 15, 3) := by decide +kernel
theorem dX3_init_29 : decode cX3_init 29 = .ok (.iload_n 1, 1) := by decide +kernel
theorem dX3_init_30 : decode cX3_init 30 = .ok (.getstatic 9, 3) := by decide +kernel
theorem dX3_init_33 : decode cX3_init 33 = .ok (.iload_n 1, 1) := by decide +kernel
theorem dX3_init_34 : decode cX3_init 34 = .ok (.iaload, 1) := by decide +kernel
theorem dX3_init_35 : decode cX3_init 35 = .ok (.i2f, 1) := by decide +kernel
theorem dX3_init_36 : decode cX3_init 36 = .ok (.fastore, 1) := by decide +kernel
theorem dX3_init_37 : decode cX3_init 37 = .ok (.iinc 1 1, 3) := by decide +kernel
theorem dX3_init_40 : decode cX3_init 40 = .ok (.goto (-24), 3) := by decide +kernel
theorem dX3_init_43 : decode cX3_init 43 = .ok (.return_, 1) := by decide +kernel
theorem dX3_has_0 : decode cX3_has 0 = .ok (.iload_n 1, 1) := by decide +kernel
theorem dX3_has_1 : decode cX3_has 1 = .ok (.ifCond .lt 13, 3) := by decide +kernel
theorem dX3_has_4 : decode cX3_has 4 = .ok (.iload_n 1, 1) := by decide +kernel
theorem dX3_has_5 : decode cX3_has 5 = .ok (.iconst 3, 1) := by decide +kernel
theorem dX3_has_6 : decode cX3_has 6 = .ok (.if_icmp .gt 8, 3) := by decide +kernel
theorem dX3_has_9 : decode cX3_has 9 = .ok (.iload_n 0, 1) := by decide +kernel
theorem dX3_has_10 : decode cX3_has 10 = .ok (.iconst 1, 1) := by decide +kernel
theorem dX3_has_11 : decode cX3_has 11 = .ok (.if_icmp .ge 5, 3) := by decide +kernel
theorem dX3_has_14 : decode cX3_has 14 = .ok (.iconst 0, 1) := by decide +kernel
theorem dX3_has_15 : decode cX3_has 15 = .ok (.ireturn, 1) := by decide +kernel
theorem dX3_has_16 : decode cX3_has 16 = .ok (.iload_n 1, 1) := by decide +kernel
theorem dX3_has_17 : decode cX3_has 17 = .ok (.iconst 3, 1) := by decide +kernel
theorem dX3_has_18 : decode cX3_has 18 = .ok (.if_icmp .ne 16, 3) := by decide +kernel
theorem dX3_has_21 : decode cX3_has 21 = .ok (.iload_n 0, 1) := by decide +kernel
theorem dX3_has_22 : decode cX3_has 22 = .ok (.iconst 5, 1) := by decide +kernel
theorem dX3_has_23 : decode cX3_has 23 = .ok (.if_icmp .gt 7, 3) := by decide +kernel
theorem dX3_has_26 : decode cX3_has 26 = .ok (.iconst 1, 1) := by decide +kernel
theorem dX3_has_27 : decode cX3_has 27 = .ok (.goto 17, 3) := by decide +kernel
theorem dX3_has_30 : decode cX3_has 30 = .ok (.iconst 0, 1) := by decide +kernel
theorem dX3_has_31 : decode cX3_has 31 = .ok (.goto 13, 3) := by decide +kernel
theorem dX3_has_34 : decode cX3_has 34 = .ok (.iload_n 0, 1) := by decide +kernel
theorem dX3_has_35 : decode cX3_has 35 = .ok (.iconst 5, 1) := by decide +kernel
theorem dX3_has_36 : decode cX3_has 36 = .ok (.if_icmp .ge 7, 3) := by decide +kernel
theorem dX3_has_39 : decode cX3_has 39 = .ok (.iconst 1, 1) := by decide +kernel
theorem dX3_has_40 : decode cX3_has 40 = .ok (.goto 4, 3) := by decide +kernel
theorem dX3_has_43 : decode cX3_has 43 = .ok (.iconst 0, 1) := by decide +kernel
theorem dX3_has_44 : decode cX3_has 44 = .ok (.ireturn, 1) := by decide +kernel
theorem dX3_speed_0 : decode cX3_speed 0 = .ok (.iload_n 2, 1) := by decide +kernel
theorem dX3_speed_1 : decode cX3_speed 1 = .ok (.iconst 5, 1) := by decide +kernel
theorem dX3_speed_2 : decode cX3_speed 2 = .ok (.imul, 1) := by decide +kernel
theorem dX3_speed_3 : decode cX3_speed 3 = .ok (.iload_n 1, 1) := by decide +kernel
theorem dX3_speed_4 : decode cX3_speed 4 = .ok (.iadd, 1) := by decide +kernel
theorem dX3_speed_5 : decode cX3_speed 5 = .ok (.iconst 1, 1) := by decide +kernel
theorem dX3_speed_6 : decode cX3_speed 6 = .ok (.isub, 1) := by decide +kernel
theorem dX3_speed_7 : decode cX3_speed 7 = .ok (.istore_n 3, 1) := by decide +kernel
theorem dX3_speed_8 : decode cX3_speed 8 = .ok (.iload_n 3, 1) := by decide +kernel
theorem dX3_speed_9 : decode cX3_speed 9 = .ok (.ifCond .lt 21, 3) := by decide +kernel
theorem dX3_speed_12 : decode cX3_speed 12 = .ok (.iload_n 3, 1) := by decide +kernel
theorem dX3_speed_13 : decode cX3_speed 13 = .ok (.aload_n 0, 1) := by decide +kernel
theorem dX3_speed_14 : decode cX3_speed 14 = .ok (.getfield 15, 3) := by decide +kernel
theorem dX3_speed_17 : decode cX3_speed 17 = .ok (.arraylength, 1) := by decide +kernel
theorem dX3_speed_18 : decode cX3_speed 18 = .ok (.if_icmp .ge 12, 3) := by decide +kernel
theorem dX3_speed_21 : decode cX3_speed 21 = .ok (.aload_n 0, 1) := by decide +kernel
theorem dX3_speed_22 : decode cX3_speed 22 = .ok (.getfield 15, 3) := by decide +kernel
theorem dX3_speed_25 : decode cX3_speed 25 = .ok (.iload_n 3, 1) := by decide +kernel
theorem dX3_speed_26 : decode cX3_speed 26 = .ok (.faload, 1) := by decide +kernel
theorem dX3_speed_27 : decode cX3_speed 27 = .ok (.goto 4, 3) := by decide +kernel
theorem dX3_speed_30 : decode cX3_speed 30 = .ok (.fconst 0, 1) := by decide +kernel
theorem dX3_speed_31 : decode cX3_speed 31 = .ok (.freturn, 1) := by decide +kernel
set_option maxRecDepth 20000 in
theorem ggX3_put_X3_has : GoodIn wsX3_put wsX3_has := goodIn_r _ [5] (by decide +kernel) (by decide +kernel)
set_option maxRecDepth 20000 in
theorem gX3_put_X3_has : GoodIn wsX3_put (va_wsS RX3 19 yX3_has wsX3_has) := goodIn_app (goodIn_of _ (by decide +kernel)) ggX3_put_X3_has
theorem dX3_put_0 : decode cX3_put 0 = .ok (.iload_n 1, 1) := by decide +kernel
theorem dX3_put_1 : decode cX3_put 1 = .ok (.iload_n 2, 1) := by decide +kernel
theorem dX3_put_2 : decode cX3_put 2 = .ok (.invokestatic 19, 3) := by decide +kernel
theorem dX3_put_5 : decode cX3_put 5 = .ok (.ifCond .eq 16, 3) := by decide +kernel
theorem dX3_put_8 : decode cX3_put 8 = .ok (.aload_n 0, 1) := by decide +kernel
theorem dX3_put_9 : decode cX3_put 9 = .ok (.getfield 15, 3) := by decide +kernel
theorem dX3_put_12 : decode cX3_put 12 = .ok (.iload_n 2, 1) := by decide +kernel
theorem dX3_put_13 : decode cX3_put 13 = .ok (.iconst 5, 1) := by decide +kernel
theorem dX3_put_14 : decode cX3_put 14 = .ok (.imul, 1) := by decide +kernel
theorem dX3_put_15 : decode cX3_put 15 = .ok (.iload_n 1, 1) := by decide +kernel
theorem dX3_put_16 : decode cX3_put 16 = .ok (.iadd, 1) := by decide +kernel
theorem dX3_put_17 : decode cX3_put 17 = .ok (.iconst 1, 1) := by decide +kernel
theorem dX3_put_18 : decode cX3_put 18 = .ok (.isub, 1) := by decide +kernel
theorem dX3_put_19 : decode cX3_put 19 = .ok (.fload_n 3, 1) := by decide +kernel
theorem dX3_put_20 : decode cX3_put 20 = .ok (.fastore, 1) := by decide +kernel
theorem dX3_put_21 : decode cX3_put 21 = .ok (.return_, 1) := by decide +kernel
set_option maxRecDepth 20000 in
theorem ggX3_upFrom_X3_speed : GoodIn wsX3_upFrom wsX3_speed := goodIn_r _ [5, 6, 7] (by decide +kernel) (by decide +kernel)
set_option maxRecDepth 20000 in
theorem gX3_upFrom_X3_speed : GoodIn wsX3_upFrom (wsV RX3 23 RX3 yX3_speed wsX3_speed) := goodIn_app (goodIn_of _ (by decide +kernel)) ggX3_upFrom_X3_speed
theorem dX3_upFrom_0 : decode cX3_upFrom 0 = .ok (.aload_n 0, 1) := by decide +kernel
theorem dX3_upFrom_1 : decode cX3_upFrom 1 = .ok (.iload_n 1, 1) := by decide +kernel
theorem dX3_upFrom_2 : decode cX3_upFrom 2 = .ok (.iconst 0, 1) := by decide +kernel
theorem dX3_upFrom_3 : decode cX3_upFrom 3 = .ok (.invokevirtual 23, 3) := by decide +kernel
theorem dX3_upFrom_6 : decode cX3_upFrom 6 = .ok (.fstore_n 3, 1) := by decide +kernel
theorem dX3_upFrom_7 : decode cX3_upFrom 7 = .ok (.fload_n 3, 1) := by decide +kernel
theorem dX3_upFrom_8 : decode cX3_upFrom 8 = .ok (.aload_n 0, 1) := by decide +kernel
theorem dX3_upFrom_9 : decode cX3_upFrom 9 = .ok (.iload_n 1, 1) := by decide +kernel
theorem dX3_upFrom_10 : decode cX3_upFrom 10 = .ok (.iconst 1, 1) := by decide +kernel
theorem dX3_upFrom_11 : decode cX3_upFrom 11 = .ok (.invokevirtual 23, 3) := by decide +kernel
theorem dX3_upFrom_14 : decode cX3_upFrom 14 = .ok (.fload_n 3, 1) := by decide +kernel
theorem dX3_upFrom_15 : decode cX3_upFrom 15 = .ok (.fsub, 1) := by decide +kernel
theorem dX3_upFrom_16 : decode cX3_upFrom 16 = .ok (.fload_n 2, 1) := by decide +kernel
theorem dX3_upFrom_17 : decode cX3_upFrom 17 = .ok (.fmul, 1) := by decide +kernel
theorem dX3_upFrom_18 : decode cX3_upFrom 18 = .ok (.fadd, 1) := by decide +kernel
theorem dX3_upFrom_19 : decode cX3_upFrom 19 = .ok (.freturn, 1) := by decide +kernel
set_option maxRecDepth 20000 in
theorem ggX3_downTo_X3_upFrom : GoodIn wsX3_downTo wsX3_upFrom := goodIn_r _ [5, 6, 7, 8, 4, 9, 10, 11] (by decide +kernel) (by decide +kernel)
set_option maxRecDepth 20000 in
theorem gX3_downTo_X3_upFrom : GoodIn wsX3_downTo (wsV RX3 27 RX3 yX3_upFrom wsX3_upFrom) := goodIn_app (goodIn_of _ (by decide +kernel)) ggX3_downTo_X3_upFrom
set_option maxRecDepth 20000 in
theorem ggX3_downTo_X3_speed : GoodIn wsX3_downTo wsX3_speed := goodIn_r _ [9, 10, 11] (by decide +kernel) (by decide +kernel)
set_option maxRecDepth 20000 in
theorem gX3_downTo_X3_speed : GoodIn wsX3_downTo (wsV RX3 23 RX3 yX3_speed wsX3_speed) := goodIn_app (goodIn_of _ (by decide +kernel)) ggX3_downTo_X3_speed
theorem dX3_downTo_0 : decode cX3_downTo 0 = .ok (.aload_n 0, 1) := by decide +kernel
theorem dX3_downTo_1 : decode cX3_downTo 1 = .ok (.iload_n 1, 1) := by decide +kernel
theorem dX3_downTo_2 : decode cX3_downTo 2 = .ok (.fload_n 2, 1) := by decide +kernel
theorem dX3_downTo_3 : decode cX3_downTo 3 = .ok (.invokevirtual 27, 3) := by decide +kernel
theorem dX3_downTo_6 : decode cX3_downTo 6 = .ok (.aload_n 0, 1) := by decide +kernel
theorem dX3_downTo_7 : decode cX3_downTo 7 = .ok (.iload_n 1, 1) := by decide +kernel
theorem dX3_downTo_8 : decode cX3_downTo 8 = .ok (.iconst 2, 1) := by decide +kernel
theorem dX3_downTo_9 : decode cX3_downTo 9 = .ok (.invokevirtual 23, 3) := by decide +kernel
theorem dX3_downTo_12 : decode cX3_downTo 12 = .ok (.fsub, 1) := by decide +kernel
theorem dX3_downTo_13 : decode cX3_downTo 13 = .ok (.freturn, 1) := by decide +kernel
set_option maxRecDepth 20000 in
theorem ggX3_exceeds_X3_speed : GoodIn wsX3_exceeds wsX3_speed := goodIn_r _ [5, 6, 7] (by decide +kernel) (by decide +kernel)
set_option maxRecDepth 20000 in
theorem gX3_exceeds_X3_speed : GoodIn wsX3_exceeds (wsV RX3 23 RX3 yX3_speed wsX3_speed) := goodIn_app (goodIn_of _ (by decide +kernel)) ggX3_exceeds_X3_speed
theorem dX3_exceeds_0 : decode cX3_exceeds 0 = .ok (.fload_n 1, 1) := by decide +kernel
theorem dX3_exceeds_1 : decode cX3_exceeds 1 = .ok (.aload_n 0, 1) := by decide +kernel
theorem dX3_exceeds_2 : decode cX3_exceeds 2 = .ok (.iload_n 2, 1) := by decide +kernel
theorem dX3_exceeds_3 : decode cX3_exceeds 3 = .ok (.iconst 3, 1) := by decide +kernel
theorem dX3_exceeds_4 : decode cX3_exceeds 4 = .ok (.invokevirtual 23, 3) := by decide +kernel
theorem dX3_exceeds_7 : decode cX3_exceeds 7 = .ok (.fcmp .l, 1) := by decide +kernel
theorem dX3_exceeds_8 : decode cX3_exceeds 8 = .ok (.ifCond .le 7, 3) := by decide +kernel
theorem dX3_exceeds_11 : decode cX3_exceeds 11 = .ok (.iconst 1, 1) := by decide +kernel
theorem dX3_exceeds_12 : decode cX3_exceeds 12 = .ok (.goto 4, 3) := by decide +kernel
theorem dX3_exceeds_15 : decode cX3_exceeds 15 = .ok (.iconst 0, 1) := by decide +kernel
theorem dX3_exceeds_16 : decode cX3_exceeds 16 = .ok (.ireturn, 1) := by decide +kernel
theorem dX3_copyFrom_0 : decode cX3_copyFrom 0 = .ok (.aload_n 1, 1) := by decide +kernel
theorem dX3_copyFrom_1 : decode cX3_copyFrom 1 = .ok (.getfield 15, 3) := by decide +kernel
theorem dX3_copyFrom_4 : decode cX3_copyFrom 4 = .ok (.iconst 0, 1) := by decide +kernel
theorem dX3_copyFrom_5 : decode cX3_copyFrom 5 = .ok (.aload_n 0, 1) := by decide +kernel
theorem dX3_copyFrom_6 : decode cX3_copyFrom 6 = .ok (.getfield 15, 3) := by decide +kernel
theorem dX3_copyFrom_9 : decode cX3_copyFrom 9 = .ok (.iconst 0, 1) := by decide +kernel
theorem dX3_copyFrom_10 : decode cX3_copyFrom 10 = .ok (.aload_n 0, 1) := by decide +kernel
theorem dX3_copyFrom_11 : decode cX3_copyFrom 11 = .ok (.getfield 15, 3) := by decide +kernel
theorem dX3_copyFrom_14 : decode cX3_copyFrom 14 = .ok (.arraylength, 1) := by decide +kernel
theorem dX3_copyFrom_15 : decode cX3_copyFrom 15 = .ok (.invokestatic 31, 3) := by decide +kernel
theorem dX3_copyFrom_18 : decode cX3_copyFrom 18 = .ok (.return_, 1) := by decide +kernel
set_option maxRecDepth 20000 in
theorem ggX4_init_X3_init : GoodIn wsX4_init wsX3_init := goodIn_r _ [29, 30, 2, 3, 31, 32, 33, 40] (by decide +kernel) (by decide +kernel)
set_option maxRecDepth 20000 in
theorem gX4_init_X3_init : GoodIn wsX4_init (wsX3_init) := ggX4_init_X3_init
set_option maxRecDepth 20000 in
theorem ggX4_init_X2_init : GoodIn wsX4_init wsX2_init := goodIn_r _ [35, 36, 2, 3, 12, 37, 38, 39, 52, 53, 54] (by decide +kernel) (by decide +kernel)
set_option maxRecDepth 20000 in
theorem gX4_init_X2_init_n20 : GoodIn wsX4_init (wsX2_init) := ggX4_init_X2_init
theorem dX4_init_0 : decode cX4_init 0 = .ok (.aload_n 0, 1) := by decide +kernel
theorem dX4_init_1 : decode cX4_init 1 = .ok (.invokespecial 3, 3) := by decide +kernel
theorem dX4_init_4 : decode cX4_init 4 = .ok (.aload_n 0, 1) := by decide +kernel
theorem dX4_init_5 : decode cX4_init 5 = .ok (.new 9, 3) := by decide +kernel
theorem dX4_init_8 : decode cX4_init 8 = .ok (.dup, 1) := by decide +kernel
theorem dX4_init_9 : decode cX4_init 9 = .ok (.invokespecial 11, 3) := by decide +kernel
theorem dX4_init_12 : decode cX4_init 12 = .ok (.putfield 12, 3) := by decide +kernel
theorem dX4_init_15 : decode cX4_init 15 = .ok (.aload_n 0, 1) := by decide +kernel
theorem dX4_init_16 : decode cX4_init 16 = .ok (.new 18, 3) := by decide +kernel
theorem dX4_init_19 : decode cX4_init 19 = .ok (.dup, 1) := by decide +kernel
theorem dX4_init_20 : decode cX4_init 20 = .ok (.invokespecial 20, 3) := by decide +kernel
theorem dX4_init_23 : decode cX4_init 23 = .ok (.putfield 21, 3) := by decide +kernel
theorem dX4_init_26 : decode cX4_init 26 = .ok (.aload_n 0, 1) := by decide +kernel
theorem dX4_init_27 : decode cX4_init 27 = .ok (.bipush 13, 2) := by decide +kernel
theorem dX4_init_29 : decode cX4_init 29 = .ok (.newarray .int, 2) := by decide +kernel
theorem dX4_init_31 : decode cX4_init 31 = .ok (.putfield 25, 3) := by decide +kernel
theorem dX4_init_34 : decode cX4_init 34 = .ok (.aload_n 0, 1) := by decide +kernel
theorem dX4_init_35 : decode cX4_init 35 = .ok (.getstatic 29, 3) := by decide +kernel
theorem dX4_init_38 : decode cX4_init 38 = .ok (.arraylength, 1) := by decide +kernel
theorem dX4_init_39 : decode cX4_init 39 = .ok (.newarray .int, 2) := by decide +kernel
theorem dX4_init_41 : decode cX4_init 41 = .ok (.putfield 32, 3) := by decide +kernel
theorem dX4_init_44 : decode cX4_init 44 = .ok (.aload_n 0, 1) := by decide +kernel
theorem dX4_init_45 : decode cX4_init 45 = .ok (.iconst 1, 1) := by decide +kernel
theorem dX4_init_46 : decode cX4_init 46 = .ok (.putfield 35, 3) := by decide +kernel
theorem dX4_init_49 : decode cX4_init 49 = .ok (.aload_n 0, 1) := by decide +kernel
theorem dX4_init_50 : decode cX4_init 50 = .ok (.iconst 0, 1) := by decide +kernel
theorem dX4_init_51 : decode cX4_init 51 = .ok (.putfield 39, 3) := by decide +kernel
theorem dX4_init_54 : decode cX4_init 54 = .ok (.aload_n 0, 1) := by decide +kernel
theorem dX4_init_55 : decode cX4_init 55 = .ok (.iconst 0, 1) := by decide +kernel
theorem dX4_init_56 : decode cX4_init 56 = .ok (.putfield 42, 3) := by decide +kernel
theorem dX4_init_59 : decode cX4_init 59 = .ok (.aload_n 0, 1) := by decide +kernel
theorem dX4_init_60 : decode cX4_init 60 = .ok (.iconst 0, 1) := by decide +kernel
theorem dX4_init_61 : decode cX4_init 61 = .ok (.putfield 45, 3) := by decide +kernel
theorem dX4_init_64 : decode cX4_init 64 = .ok (.aload_n 0, 1) := by decide +kernel
theorem dX4_init_65 : decode cX4_init 65 = .ok (.iconst 0, 1) := by decide +kernel
theorem dX4_init_66 : decode cX4_init 66 = .ok (.putfield 48, 3) := by decide +kernel
theorem dX4_init_69 : decode cX4_init 69 = .ok (.aload_n 0, 1) := by decide +kernel
theorem dX4_init_70 : decode cX4_init 70 = .ok (.fconst 0, 1) := by decide +kernel
theorem dX4_init_71 : decode cX4_init 71 = .ok (.putfield 52, 3) := by decide +kernel
theorem dX4_init_74 : decode cX4_init 74 = .ok (.aload_n 0, 1) := by decide +kernel
theorem dX4_init_75 : decode cX4_init 75 = .ok (.fconst 0, 1) := by decide +kernel
theorem dX4_init_76 : decode cX4_init 76 = .ok (.putfield 56, 3) := by decide +kernel
theorem dX4_init_79 : decode cX4_init 79 = .ok (.getstatic 29, 3) := by decide +kernel
theorem dX4_init_82 : decode cX4_init 82 = .ok (.iconst 0, 1) := by decide +kernel
theorem dX4_init_83 : decode cX4_init 83 = .ok (.aload_n 0, 1) := by decide +kernel
theorem dX4_init_84 : decode cX4_init 84 = .ok (.getfield 32, 3) := by decide +kernel
theorem dX4_init_87 : decode cX4_init 87 = .ok (.iconst 0, 1) := by decide +kernel
theorem dX4_init_88 : decode cX4_init 88 = .ok (.aload_n 0, 1) := by decide +kernel
theorem dX4_init_89 : decode cX4_init 89 = .ok (.getfield 32, 3) := by decide +kernel
theorem dX4_init_92 : decode cX4_init 92 = .ok (.arraylength, 1) := by decide +kernel
theorem dX4_init_93 : decode cX4_init 93 = .ok (.invokestatic 59, 3) := by decide +kernel
theorem dX4_init_96 : decode cX4_init 96 = .ok (.return_, 1) := by decide +kernel
set_option maxRecDepth 20000 in
theorem ggX4_copyFrom_X3_copyFrom : GoodIn wsX4_copyFrom wsX3_copyFrom := goodIn_r _ [20, 21, 22, 5, 6, 7, 43] (by decide +kernel) (by decide +kernel)
set_option maxRecDepth 20000 in
theorem gX4_copyFrom_X3_copyFrom : GoodIn wsX4_copyFrom (wsV RX4 65 RX3 yX3_copyFrom wsX3_copyFrom) := goodIn_app (goodIn_of _ (by decide +kernel)) ggX4_copyFrom_X3_copyFrom
set_option maxRecDepth 20000 in
theorem ggX4_copyFrom_X2_copyFrom : GoodIn wsX4_copyFrom wsX2_copyFrom := goodIn_r _ [27, 28, 29, 5, 6, 7, 30, 31, 44, 45, 46] (by decide +kernel) (by decide +kernel)
set_option maxRecDepth 20000 in
theorem gX4_copyFrom_X2_copyFrom : GoodIn wsX4_copyFrom (wsV RX4 69 RX2 yX2_copyFrom wsX2_copyFrom) := goodIn_app (goodIn_of _ (by decide +kernel)) ggX4_copyFrom_X2_copyFrom
theorem dX4_copyFrom_0 : decode cX4_copyFrom 0 = .ok (.aload_n 0, 1) := by decide +kernel
theorem dX4_copyFrom_1 : decode cX4_copyFrom 1 = .ok (.getfield 12, 3) := by decide +kernel
