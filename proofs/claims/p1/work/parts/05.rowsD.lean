theorem dX10_worthOf_40 : decode cX10_worthOf 40 = .ok (.iconst 1, 1) := by decide +kernel
theorem dX10_worthOf_41 : decode cX10_worthOf 41 = .ok (.iand, 1) := by decide +kernel
theorem dX10_worthOf_42 : decode cX10_worthOf 42 = .ok (.iconst 1, 1) := by decide +kernel
theorem dX10_worthOf_43 : decode cX10_worthOf 43 = .ok (.if_icmp .ne 25, 3) := by decide +kernel
theorem dX10_worthOf_46 : decode cX10_worthOf 46 = .ok (.aload_n 0, 1) := by decide +kernel
theorem dX10_worthOf_47 : decode cX10_worthOf 47 = .ok (.getfield 47, 3) := by decide +kernel
theorem dX10_worthOf_50 : decode cX10_worthOf 50 = .ok (.iconst 4, 1) := by decide +kernel
theorem dX10_worthOf_51 : decode cX10_worthOf 51 = .ok (.iload_n 2, 1) := by decide +kernel
theorem dX10_worthOf_52 : decode cX10_worthOf 52 = .ok (.imul, 1) := by decide +kernel
theorem dX10_worthOf_53 : decode cX10_worthOf 53 = .ok (.iload 4, 2) := by decide +kernel
theorem dX10_worthOf_55 : decode cX10_worthOf 55 = .ok (.iadd, 1) := by decide +kernel
theorem dX10_worthOf_56 : decode cX10_worthOf 56 = .ok (.aload_n 0, 1) := by decide +kernel
theorem dX10_worthOf_57 : decode cX10_worthOf 57 = .ok (.iload_n 3, 1) := by decide +kernel
theorem dX10_worthOf_58 : decode cX10_worthOf 58 = .ok (.iload 5, 2) := by decide +kernel
theorem dX10_worthOf_60 : decode cX10_worthOf 60 = .ok (.invokevirtual 175, 3) := by decide +kernel
theorem dX10_worthOf_63 : decode cX10_worthOf 63 = .ok (.i2l, 1) := by decide +kernel
theorem dX10_worthOf_64 : decode cX10_worthOf 64 = .ok (.lastore, 1) := by decide +kernel
theorem dX10_worthOf_65 : decode cX10_worthOf 65 = .ok (.iinc 4 1, 3) := by decide +kernel
theorem dX10_worthOf_68 : decode cX10_worthOf 68 = .ok (.iinc 5 1, 3) := by decide +kernel
theorem dX10_worthOf_71 : decode cX10_worthOf 71 = .ok (.goto (-44), 3) := by decide +kernel
theorem dX10_worthOf_74 : decode cX10_worthOf 74 = .ok (.iinc 2 1, 3) := by decide +kernel
theorem dX10_worthOf_77 : decode cX10_worthOf 77 = .ok (.iinc 3 1, 3) := by decide +kernel
theorem dX10_worthOf_80 : decode cX10_worthOf 80 = .ok (.goto (-76), 3) := by decide +kernel
theorem dX10_worthOf_83 : decode cX10_worthOf 83 = .ok (.aload_n 0, 1) := by decide +kernel
theorem dX10_worthOf_84 : decode cX10_worthOf 84 = .ok (.iload_n 2, 1) := by decide +kernel
theorem dX10_worthOf_85 : decode cX10_worthOf 85 = .ok (.invokevirtual 178, 3) := by decide +kernel
theorem dX10_worthOf_88 : decode cX10_worthOf 88 = .ok (.lreturn, 1) := by decide +kernel
theorem dX10_whole_0 : decode cX10_whole 0 = .ok (.iconst 1, 1) := by decide +kernel
theorem dX10_whole_1 : decode cX10_whole 1 = .ok (.aload_n 0, 1) := by decide +kernel
theorem dX10_whole_2 : decode cX10_whole 2 = .ok (.getfield 13, 3) := by decide +kernel
theorem dX10_whole_5 : decode cX10_whole 5 = .ok (.ishl, 1) := by decide +kernel
theorem dX10_whole_6 : decode cX10_whole 6 = .ok (.iconst 1, 1) := by decide +kernel
theorem dX10_whole_7 : decode cX10_whole 7 = .ok (.isub, 1) := by decide +kernel
theorem dX10_whole_8 : decode cX10_whole 8 = .ok (.ireturn, 1) := by decide +kernel
set_option maxRecDepth 20000 in
theorem ggX10_worth_X10_whole : GoodIn wsX10_worth wsX10_whole := goodIn_r _ [6, 7, 32, 33, 34, 35, 36, 37, 38, 39, 40, 41, 42, 43, 44, 45, 46, 47, 48, 49, 50, 51, 52, 53, 54, 55, 56, 57, 58, 59] (by decide +kernel) (by decide +kernel)
set_option maxRecDepth 20000 in
theorem gX10_worth_X10_whole : GoodIn wsX10_worth (wsV RX10 182 RX10 yX10_whole wsX10_whole) := goodIn_app (goodIn_of _ (by decide +kernel)) ggX10_worth_X10_whole
set_option maxRecDepth 20000 in
theorem ggX10_worth_X10_in : GoodIn wsX10_worth wsX10_in := goodIn_r _ [10] (by decide +kernel) (by decide +kernel)
set_option maxRecDepth 20000 in
theorem gX10_worth_X10_in : GoodIn wsX10_worth (va_wsS RX10 77 yX10_in wsX10_in) := goodIn_app (goodIn_of _ (by decide +kernel)) ggX10_worth_X10_in
set_option maxRecDepth 20000 in
theorem ggX10_worth_X10_lay : GoodIn wsX10_worth wsX10_lay := goodIn_r _ [14, 15, 7, 16, 17, 18, 32, 33, 34, 35, 36, 37, 38, 39, 40, 41, 42, 43, 44, 45, 46, 47, 48, 49, 50, 51, 52, 53, 54, 55, 56, 57, 58, 59] (by decide +kernel) (by decide +kernel)
set_option maxRecDepth 20000 in
theorem gX10_worth_X10_lay : GoodIn wsX10_worth (wsV RX10 172 RX10 yX10_lay wsX10_lay) := goodIn_app (goodIn_of _ (by decide +kernel)) ggX10_worth_X10_lay
set_option maxRecDepth 20000 in
theorem ggX10_worth_X10_worthOf : GoodIn wsX10_worth wsX10_worthOf := goodIn_r _ [22, 7, 23, 24, 25, 26, 5, 27, 15, 28, 29, 30, 31, 32, 33, 34, 35, 36, 37, 38, 39, 40, 41, 42, 43, 44, 45, 46, 47, 48, 49, 50, 51, 52, 53, 54, 55, 56, 57, 58, 59] (by decide +kernel) (by decide +kernel)
set_option maxRecDepth 20000 in
theorem gX10_worth_X10_worthOf : GoodIn wsX10_worth (wsV RX10 187 RX10 yX10_worthOf wsX10_worthOf) := goodIn_app (goodIn_of _ (by decide +kernel)) ggX10_worth_X10_worthOf
theorem dX10_worth_0 : decode cX10_worth 0 = .ok (.iload_n 1, 1) := by decide +kernel
theorem dX10_worth_1 : decode cX10_worth 1 = .ok (.i2l, 1) := by decide +kernel
theorem dX10_worth_2 : decode cX10_worth 2 = .ok (.lconst 1, 1) := by decide +kernel
theorem dX10_worth_3 : decode cX10_worth 3 = .ok (.aload_n 0, 1) := by decide +kernel
theorem dX10_worth_4 : decode cX10_worth 4 = .ok (.invokevirtual 182, 3) := by decide +kernel
theorem dX10_worth_7 : decode cX10_worth 7 = .ok (.i2l, 1) := by decide +kernel
theorem dX10_worth_8 : decode cX10_worth 8 = .ok (.invokestatic 77, 3) := by decide +kernel
theorem dX10_worth_11 : decode cX10_worth 11 = .ok (.ifCond .ne 7, 3) := by decide +kernel
theorem dX10_worth_14 : decode cX10_worth 14 = .ok (.ldc2_w 185, 3) := by decide +kernel
theorem dX10_worth_17 : decode cX10_worth 17 = .ok (.lreturn, 1) := by decide +kernel
theorem dX10_worth_18 : decode cX10_worth 18 = .ok (.aload_n 0, 1) := by decide +kernel
theorem dX10_worth_19 : decode cX10_worth 19 = .ok (.invokevirtual 172, 3) := by decide +kernel
theorem dX10_worth_22 : decode cX10_worth 22 = .ok (.aload_n 0, 1) := by decide +kernel
theorem dX10_worth_23 : decode cX10_worth 23 = .ok (.iload_n 1, 1) := by decide +kernel
theorem dX10_worth_24 : decode cX10_worth 24 = .ok (.invokevirtual 187, 3) := by decide +kernel
theorem dX10_worth_27 : decode cX10_worth 27 = .ok (.lreturn, 1) := by decide +kernel
set_option maxRecDepth 20000 in
theorem ggX10_fractionOf_X10_whole : GoodIn wsX10_fractionOf wsX10_whole := goodIn_r _ [11, 2, 24, 25, 26, 27, 28, 29, 30, 31, 32, 33, 34, 35, 36, 37, 38, 39, 40, 41, 42, 43, 44, 45, 46, 47, 48, 49, 50, 51] (by decide +kernel) (by decide +kernel)
set_option maxRecDepth 20000 in
theorem gX10_fractionOf_X10_whole : GoodIn wsX10_fractionOf (wsV RX10 182 RX10 yX10_whole wsX10_whole) := goodIn_app (goodIn_of _ (by decide +kernel)) ggX10_fractionOf_X10_whole
set_option maxRecDepth 20000 in
theorem ggX10_fractionOf_X10_worthOf : GoodIn wsX10_fractionOf wsX10_worthOf := goodIn_r _ [15, 2, 5, 16, 17, 18, 10, 19, 3, 20, 21, 22, 23, 24, 25, 26, 27, 28, 29, 30, 31, 32, 33, 34, 35, 36, 37, 38, 39, 40, 41, 42, 43, 44, 45, 46, 47, 48, 49, 50, 51] (by decide +kernel) (by decide +kernel)
set_option maxRecDepth 20000 in
theorem gX10_fractionOf_X10_worthOf : GoodIn wsX10_fractionOf (wsV RX10 187 RX10 yX10_worthOf wsX10_worthOf) := goodIn_app (goodIn_of _ (by decide +kernel)) ggX10_fractionOf_X10_worthOf
set_option maxRecDepth 20000 in
theorem ggX10_fractionOf_X10_dot : GoodIn wsX10_fractionOf wsX10_dot := goodIn_r _ [19, 3, 24, 25, 26, 27, 28, 29, 30, 31, 32, 33, 34, 35, 36, 37, 38, 39, 40, 41, 42, 43, 44, 45, 46, 47, 48, 49, 50, 51] (by decide +kernel) (by decide +kernel)
set_option maxRecDepth 20000 in
theorem gX10_fractionOf_X10_dot : GoodIn wsX10_fractionOf (wsV RX10 175 RX10 yX10_dot wsX10_dot) := goodIn_app (goodIn_of _ (by decide +kernel)) ggX10_fractionOf_X10_dot
set_option maxRecDepth 20000 in
theorem ggX10_fractionOf_X10_determinant : GoodIn wsX10_fractionOf wsX10_determinant := goodIn_r _ [23, 5, 24, 25, 26, 27, 28, 29, 30, 31, 32, 33, 34, 35, 36, 37, 38, 39, 40, 41, 42, 43, 44, 45, 46, 47, 48, 49, 50, 51] (by decide +kernel) (by decide +kernel)
set_option maxRecDepth 20000 in
theorem gX10_fractionOf_X10_determinant : GoodIn wsX10_fractionOf (wsV RX10 178 RX10 yX10_determinant wsX10_determinant) := goodIn_app (goodIn_of _ (by decide +kernel)) ggX10_fractionOf_X10_determinant
theorem dX10_fractionOf_0 : decode cX10_fractionOf 0 = .ok (.aload_n 0, 1) := by decide +kernel
theorem dX10_fractionOf_1 : decode cX10_fractionOf 1 = .ok (.aload_n 0, 1) := by decide +kernel
theorem dX10_fractionOf_2 : decode cX10_fractionOf 2 = .ok (.aload_n 0, 1) := by decide +kernel
theorem dX10_fractionOf_3 : decode cX10_fractionOf 3 = .ok (.invokevirtual 182, 3) := by decide +kernel
theorem dX10_fractionOf_6 : decode cX10_fractionOf 6 = .ok (.invokevirtual 187, 3) := by decide +kernel
theorem dX10_fractionOf_9 : decode cX10_fractionOf 9 = .ok (.putfield 190, 3) := by decide +kernel
theorem dX10_fractionOf_12 : decode cX10_fractionOf 12 = .ok (.iconst 0, 1) := by decide +kernel
theorem dX10_fractionOf_13 : decode cX10_fractionOf 13 = .ok (.istore_n 2, 1) := by decide +kernel
theorem dX10_fractionOf_14 : decode cX10_fractionOf 14 = .ok (.iload_n 2, 1) := by decide +kernel
theorem dX10_fractionOf_15 : decode cX10_fractionOf 15 = .ok (.aload_n 0, 1) := by decide +kernel
theorem dX10_fractionOf_16 : decode cX10_fractionOf 16 = .ok (.getfield 13, 3) := by decide +kernel
theorem dX10_fractionOf_19 : decode cX10_fractionOf 19 = .ok (.if_icmp .ge 96, 3) := by decide +kernel
theorem dX10_fractionOf_22 : decode cX10_fractionOf 22 = .ok (.iconst 0, 1) := by decide +kernel
theorem dX10_fractionOf_23 : decode cX10_fractionOf 23 = .ok (.istore_n 3, 1) := by decide +kernel
theorem dX10_fractionOf_24 : decode cX10_fractionOf 24 = .ok (.iconst 0, 1) := by decide +kernel
theorem dX10_fractionOf_25 : decode cX10_fractionOf 25 = .ok (.istore 4, 2) := by decide +kernel
theorem dX10_fractionOf_27 : decode cX10_fractionOf 27 = .ok (.iload 4, 2) := by decide +kernel
theorem dX10_fractionOf_29 : decode cX10_fractionOf 29 = .ok (.iconst 5, 1) := by decide +kernel
theorem dX10_fractionOf_30 : decode cX10_fractionOf 30 = .ok (.if_icmp .ge 31, 3) := by decide +kernel
theorem dX10_fractionOf_33 : decode cX10_fractionOf 33 = .ok (.iload_n 3, 1) := by decide +kernel
theorem dX10_fractionOf_34 : decode cX10_fractionOf 34 = .ok (.aload_n 0, 1) := by decide +kernel
theorem dX10_fractionOf_35 : decode cX10_fractionOf 35 = .ok (.getfield 41, 3) := by decide +kernel
theorem dX10_fractionOf_38 : decode cX10_fractionOf 38 = .ok (.iconst 5, 1) := by decide +kernel
theorem dX10_fractionOf_39 : decode cX10_fractionOf 39 = .ok (.iload_n 2, 1) := by decide +kernel
theorem dX10_fractionOf_40 : decode cX10_fractionOf 40 = .ok (.imul, 1) := by decide +kernel
theorem dX10_fractionOf_41 : decode cX10_fractionOf 41 = .ok (.iload 4, 2) := by decide +kernel
theorem dX10_fractionOf_43 : decode cX10_fractionOf 43 = .ok (.iadd, 1) := by decide +kernel
theorem dX10_fractionOf_44 : decode cX10_fractionOf 44 = .ok (.iaload, 1) := by decide +kernel
theorem dX10_fractionOf_45 : decode cX10_fractionOf 45 = .ok (.aload_n 0, 1) := by decide +kernel
theorem dX10_fractionOf_46 : decode cX10_fractionOf 46 = .ok (.getfield 51, 3) := by decide +kernel
theorem dX10_fractionOf_49 : decode cX10_fractionOf 49 = .ok (.iload 4, 2) := by decide +kernel
theorem dX10_fractionOf_51 : decode cX10_fractionOf 51 = .ok (.iaload, 1) := by decide +kernel
theorem dX10_fractionOf_52 : decode cX10_fractionOf 52 = .ok (.imul, 1) := by decide +kernel
theorem dX10_fractionOf_53 : decode cX10_fractionOf 53 = .ok (.iadd, 1) := by decide +kernel
theorem dX10_fractionOf_54 : decode cX10_fractionOf 54 = .ok (.istore_n 3, 1) := by decide +kernel
theorem dX10_fractionOf_55 : decode cX10_fractionOf 55 = .ok (.iinc 4 1, 3) := by decide +kernel
theorem dX10_fractionOf_58 : decode cX10_fractionOf 58 = .ok (.goto (-31), 3) := by decide +kernel
theorem dX10_fractionOf_61 : decode cX10_fractionOf 61 = .ok (.iconst 0, 1) := by decide +kernel
theorem dX10_fractionOf_62 : decode cX10_fractionOf 62 = .ok (.istore 4, 2) := by decide +kernel
theorem dX10_fractionOf_64 : decode cX10_fractionOf 64 = .ok (.iload 4, 2) := by decide +kernel
theorem dX10_fractionOf_66 : decode cX10_fractionOf 66 = .ok (.aload_n 0, 1) := by decide +kernel
theorem dX10_fractionOf_67 : decode cX10_fractionOf 67 = .ok (.getfield 13, 3) := by decide +kernel
theorem dX10_fractionOf_70 : decode cX10_fractionOf 70 = .ok (.if_icmp .ge 39, 3) := by decide +kernel
theorem dX10_fractionOf_73 : decode cX10_fractionOf 73 = .ok (.aload_n 0, 1) := by decide +kernel
theorem dX10_fractionOf_74 : decode cX10_fractionOf 74 = .ok (.getfield 47, 3) := by decide +kernel
theorem dX10_fractionOf_77 : decode cX10_fractionOf 77 = .ok (.iconst 4, 1) := by decide +kernel
theorem dX10_fractionOf_78 : decode cX10_fractionOf 78 = .ok (.iload_n 2, 1) := by decide +kernel
theorem dX10_fractionOf_79 : decode cX10_fractionOf 79 = .ok (.imul, 1) := by decide +kernel
theorem dX10_fractionOf_80 : decode cX10_fractionOf 80 = .ok (.iload 4, 2) := by decide +kernel
theorem dX10_fractionOf_82 : decode cX10_fractionOf 82 = .ok (.iadd, 1) := by decide +kernel
theorem dX10_fractionOf_83 : decode cX10_fractionOf 83 = .ok (.iload 4, 2) := by decide +kernel
theorem dX10_fractionOf_85 : decode cX10_fractionOf 85 = .ok (.iload_n 1, 1) := by decide +kernel
theorem dX10_fractionOf_86 : decode cX10_fractionOf 86 = .ok (.if_icmp .ne 8, 3) := by decide +kernel
theorem dX10_fractionOf_89 : decode cX10_fractionOf 89 = .ok (.iload_n 3, 1) := by decide +kernel
theorem dX10_fractionOf_90 : decode cX10_fractionOf 90 = .ok (.i2l, 1) := by decide +kernel
theorem dX10_fractionOf_91 : decode cX10_fractionOf 91 = .ok (.goto 11, 3) := by decide +kernel
theorem dX10_fractionOf_94 : decode cX10_fractionOf 94 = .ok (.aload_n 0, 1) := by decide +kernel
theorem dX10_fractionOf_95 : decode cX10_fractionOf 95 = .ok (.iload_n 2, 1) := by decide +kernel
theorem dX10_fractionOf_96 : decode cX10_fractionOf 96 = .ok (.iload 4, 2) := by decide +kernel
theorem dX10_fractionOf_98 : decode cX10_fractionOf 98 = .ok (.invokevirtual 175, 3) := by decide +kernel
theorem dX10_fractionOf_101 : decode cX10_fractionOf 101 = .ok (.i2l, 1) := by decide +kernel
theorem dX10_fractionOf_102 : decode cX10_fractionOf 102 = .ok (.lastore, 1) := by decide +kernel
theorem dX10_fractionOf_103 : decode cX10_fractionOf 103 = .ok (.iinc 4 1, 3) := by decide +kernel
theorem dX10_fractionOf_106 : decode cX10_fractionOf 106 = .ok (.goto (-42), 3) := by decide +kernel
theorem dX10_fractionOf_109 : decode cX10_fractionOf 109 = .ok (.iinc 2 1, 3) := by decide +kernel
theorem dX10_fractionOf_112 : decode cX10_fractionOf 112 = .ok (.goto (-98), 3) := by decide +kernel
theorem dX10_fractionOf_115 : decode cX10_fractionOf 115 = .ok (.aload_n 0, 1) := by decide +kernel
theorem dX10_fractionOf_116 : decode cX10_fractionOf 116 = .ok (.aload_n 0, 1) := by decide +kernel
theorem dX10_fractionOf_117 : decode cX10_fractionOf 117 = .ok (.aload_n 0, 1) := by decide +kernel
theorem dX10_fractionOf_118 : decode cX10_fractionOf 118 = .ok (.getfield 13, 3) := by decide +kernel
theorem dX10_fractionOf_121 : decode cX10_fractionOf 121 = .ok (.invokevirtual 178, 3) := by decide +kernel
theorem dX10_fractionOf_124 : decode cX10_fractionOf 124 = .ok (.putfield 194, 3) := by decide +kernel
theorem dX10_fractionOf_127 : decode cX10_fractionOf 127 = .ok (.return_, 1) := by decide +kernel
theorem dX10_meetHeard_0 : decode cX10_meetHeard 0 = .ok (.iconst 0, 1) := by decide +kernel
theorem dX10_meetHeard_1 : decode cX10_meetHeard 1 = .ok (.istore_n 1, 1) := by decide +kernel
theorem dX10_meetHeard_2 : decode cX10_meetHeard 2 = .ok (.iload_n 1, 1) := by decide +kernel
theorem dX10_meetHeard_3 : decode cX10_meetHeard 3 = .ok (.iconst 5, 1) := by decide +kernel
theorem dX10_meetHeard_4 : decode cX10_meetHeard 4 = .ok (.if_icmp .ge 37, 3) := by decide +kernel
theorem dX10_meetHeard_7 : decode cX10_meetHeard 7 = .ok (.aload_n 0, 1) := by decide +kernel
theorem dX10_meetHeard_8 : decode cX10_meetHeard 8 = .ok (.getfield 51, 3) := by decide +kernel
theorem dX10_meetHeard_11 : decode cX10_meetHeard 11 = .ok (.iload_n 1, 1) := by decide +kernel
theorem dX10_meetHeard_12 : decode cX10_meetHeard 12 = .ok (.iload_n 1, 1) := by decide +kernel
theorem dX10_meetHeard_13 : decode cX10_meetHeard 13 = .ok (.aload_n 0, 1) := by decide +kernel
theorem dX10_meetHeard_14 : decode cX10_meetHeard 14 = .ok (.getfield 7, 3) := by decide +kernel
theorem dX10_meetHeard_17 : decode cX10_meetHeard 17 = .ok (.if_icmp .ge 16, 3) := by decide +kernel
theorem dX10_meetHeard_20 : decode cX10_meetHeard 20 = .ok (.aload_n 0, 1) := by decide +kernel
theorem dX10_meetHeard_21 : decode cX10_meetHeard 21 = .ok (.getfield 19, 3) := by decide +kernel
theorem dX10_meetHeard_24 : decode cX10_meetHeard 24 = .ok (.iconst 5, 1) := by decide +kernel
theorem dX10_meetHeard_25 : decode cX10_meetHeard 25 = .ok (.iload_n 1, 1) := by decide +kernel
theorem dX10_meetHeard_26 : decode cX10_meetHeard 26 = .ok (.imul, 1) := by decide +kernel
theorem dX10_meetHeard_27 : decode cX10_meetHeard 27 = .ok (.iconst 4, 1) := by decide +kernel
theorem dX10_meetHeard_28 : decode cX10_meetHeard 28 = .ok (.iadd, 1) := by decide +kernel
theorem dX10_meetHeard_29 : decode cX10_meetHeard 29 = .ok (.iaload, 1) := by decide +kernel
theorem dX10_meetHeard_30 : decode cX10_meetHeard 30 = .ok (.goto 4, 3) := by decide +kernel
theorem dX10_meetHeard_33 : decode cX10_meetHeard 33 = .ok (.iconst 0, 1) := by decide +kernel
theorem dX10_meetHeard_34 : decode cX10_meetHeard 34 = .ok (.iastore, 1) := by decide +kernel
theorem dX10_meetHeard_35 : decode cX10_meetHeard 35 = .ok (.iinc 1 1, 3) := by decide +kernel
theorem dX10_meetHeard_38 : decode cX10_meetHeard 38 = .ok (.goto (-36), 3) := by decide +kernel
theorem dX10_meetHeard_41 : decode cX10_meetHeard 41 = .ok (.return_, 1) := by decide +kernel
theorem dX10_nearestLetter_0 : decode cX10_nearestLetter 0 = .ok (.iconst 1, 1) := by decide +kernel
theorem dX10_nearestLetter_1 : decode cX10_nearestLetter 1 = .ok (.aload_n 0, 1) := by decide +kernel
theorem dX10_nearestLetter_2 : decode cX10_nearestLetter 2 = .ok (.getfield 16, 3) := by decide +kernel
theorem dX10_nearestLetter_5 : decode cX10_nearestLetter 5 = .ok (.isub, 1) := by decide +kernel
theorem dX10_nearestLetter_6 : decode cX10_nearestLetter 6 = .ok (.istore 5, 2) := by decide +kernel
theorem dX10_nearestLetter_8 : decode cX10_nearestLetter 8 = .ok (.iconst 3, 1) := by decide +kernel
theorem dX10_nearestLetter_9 : decode cX10_nearestLetter 9 = .ok (.aload_n 0, 1) := by decide +kernel
theorem dX10_nearestLetter_10 : decode cX10_nearestLetter 10 = .ok (.getfield 16, 3) := by decide +kernel
theorem dX10_nearestLetter_13 : decode cX10_nearestLetter 13 = .ok (.isub, 1) := by decide +kernel
theorem dX10_nearestLetter_14 : decode cX10_nearestLetter 14 = .ok (.istore 6, 2) := by decide +kernel
theorem dX10_nearestLetter_16 : decode cX10_nearestLetter 16 = .ok (.iload 6, 2) := by decide +kernel
theorem dX10_nearestLetter_18 : decode cX10_nearestLetter 18 = .ok (.aload_n 0, 1) := by decide +kernel
theorem dX10_nearestLetter_19 : decode cX10_nearestLetter 19 = .ok (.getfield 16, 3) := by decide +kernel
theorem dX10_nearestLetter_22 : decode cX10_nearestLetter 22 = .ok (.if_icmp .ge 72, 3) := by decide +kernel
theorem dX10_nearestLetter_25 : decode cX10_nearestLetter 25 = .ok (.lload_n 1, 1) := by decide +kernel
theorem dX10_nearestLetter_26 : decode cX10_nearestLetter 26 = .ok (.iload 6, 2) := by decide +kernel
theorem dX10_nearestLetter_28 : decode cX10_nearestLetter 28 = .ok (.i2l, 1) := by decide +kernel
theorem dX10_nearestLetter_29 : decode cX10_nearestLetter 29 = .ok (.lload_n 3, 1) := by decide +kernel
theorem dX10_nearestLetter_30 : decode cX10_nearestLetter 30 = .ok (.lmul, 1) := by decide +kernel
theorem dX10_nearestLetter_31 : decode cX10_nearestLetter 31 = .ok (.lsub, 1) := by decide +kernel
theorem dX10_nearestLetter_32 : decode cX10_nearestLetter 32 = .ok (.lstore 7, 2) := by decide +kernel
theorem dX10_nearestLetter_34 : decode cX10_nearestLetter 34 = .ok (.lload_n 1, 1) := by decide +kernel
theorem dX10_nearestLetter_35 : decode cX10_nearestLetter 35 = .ok (.iload 5, 2) := by decide +kernel
theorem dX10_nearestLetter_37 : decode cX10_nearestLetter 37 = .ok (.i2l, 1) := by decide +kernel
theorem dX10_nearestLetter_38 : decode cX10_nearestLetter 38 = .ok (.lload_n 3, 1) := by decide +kernel
theorem dX10_nearestLetter_39 : decode cX10_nearestLetter 39 = .ok (.lmul, 1) := by decide +kernel
theorem dX10_nearestLetter_40 : decode cX10_nearestLetter 40 = .ok (.lsub, 1) := by decide +kernel
theorem dX10_nearestLetter_41 : decode cX10_nearestLetter 41 = .ok (.lstore 9, 2) := by decide +kernel
theorem dX10_nearestLetter_43 : decode cX10_nearestLetter 43 = .ok (.lload 7, 2) := by decide +kernel
theorem dX10_nearestLetter_45 : decode cX10_nearestLetter 45 = .ok (.lconst 0, 1) := by decide +kernel
theorem dX10_nearestLetter_46 : decode cX10_nearestLetter 46 = .ok (.lcmp, 1) := by decide +kernel
theorem dX10_nearestLetter_47 : decode cX10_nearestLetter 47 = .ok (.ifCond .ge 10, 3) := by decide +kernel
theorem dX10_nearestLetter_50 : decode cX10_nearestLetter 50 = .ok (.lconst 0, 1) := by decide +kernel
theorem dX10_nearestLetter_51 : decode cX10_nearestLetter 51 = .ok (.lload 7, 2) := by decide +kernel
theorem dX10_nearestLetter_53 : decode cX10_nearestLetter 53 = .ok (.lsub, 1) := by decide +kernel
theorem dX10_nearestLetter_54 : decode cX10_nearestLetter 54 = .ok (.goto 5, 3) := by decide +kernel
theorem dX10_nearestLetter_57 : decode cX10_nearestLetter 57 = .ok (.lload 7, 2) := by decide +kernel
theorem dX10_nearestLetter_59 : decode cX10_nearestLetter 59 = .ok (.lload 9, 2) := by decide +kernel
theorem dX10_nearestLetter_61 : decode cX10_nearestLetter 61 = .ok (.lconst 0, 1) := by decide +kernel
theorem dX10_nearestLetter_62 : decode cX10_nearestLetter 62 = .ok (.lcmp, 1) := by decide +kernel
theorem dX10_nearestLetter_63 : decode cX10_nearestLetter 63 = .ok (.ifCond .ge 10, 3) := by decide +kernel
theorem dX10_nearestLetter_66 : decode cX10_nearestLetter 66 = .ok (.lconst 0, 1) := by decide +kernel
theorem dX10_nearestLetter_67 : decode cX10_nearestLetter 67 = .ok (.lload 9, 2) := by decide +kernel
theorem dX10_nearestLetter_69 : decode cX10_nearestLetter 69 = .ok (.lsub, 1) := by decide +kernel
theorem dX10_nearestLetter_70 : decode cX10_nearestLetter 70 = .ok (.goto 5, 3) := by decide +kernel
theorem dX10_nearestLetter_73 : decode cX10_nearestLetter 73 = .ok (.lload 9, 2) := by decide +kernel
theorem dX10_nearestLetter_75 : decode cX10_nearestLetter 75 = .ok (.lcmp, 1) := by decide +kernel
theorem dX10_nearestLetter_76 : decode cX10_nearestLetter 76 = .ok (.ifCond .ge 8, 3) := by decide +kernel
theorem dX10_nearestLetter_79 : decode cX10_nearestLetter 79 = .ok (.iload 6, 2) := by decide +kernel
theorem dX10_nearestLetter_81 : decode cX10_nearestLetter 81 = .ok (.goto 5, 3) := by decide +kernel
theorem dX10_nearestLetter_84 : decode cX10_nearestLetter 84 = .ok (.iload 5, 2) := by decide +kernel
theorem dX10_nearestLetter_86 : decode cX10_nearestLetter 86 = .ok (.istore 5, 2) := by decide +kernel
theorem dX10_nearestLetter_88 : decode cX10_nearestLetter 88 = .ok (.iinc 6 2, 3) := by decide +kernel
theorem dX10_nearestLetter_91 : decode cX10_nearestLetter 91 = .ok (.goto (-75), 3) := by decide +kernel
theorem dX10_nearestLetter_94 : decode cX10_nearestLetter 94 = .ok (.iload 5, 2) := by decide +kernel
theorem dX10_nearestLetter_96 : decode cX10_nearestLetter 96 = .ok (.ireturn, 1) := by decide +kernel
set_option maxRecDepth 20000 in
theorem ggX10_undone_X10_lay : GoodIn wsX10_undone wsX10_lay := goodIn_r _ [9, 10, 1, 11, 12, 13, 49, 50, 51, 52, 53, 54, 55, 56, 57, 58, 59, 60, 61, 62, 63, 64, 65, 66, 67, 68, 69, 70, 71, 72, 73, 74, 75, 76] (by decide +kernel) (by decide +kernel)
set_option maxRecDepth 20000 in
theorem gX10_undone_X10_lay : GoodIn wsX10_undone (wsV RX10 172 RX10 yX10_lay wsX10_lay) := goodIn_app (goodIn_of _ (by decide +kernel)) ggX10_undone_X10_lay
set_option maxRecDepth 20000 in
theorem ggX10_undone_X10_whole : GoodIn wsX10_undone wsX10_whole := goodIn_r _ [17, 1, 49, 50, 51, 52, 53, 54, 55, 56, 57, 58, 59, 60, 61, 62, 63, 64, 65, 66, 67, 68, 69, 70, 71, 72, 73, 74, 75, 76] (by decide +kernel) (by decide +kernel)
set_option maxRecDepth 20000 in
theorem gX10_undone_X10_whole : GoodIn wsX10_undone (wsV RX10 182 RX10 yX10_whole wsX10_whole) := goodIn_app (goodIn_of _ (by decide +kernel)) ggX10_undone_X10_whole
set_option maxRecDepth 20000 in
theorem ggX10_undone_X10_worthOf : GoodIn wsX10_undone wsX10_worthOf := goodIn_r _ [21, 1, 22, 23, 24, 25, 8, 26, 10, 27, 28, 29, 30, 49, 50, 51, 52, 53, 54, 55, 56, 57, 58, 59, 60, 61, 62, 63, 64, 65, 66, 67, 68, 69, 70, 71, 72, 73, 74, 75, 76] (by decide +kernel) (by decide +kernel)
set_option maxRecDepth 20000 in
theorem gX10_undone_X10_worthOf : GoodIn wsX10_undone (wsV RX10 187 RX10 yX10_worthOf wsX10_worthOf) := goodIn_app (goodIn_of _ (by decide +kernel)) ggX10_undone_X10_worthOf
set_option maxRecDepth 20000 in
theorem ggX10_undone_X10_meetHeard : GoodIn wsX10_undone wsX10_meetHeard := goodIn_r _ [34, 35, 11, 12, 49, 50, 51, 52, 53, 54, 55, 56, 57, 58, 59, 60, 61, 62, 63, 64, 65, 66, 67, 68, 69, 70, 71, 72, 73, 74, 75, 76] (by decide +kernel) (by decide +kernel)
set_option maxRecDepth 20000 in
theorem gX10_undone_X10_meetHeard : GoodIn wsX10_undone (wsV RX10 197 RX10 yX10_meetHeard wsX10_meetHeard) := goodIn_app (goodIn_of _ (by decide +kernel)) ggX10_undone_X10_meetHeard
set_option maxRecDepth 20000 in
theorem ggX10_undone_X10_fractionOf : GoodIn wsX10_undone wsX10_fractionOf := goodIn_r _ [39, 4, 1, 10, 35, 22, 3, 14, 15, 16, 8, 17, 18, 19, 20, 21, 23, 24, 25, 26, 27, 28, 29, 30, 49, 50, 51, 52, 53, 54, 55, 56, 57, 58, 59, 60, 61, 62, 63, 64, 65, 66, 67, 68, 69, 70, 71, 72, 73, 74, 75, 76] (by decide +kernel) (by decide +kernel)
set_option maxRecDepth 20000 in
theorem gX10_undone_X10_fractionOf : GoodIn wsX10_undone (wsV RX10 200 RX10 yX10_fractionOf wsX10_fractionOf) := goodIn_app (goodIn_of _ (by decide +kernel)) ggX10_undone_X10_fractionOf
set_option maxRecDepth 20000 in
theorem ggX10_undone_X10_nearestLetter : GoodIn wsX10_undone wsX10_nearestLetter := goodIn_r _ [43, 44, 49, 50, 51, 52, 53, 54, 55, 56, 57, 58, 59, 60, 61, 62, 63, 64, 65, 66, 67, 68, 69, 70, 71, 72, 73, 74, 75, 76] (by decide +kernel) (by decide +kernel)
set_option maxRecDepth 20000 in
theorem gX10_undone_X10_nearestLetter : GoodIn wsX10_undone (wsV RX10 203 RX10 yX10_nearestLetter wsX10_nearestLetter) := goodIn_app (goodIn_of _ (by decide +kernel)) ggX10_undone_X10_nearestLetter
set_option maxRecDepth 20000 in
theorem ggX10_undone_X10_numberOf : GoodIn wsX10_undone wsX10_numberOf := goodIn_r _ [48, 1, 44, 49, 50, 51, 52, 53, 54, 55, 56, 57, 58, 59, 60, 61, 62, 63, 64, 65, 66, 67, 68, 69, 70, 71, 72, 73, 74, 75, 76] (by decide +kernel) (by decide +kernel)
set_option maxRecDepth 20000 in
theorem gX10_undone_X10_numberOf : GoodIn wsX10_undone (wsV RX10 207 RX10 yX10_numberOf wsX10_numberOf) := goodIn_app (goodIn_of _ (by decide +kernel)) ggX10_undone_X10_numberOf
theorem dX10_undone_0 : decode cX10_undone 0 = .ok (.aload_n 0, 1) := by decide +kernel
theorem dX10_undone_1 : decode cX10_undone 1 = .ok (.invokevirtual 172, 3) := by decide +kernel
theorem dX10_undone_4 : decode cX10_undone 4 = .ok (.aload_n 0, 1) := by decide +kernel
theorem dX10_undone_5 : decode cX10_undone 5 = .ok (.aload_n 0, 1) := by decide +kernel
theorem dX10_undone_6 : decode cX10_undone 6 = .ok (.invokevirtual 182, 3) := by decide +kernel
theorem dX10_undone_9 : decode cX10_undone 9 = .ok (.invokevirtual 187, 3) := by decide +kernel
theorem dX10_undone_12 : decode cX10_undone 12 = .ok (.lconst 0, 1) := by decide +kernel
theorem dX10_undone_13 : decode cX10_undone 13 = .ok (.lcmp, 1) := by decide +kernel
theorem dX10_undone_14 : decode cX10_undone 14 = .ok (.ifCond .ne 6, 3) := by decide +kernel
theorem dX10_undone_17 : decode cX10_undone 17 = .ok (.bipush (-2), 2) := by decide +kernel
theorem dX10_undone_19 : decode cX10_undone 19 = .ok (.ireturn, 1) := by decide +kernel
theorem dX10_undone_20 : decode cX10_undone 20 = .ok (.aload_n 0, 1) := by decide +kernel
theorem dX10_undone_21 : decode cX10_undone 21 = .ok (.invokevirtual 197, 3) := by decide +kernel
theorem dX10_undone_24 : decode cX10_undone 24 = .ok (.iconst 0, 1) := by decide +kernel
theorem dX10_undone_25 : decode cX10_undone 25 = .ok (.istore_n 1, 1) := by decide +kernel
theorem dX10_undone_26 : decode cX10_undone 26 = .ok (.iload_n 1, 1) := by decide +kernel
theorem dX10_undone_27 : decode cX10_undone 27 = .ok (.aload_n 0, 1) := by decide +kernel
theorem dX10_undone_28 : decode cX10_undone 28 = .ok (.getfield 13, 3) := by decide +kernel
theorem dX10_undone_31 : decode cX10_undone 31 = .ok (.if_icmp .ge 32, 3) := by decide +kernel
theorem dX10_undone_34 : decode cX10_undone 34 = .ok (.aload_n 0, 1) := by decide +kernel
theorem dX10_undone_35 : decode cX10_undone 35 = .ok (.iload_n 1, 1) := by decide +kernel
theorem dX10_undone_36 : decode cX10_undone 36 = .ok (.invokevirtual 200, 3) := by decide +kernel
theorem dX10_undone_39 : decode cX10_undone 39 = .ok (.aload_n 0, 1) := by decide +kernel
theorem dX10_undone_40 : decode cX10_undone 40 = .ok (.getfield 54, 3) := by decide +kernel
theorem dX10_undone_43 : decode cX10_undone 43 = .ok (.iload_n 1, 1) := by decide +kernel
theorem dX10_undone_44 : decode cX10_undone 44 = .ok (.aload_n 0, 1) := by decide +kernel
theorem dX10_undone_45 : decode cX10_undone 45 = .ok (.aload_n 0, 1) := by decide +kernel
theorem dX10_undone_46 : decode cX10_undone 46 = .ok (.getfield 194, 3) := by decide +kernel
theorem dX10_undone_49 : decode cX10_undone 49 = .ok (.aload_n 0, 1) := by decide +kernel
theorem dX10_undone_50 : decode cX10_undone 50 = .ok (.getfield 190, 3) := by decide +kernel
theorem dX10_undone_53 : decode cX10_undone 53 = .ok (.invokevirtual 203, 3) := by decide +kernel
theorem dX10_undone_56 : decode cX10_undone 56 = .ok (.iastore, 1) := by decide +kernel
theorem dX10_undone_57 : decode cX10_undone 57 = .ok (.iinc 1 1, 3) := by decide +kernel
theorem dX10_undone_60 : decode cX10_undone 60 = .ok (.goto (-34), 3) := by decide +kernel
theorem dX10_undone_63 : decode cX10_undone 63 = .ok (.aload_n 0, 1) := by decide +kernel
theorem dX10_undone_64 : decode cX10_undone 64 = .ok (.aload_n 0, 1) := by decide +kernel
theorem dX10_undone_65 : decode cX10_undone 65 = .ok (.getfield 54, 3) := by decide +kernel
theorem dX10_undone_68 : decode cX10_undone 68 = .ok (.invokevirtual 207, 3) := by decide +kernel
theorem dX10_undone_71 : decode cX10_undone 71 = .ok (.ireturn, 1) := by decide +kernel
theorem dX10_common_0 : decode cX10_common 0 = .ok (.lload_n 0, 1) := by decide +kernel
theorem dX10_common_1 : decode cX10_common 1 = .ok (.lconst 0, 1) := by decide +kernel
theorem dX10_common_2 : decode cX10_common 2 = .ok (.lcmp, 1) := by decide +kernel
theorem dX10_common_3 : decode cX10_common 3 = .ok (.ifCond .ge 9, 3) := by decide +kernel
theorem dX10_common_6 : decode cX10_common 6 = .ok (.lconst 0, 1) := by decide +kernel
theorem dX10_common_7 : decode cX10_common 7 = .ok (.lload_n 0, 1) := by decide +kernel
theorem dX10_common_8 : decode cX10_common 8 = .ok (.lsub, 1) := by decide +kernel
theorem dX10_common_9 : decode cX10_common 9 = .ok (.goto 4, 3) := by decide +kernel
theorem dX10_common_12 : decode cX10_common 12 = .ok (.lload_n 0, 1) := by decide +kernel
theorem dX10_common_13 : decode cX10_common 13 = .ok (.lstore 4, 2) := by decide +kernel
theorem dX10_common_15 : decode cX10_common 15 = .ok (.lload_n 2, 1) := by decide +kernel
theorem dX10_common_16 : decode cX10_common 16 = .ok (.lconst 0, 1) := by decide +kernel
theorem dX10_common_17 : decode cX10_common 17 = .ok (.lcmp, 1) := by decide +kernel
theorem dX10_common_18 : decode cX10_common 18 = .ok (.ifCond .ge 9, 3) := by decide +kernel
theorem dX10_common_21 : decode cX10_common 21 = .ok (.lconst 0, 1) := by decide +kernel
theorem dX10_common_22 : decode cX10_common 22 = .ok (.lload_n 2, 1) := by decide +kernel
theorem dX10_common_23 : decode cX10_common 23 = .ok (.lsub, 1) := by decide +kernel
theorem dX10_common_24 : decode cX10_common 24 = .ok (.goto 4, 3) := by decide +kernel
theorem dX10_common_27 : decode cX10_common 27 = .ok (.lload_n 2, 1) := by decide +kernel
theorem dX10_common_28 : decode cX10_common 28 = .ok (.lstore 6, 2) := by decide +kernel
theorem dX10_common_30 : decode cX10_common 30 = .ok (.lload 6, 2) := by decide +kernel
theorem dX10_common_32 : decode cX10_common 32 = .ok (.lconst 0, 1) := by decide +kernel
theorem dX10_common_33 : decode cX10_common 33 = .ok (.lcmp, 1) := by decide +kernel
theorem dX10_common_34 : decode cX10_common 34 = .ok (.ifCond .eq 21, 3) := by decide +kernel
theorem dX10_common_37 : decode cX10_common 37 = .ok (.lload 4, 2) := by decide +kernel
theorem dX10_common_39 : decode cX10_common 39 = .ok (.lload 6, 2) := by decide +kernel
theorem dX10_common_41 : decode cX10_common 41 = .ok (.lrem, 1) := by decide +kernel
theorem dX10_common_42 : decode cX10_common 42 = .ok (.lstore 8, 2) := by decide +kernel
theorem dX10_common_44 : decode cX10_common 44 = .ok (.lload 6, 2) := by decide +kernel
theorem dX10_common_46 : decode cX10_common 46 = .ok (.lstore 4, 2) := by decide +kernel
theorem dX10_common_48 : decode cX10_common 48 = .ok (.lload 8, 2) := by decide +kernel
theorem dX10_common_50 : decode cX10_common 50 = .ok (.lstore 6, 2) := by decide +kernel
theorem dX10_common_52 : decode cX10_common 52 = .ok (.goto (-22), 3) := by decide +kernel
theorem dX10_common_55 : decode cX10_common 55 = .ok (.lload 4, 2) := by decide +kernel
theorem dX10_common_57 : decode cX10_common 57 = .ok (.lreturn, 1) := by decide +kernel
set_option maxRecDepth 20000 in
theorem ggX10_fraction_X10_isColumn : GoodIn wsX10_fraction wsX10_isColumn := goodIn_r _ [9, 10, 11, 12, 8, 13, 51, 52, 53, 54, 55, 56, 57, 58, 59, 60, 61, 62, 63, 64, 65, 66, 67, 68, 69, 70, 71, 72, 73, 74, 75, 76, 77, 78] (by decide +kernel) (by decide +kernel)
set_option maxRecDepth 20000 in
theorem gX10_fraction_X10_isColumn : GoodIn wsX10_fraction (wsV RX10 90 RX10 yX10_isColumn wsX10_isColumn) := goodIn_app (goodIn_of _ (by decide +kernel)) ggX10_fraction_X10_isColumn
set_option maxRecDepth 20000 in
theorem ggX10_fraction_X10_in : GoodIn wsX10_fraction wsX10_in := goodIn_r _ [13] (by decide +kernel) (by decide +kernel)
set_option maxRecDepth 20000 in
theorem gX10_fraction_X10_in : GoodIn wsX10_fraction (va_wsS RX10 77 yX10_in wsX10_in) := goodIn_app (goodIn_of _ (by decide +kernel)) ggX10_fraction_X10_in
set_option maxRecDepth 20000 in
theorem ggX10_fraction_X10_lay : GoodIn wsX10_fraction wsX10_lay := goodIn_r _ [17, 18, 10, 19, 20, 21, 51, 52, 53, 54, 55, 56, 57, 58, 59, 60, 61, 62, 63, 64, 65, 66, 67, 68, 69, 70, 71, 72, 73, 74, 75, 76, 77, 78] (by decide +kernel) (by decide +kernel)
set_option maxRecDepth 20000 in
theorem gX10_fraction_X10_lay : GoodIn wsX10_fraction (wsV RX10 172 RX10 yX10_lay wsX10_lay) := goodIn_app (goodIn_of _ (by decide +kernel)) ggX10_fraction_X10_lay
set_option maxRecDepth 20000 in
theorem ggX10_fraction_X10_whole : GoodIn wsX10_fraction wsX10_whole := goodIn_r _ [25, 10, 51, 52, 53, 54, 55, 56, 57, 58, 59, 60, 61, 62, 63, 64, 65, 66, 67, 68, 69, 70, 71, 72, 73, 74, 75, 76, 77, 78] (by decide +kernel) (by decide +kernel)
set_option maxRecDepth 20000 in
theorem gX10_fraction_X10_whole : GoodIn wsX10_fraction (wsV RX10 182 RX10 yX10_whole wsX10_whole) := goodIn_app (goodIn_of _ (by decide +kernel)) ggX10_fraction_X10_whole
set_option maxRecDepth 20000 in
theorem ggX10_fraction_X10_worthOf : GoodIn wsX10_fraction wsX10_worthOf := goodIn_r _ [29, 10, 30, 31, 32, 33, 8, 34, 18, 35, 36, 37, 38, 51, 52, 53, 54, 55, 56, 57, 58, 59, 60, 61, 62, 63, 64, 65, 66, 67, 68, 69, 70, 71, 72, 73, 74, 75, 76, 77, 78] (by decide +kernel) (by decide +kernel)
set_option maxRecDepth 20000 in
theorem gX10_fraction_X10_worthOf : GoodIn wsX10_fraction (wsV RX10 187 RX10 yX10_worthOf wsX10_worthOf) := goodIn_app (goodIn_of _ (by decide +kernel)) ggX10_fraction_X10_worthOf
set_option maxRecDepth 20000 in
theorem ggX10_fraction_X10_meetHeard : GoodIn wsX10_fraction wsX10_meetHeard := goodIn_r _ [42, 43, 19, 20, 51, 52, 53, 54, 55, 56, 57, 58, 59, 60, 61, 62, 63, 64, 65, 66, 67, 68, 69, 70, 71, 72, 73, 74, 75, 76, 77, 78] (by decide +kernel) (by decide +kernel)
set_option maxRecDepth 20000 in
theorem gX10_fraction_X10_meetHeard : GoodIn wsX10_fraction (wsV RX10 197 RX10 yX10_meetHeard wsX10_meetHeard) := goodIn_app (goodIn_of _ (by decide +kernel)) ggX10_fraction_X10_meetHeard
set_option maxRecDepth 20000 in
theorem ggX10_fraction_X10_fractionOf : GoodIn wsX10_fraction wsX10_fractionOf := goodIn_r _ [47, 4, 10, 18, 43, 30, 3, 22, 23, 24, 8, 25, 26, 27, 28, 29, 31, 32, 33, 34, 35, 36, 37, 38, 51, 52, 53, 54, 55, 56, 57, 58, 59, 60, 61, 62, 63, 64, 65, 66, 67, 68, 69, 70, 71, 72, 73, 74, 75, 76, 77, 78] (by decide +kernel) (by decide +kernel)
set_option maxRecDepth 20000 in
theorem gX10_fraction_X10_fractionOf : GoodIn wsX10_fraction (wsV RX10 200 RX10 yX10_fractionOf wsX10_fractionOf) := goodIn_app (goodIn_of _ (by decide +kernel)) ggX10_fraction_X10_fractionOf
set_option maxRecDepth 20000 in
theorem ggX10_fraction_X10_common : GoodIn wsX10_fraction wsX10_common := goodIn_r _ [50] (by decide +kernel) (by decide +kernel)
set_option maxRecDepth 20000 in
theorem gX10_fraction_X10_common : GoodIn wsX10_fraction (va_wsS RX10 215 yX10_common wsX10_common) := goodIn_app (goodIn_of _ (by decide +kernel)) ggX10_fraction_X10_common
theorem dX10_fraction_0 : decode cX10_fraction 0 = .ok (.aload_n 0, 1) := by decide +kernel
theorem dX10_fraction_1 : decode cX10_fraction 1 = .ok (.iload_n 1, 1) := by decide +kernel
theorem dX10_fraction_2 : decode cX10_fraction 2 = .ok (.invokevirtual 90, 3) := by decide +kernel
theorem dX10_fraction_5 : decode cX10_fraction 5 = .ok (.ifCond .eq 13, 3) := by decide +kernel
theorem dX10_fraction_8 : decode cX10_fraction 8 = .ok (.iload_n 2, 1) := by decide +kernel
theorem dX10_fraction_9 : decode cX10_fraction 9 = .ok (.i2l, 1) := by decide +kernel
theorem dX10_fraction_10 : decode cX10_fraction 10 = .ok (.lconst 0, 1) := by decide +kernel
theorem dX10_fraction_11 : decode cX10_fraction 11 = .ok (.lconst 1, 1) := by decide +kernel
theorem dX10_fraction_12 : decode cX10_fraction 12 = .ok (.invokestatic 77, 3) := by decide +kernel
theorem dX10_fraction_15 : decode cX10_fraction 15 = .ok (.ifCond .ne 7, 3) := by decide +kernel
theorem dX10_fraction_18 : decode cX10_fraction 18 = .ok (.ldc2_w 211, 3) := by decide +kernel
theorem dX10_fraction_21 : decode cX10_fraction 21 = .ok (.lreturn, 1) := by decide +kernel
theorem dX10_fraction_22 : decode cX10_fraction 22 = .ok (.aload_n 0, 1) := by decide +kernel
theorem dX10_fraction_23 : decode cX10_fraction 23 = .ok (.invokevirtual 172, 3) := by decide +kernel
theorem dX10_fraction_26 : decode cX10_fraction 26 = .ok (.aload_n 0, 1) := by decide +kernel
theorem dX10_fraction_27 : decode cX10_fraction 27 = .ok (.aload_n 0, 1) := by decide +kernel
theorem dX10_fraction_28 : decode cX10_fraction 28 = .ok (.invokevirtual 182, 3) := by decide +kernel
theorem dX10_fraction_31 : decode cX10_fraction 31 = .ok (.invokevirtual 187, 3) := by decide +kernel
theorem dX10_fraction_34 : decode cX10_fraction 34 = .ok (.lconst 0, 1) := by decide +kernel
theorem dX10_fraction_35 : decode cX10_fraction 35 = .ok (.lcmp, 1) := by decide +kernel
theorem dX10_fraction_36 : decode cX10_fraction 36 = .ok (.ifCond .ne 7, 3) := by decide +kernel
theorem dX10_fraction_39 : decode cX10_fraction 39 = .ok (.ldc2_w 213, 3) := by decide +kernel
theorem dX10_fraction_42 : decode cX10_fraction 42 = .ok (.lreturn, 1) := by decide +kernel
theorem dX10_fraction_43 : decode cX10_fraction 43 = .ok (.aload_n 0, 1) := by decide +kernel
theorem dX10_fraction_44 : decode cX10_fraction 44 = .ok (.invokevirtual 197, 3) := by decide +kernel
theorem dX10_fraction_47 : decode cX10_fraction 47 = .ok (.aload_n 0, 1) := by decide +kernel
theorem dX10_fraction_48 : decode cX10_fraction 48 = .ok (.iload_n 1, 1) := by decide +kernel
theorem dX10_fraction_49 : decode cX10_fraction 49 = .ok (.invokevirtual 200, 3) := by decide +kernel
theorem dX10_fraction_52 : decode cX10_fraction 52 = .ok (.aload_n 0, 1) := by decide +kernel
theorem dX10_fraction_53 : decode cX10_fraction 53 = .ok (.getfield 194, 3) := by decide +kernel
theorem dX10_fraction_56 : decode cX10_fraction 56 = .ok (.aload_n 0, 1) := by decide +kernel
theorem dX10_fraction_57 : decode cX10_fraction 57 = .ok (.getfield 190, 3) := by decide +kernel
theorem dX10_fraction_60 : decode cX10_fraction 60 = .ok (.invokestatic 215, 3) := by decide +kernel
theorem dX10_fraction_63 : decode cX10_fraction 63 = .ok (.lstore_n 3, 1) := by decide +kernel
theorem dX10_fraction_64 : decode cX10_fraction 64 = .ok (.iload_n 2, 1) := by decide +kernel
theorem dX10_fraction_65 : decode cX10_fraction 65 = .ok (.ifCond .ne 10, 3) := by decide +kernel
theorem dX10_fraction_68 : decode cX10_fraction 68 = .ok (.aload_n 0, 1) := by decide +kernel
theorem dX10_fraction_69 : decode cX10_fraction 69 = .ok (.getfield 194, 3) := by decide +kernel
theorem dX10_fraction_72 : decode cX10_fraction 72 = .ok (.goto 7, 3) := by decide +kernel
theorem dX10_fraction_75 : decode cX10_fraction 75 = .ok (.aload_n 0, 1) := by decide +kernel
theorem dX10_fraction_76 : decode cX10_fraction 76 = .ok (.getfield 190, 3) := by decide +kernel
theorem dX10_fraction_79 : decode cX10_fraction 79 = .ok (.lload_n 3, 1) := by decide +kernel
theorem dX10_fraction_80 : decode cX10_fraction 80 = .ok (.ldiv, 1) := by decide +kernel
theorem dX10_fraction_81 : decode cX10_fraction 81 = .ok (.lreturn, 1) := by decide +kernel
set_option maxRecDepth 20000 in
theorem ggX10_nextTaken_X10_dot : GoodIn wsX10_nextTaken wsX10_dot := goodIn_r _ [6, 7, 8, 9, 10, 11, 12, 13, 14, 15, 16, 17, 18, 19, 20, 21, 22, 23, 24, 25, 26, 27, 28, 29, 30, 31, 32, 33, 34, 35] (by decide +kernel) (by decide +kernel)
set_option maxRecDepth 20000 in
theorem gX10_nextTaken_X10_dot : GoodIn wsX10_nextTaken (wsV RX10 175 RX10 yX10_dot wsX10_dot) := goodIn_app (goodIn_of _ (by decide +kernel)) ggX10_nextTaken_X10_dot
theorem dX10_nextTaken_0 : decode cX10_nextTaken 0 = .ok (.iconst (-1), 1) := by decide +kernel
theorem dX10_nextTaken_1 : decode cX10_nextTaken 1 = .ok (.istore_n 2, 1) := by decide +kernel
theorem dX10_nextTaken_2 : decode cX10_nextTaken 2 = .ok (.iconst 0, 1) := by decide +kernel
theorem dX10_nextTaken_3 : decode cX10_nextTaken 3 = .ok (.istore_n 3, 1) := by decide +kernel
theorem dX10_nextTaken_4 : decode cX10_nextTaken 4 = .ok (.iload_n 3, 1) := by decide +kernel
theorem dX10_nextTaken_5 : decode cX10_nextTaken 5 = .ok (.aload_n 0, 1) := by decide +kernel
theorem dX10_nextTaken_6 : decode cX10_nextTaken 6 = .ok (.getfield 13, 3) := by decide +kernel
theorem dX10_nextTaken_9 : decode cX10_nextTaken 9 = .ok (.if_icmp .ge 54, 3) := by decide +kernel
theorem dX10_nextTaken_12 : decode cX10_nextTaken 12 = .ok (.iload_n 1, 1) := by decide +kernel
theorem dX10_nextTaken_13 : decode cX10_nextTaken 13 = .ok (.iload_n 3, 1) := by decide +kernel
theorem dX10_nextTaken_14 : decode cX10_nextTaken 14 = .ok (.ishr, 1) := by decide +kernel
theorem dX10_nextTaken_15 : decode cX10_nextTaken 15 = .ok (.iconst 1, 1) := by decide +kernel
theorem dX10_nextTaken_16 : decode cX10_nextTaken 16 = .ok (.iand, 1) := by decide +kernel
theorem dX10_nextTaken_17 : decode cX10_nextTaken 17 = .ok (.ifCond .ne 7, 3) := by decide +kernel
theorem dX10_nextTaken_20 : decode cX10_nextTaken 20 = .ok (.iconst 1, 1) := by decide +kernel
theorem dX10_nextTaken_21 : decode cX10_nextTaken 21 = .ok (.goto 4, 3) := by decide +kernel
theorem dX10_nextTaken_24 : decode cX10_nextTaken 24 = .ok (.iconst 0, 1) := by decide +kernel
theorem dX10_nextTaken_25 : decode cX10_nextTaken 25 = .ok (.istore 4, 2) := by decide +kernel
theorem dX10_nextTaken_27 : decode cX10_nextTaken 27 = .ok (.iload 4, 2) := by decide +kernel
theorem dX10_nextTaken_29 : decode cX10_nextTaken 29 = .ok (.ifCond .eq 26, 3) := by decide +kernel
theorem dX10_nextTaken_32 : decode cX10_nextTaken 32 = .ok (.iload_n 2, 1) := by decide +kernel
theorem dX10_nextTaken_33 : decode cX10_nextTaken 33 = .ok (.ifCond .lt 18, 3) := by decide +kernel
theorem dX10_nextTaken_36 : decode cX10_nextTaken 36 = .ok (.aload_n 0, 1) := by decide +kernel
theorem dX10_nextTaken_37 : decode cX10_nextTaken 37 = .ok (.iload_n 3, 1) := by decide +kernel
theorem dX10_nextTaken_38 : decode cX10_nextTaken 38 = .ok (.iload_n 3, 1) := by decide +kernel
theorem dX10_nextTaken_39 : decode cX10_nextTaken 39 = .ok (.invokevirtual 175, 3) := by decide +kernel
theorem dX10_nextTaken_42 : decode cX10_nextTaken 42 = .ok (.aload_n 0, 1) := by decide +kernel
theorem dX10_nextTaken_43 : decode cX10_nextTaken 43 = .ok (.iload_n 2, 1) := by decide +kernel
theorem dX10_nextTaken_44 : decode cX10_nextTaken 44 = .ok (.iload_n 2, 1) := by decide +kernel
theorem dX10_nextTaken_45 : decode cX10_nextTaken 45 = .ok (.invokevirtual 175, 3) := by decide +kernel
theorem dX10_nextTaken_48 : decode cX10_nextTaken 48 = .ok (.if_icmp .le 7, 3) := by decide +kernel
theorem dX10_nextTaken_51 : decode cX10_nextTaken 51 = .ok (.iload_n 3, 1) := by decide +kernel
theorem dX10_nextTaken_52 : decode cX10_nextTaken 52 = .ok (.goto 4, 3) := by decide +kernel
theorem dX10_nextTaken_55 : decode cX10_nextTaken 55 = .ok (.iload_n 2, 1) := by decide +kernel
theorem dX10_nextTaken_56 : decode cX10_nextTaken 56 = .ok (.istore_n 2, 1) := by decide +kernel
theorem dX10_nextTaken_57 : decode cX10_nextTaken 57 = .ok (.iinc 3 1, 3) := by decide +kernel
theorem dX10_nextTaken_60 : decode cX10_nextTaken 60 = .ok (.goto (-56), 3) := by decide +kernel
theorem dX10_nextTaken_63 : decode cX10_nextTaken 63 = .ok (.iload_n 2, 1) := by decide +kernel
theorem dX10_nextTaken_64 : decode cX10_nextTaken 64 = .ok (.ireturn, 1) := by decide +kernel
set_option maxRecDepth 20000 in
theorem ggX10_taken_X10_lay : GoodIn wsX10_taken wsX10_lay := goodIn_r _ [9, 2, 1, 10, 11, 12, 34, 35, 36, 37, 38, 39, 40, 41, 42, 43, 44, 45, 46, 47, 48, 49, 50, 51, 52, 53, 54, 55, 56, 57, 58, 59, 60, 61] (by decide +kernel) (by decide +kernel)
set_option maxRecDepth 20000 in
theorem gX10_taken_X10_lay : GoodIn wsX10_taken (wsV RX10 172 RX10 yX10_lay wsX10_lay) := goodIn_app (goodIn_of _ (by decide +kernel)) ggX10_taken_X10_lay
set_option maxRecDepth 20000 in
theorem ggX10_taken_X10_meetHeard : GoodIn wsX10_taken wsX10_meetHeard := goodIn_r _ [16, 3, 10, 11, 34, 35, 36, 37, 38, 39, 40, 41, 42, 43, 44, 45, 46, 47, 48, 49, 50, 51, 52, 53, 54, 55, 56, 57, 58, 59, 60, 61] (by decide +kernel) (by decide +kernel)
set_option maxRecDepth 20000 in
theorem gX10_taken_X10_meetHeard : GoodIn wsX10_taken (wsV RX10 197 RX10 yX10_meetHeard wsX10_meetHeard) := goodIn_app (goodIn_of _ (by decide +kernel)) ggX10_taken_X10_meetHeard
set_option maxRecDepth 20000 in
theorem ggX10_taken_X10_nextTaken : GoodIn wsX10_taken wsX10_nextTaken := goodIn_r _ [20, 1, 21, 22, 23, 8, 24, 2, 34, 35, 36, 37, 38, 39, 40, 41, 42, 43, 44, 45, 46, 47, 48, 49, 50, 51, 52, 53, 54, 55, 56, 57, 58, 59, 60, 61] (by decide +kernel) (by decide +kernel)
set_option maxRecDepth 20000 in
theorem gX10_taken_X10_nextTaken : GoodIn wsX10_taken (wsV RX10 219 RX10 yX10_nextTaken wsX10_nextTaken) := goodIn_app (goodIn_of _ (by decide +kernel)) ggX10_taken_X10_nextTaken
set_option maxRecDepth 20000 in
theorem ggX10_taken_X10_dot : GoodIn wsX10_taken wsX10_dot := goodIn_r _ [24, 2, 34, 35, 36, 37, 38, 39, 40, 41, 42, 43, 44, 45, 46, 47, 48, 49, 50, 51, 52, 53, 54, 55, 56, 57, 58, 59, 60, 61] (by decide +kernel) (by decide +kernel)
set_option maxRecDepth 20000 in
theorem gX10_taken_X10_dot : GoodIn wsX10_taken (wsV RX10 175 RX10 yX10_dot wsX10_dot) := goodIn_app (goodIn_of _ (by decide +kernel)) ggX10_taken_X10_dot
set_option maxRecDepth 20000 in
theorem ggX10_taken_X10_nearestLetter : GoodIn wsX10_taken wsX10_nearestLetter := goodIn_r _ [28, 29, 34, 35, 36, 37, 38, 39, 40, 41, 42, 43, 44, 45, 46, 47, 48, 49, 50, 51, 52, 53, 54, 55, 56, 57, 58, 59, 60, 61] (by decide +kernel) (by decide +kernel)
set_option maxRecDepth 20000 in
theorem gX10_taken_X10_nearestLetter : GoodIn wsX10_taken (wsV RX10 203 RX10 yX10_nearestLetter wsX10_nearestLetter) := goodIn_app (goodIn_of _ (by decide +kernel)) ggX10_taken_X10_nearestLetter
set_option maxRecDepth 20000 in
theorem ggX10_taken_X10_numberOf : GoodIn wsX10_taken wsX10_numberOf := goodIn_r _ [33, 1, 29, 34, 35, 36, 37, 38, 39, 40, 41, 42, 43, 44, 45, 46, 47, 48, 49, 50, 51, 52, 53, 54, 55, 56, 57, 58, 59, 60, 61] (by decide +kernel) (by decide +kernel)
set_option maxRecDepth 20000 in
theorem gX10_taken_X10_numberOf : GoodIn wsX10_taken (wsV RX10 207 RX10 yX10_numberOf wsX10_numberOf) := goodIn_app (goodIn_of _ (by decide +kernel)) ggX10_taken_X10_numberOf
theorem dX10_taken_0 : decode cX10_taken 0 = .ok (.aload_n 0, 1) := by decide +kernel
theorem dX10_taken_1 : decode cX10_taken 1 = .ok (.invokevirtual 172, 3) := by decide +kernel
theorem dX10_taken_4 : decode cX10_taken 4 = .ok (.aload_n 0, 1) := by decide +kernel
theorem dX10_taken_5 : decode cX10_taken 5 = .ok (.invokevirtual 197, 3) := by decide +kernel
theorem dX10_taken_8 : decode cX10_taken 8 = .ok (.iconst 0, 1) := by decide +kernel
theorem dX10_taken_9 : decode cX10_taken 9 = .ok (.istore_n 1, 1) := by decide +kernel
theorem dX10_taken_10 : decode cX10_taken 10 = .ok (.iconst 0, 1) := by decide +kernel
theorem dX10_taken_11 : decode cX10_taken 11 = .ok (.istore_n 2, 1) := by decide +kernel
theorem dX10_taken_12 : decode cX10_taken 12 = .ok (.iload_n 2, 1) := by decide +kernel
theorem dX10_taken_13 : decode cX10_taken 13 = .ok (.aload_n 0, 1) := by decide +kernel
theorem dX10_taken_14 : decode cX10_taken 14 = .ok (.getfield 13, 3) := by decide +kernel
theorem dX10_taken_17 : decode cX10_taken 17 = .ok (.if_icmp .ge 139, 3) := by decide +kernel
theorem dX10_taken_20 : decode cX10_taken 20 = .ok (.aload_n 0, 1) := by decide +kernel
theorem dX10_taken_21 : decode cX10_taken 21 = .ok (.iload_n 1, 1) := by decide +kernel
theorem dX10_taken_22 : decode cX10_taken 22 = .ok (.invokevirtual 219, 3) := by decide +kernel
theorem dX10_taken_25 : decode cX10_taken 25 = .ok (.istore_n 3, 1) := by decide +kernel
theorem dX10_taken_26 : decode cX10_taken 26 = .ok (.iconst 0, 1) := by decide +kernel
theorem dX10_taken_27 : decode cX10_taken 27 = .ok (.istore 4, 2) := by decide +kernel
theorem dX10_taken_29 : decode cX10_taken 29 = .ok (.iconst 0, 1) := by decide +kernel
theorem dX10_taken_30 : decode cX10_taken 30 = .ok (.istore 5, 2) := by decide +kernel
theorem dX10_taken_32 : decode cX10_taken 32 = .ok (.iload 5, 2) := by decide +kernel
theorem dX10_taken_34 : decode cX10_taken 34 = .ok (.iconst 5, 1) := by decide +kernel
theorem dX10_taken_35 : decode cX10_taken 35 = .ok (.if_icmp .ge 33, 3) := by decide +kernel
theorem dX10_taken_38 : decode cX10_taken 38 = .ok (.iload 4, 2) := by decide +kernel
theorem dX10_taken_40 : decode cX10_taken 40 = .ok (.aload_n 0, 1) := by decide +kernel
theorem dX10_taken_41 : decode cX10_taken 41 = .ok (.getfield 41, 3) := by decide +kernel
theorem dX10_taken_44 : decode cX10_taken 44 = .ok (.iconst 5, 1) := by decide +kernel
theorem dX10_taken_45 : decode cX10_taken 45 = .ok (.iload_n 3, 1) := by decide +kernel
theorem dX10_taken_46 : decode cX10_taken 46 = .ok (.imul, 1) := by decide +kernel
theorem dX10_taken_47 : decode cX10_taken 47 = .ok (.iload 5, 2) := by decide +kernel
theorem dX10_taken_49 : decode cX10_taken 49 = .ok (.iadd, 1) := by decide +kernel
theorem dX10_taken_50 : decode cX10_taken 50 = .ok (.iaload, 1) := by decide +kernel
theorem dX10_taken_51 : decode cX10_taken 51 = .ok (.aload_n 0, 1) := by decide +kernel
theorem dX10_taken_52 : decode cX10_taken 52 = .ok (.getfield 51, 3) := by decide +kernel
theorem dX10_taken_55 : decode cX10_taken 55 = .ok (.iload 5, 2) := by decide +kernel
theorem dX10_taken_57 : decode cX10_taken 57 = .ok (.iaload, 1) := by decide +kernel
theorem dX10_taken_58 : decode cX10_taken 58 = .ok (.imul, 1) := by decide +kernel
theorem dX10_taken_59 : decode cX10_taken 59 = .ok (.iadd, 1) := by decide +kernel
theorem dX10_taken_60 : decode cX10_taken 60 = .ok (.istore 4, 2) := by decide +kernel
theorem dX10_taken_62 : decode cX10_taken 62 = .ok (.iinc 5 1, 3) := by decide +kernel
theorem dX10_taken_65 : decode cX10_taken 65 = .ok (.goto (-33), 3) := by decide +kernel
theorem dX10_taken_68 : decode cX10_taken 68 = .ok (.aload_n 0, 1) := by decide +kernel
theorem dX10_taken_69 : decode cX10_taken 69 = .ok (.iload_n 3, 1) := by decide +kernel
theorem dX10_taken_70 : decode cX10_taken 70 = .ok (.iload_n 3, 1) := by decide +kernel
theorem dX10_taken_71 : decode cX10_taken 71 = .ok (.invokevirtual 175, 3) := by decide +kernel
theorem dX10_taken_74 : decode cX10_taken 74 = .ok (.istore 5, 2) := by decide +kernel
theorem dX10_taken_76 : decode cX10_taken 76 = .ok (.aload_n 0, 1) := by decide +kernel
theorem dX10_taken_77 : decode cX10_taken 77 = .ok (.getfield 54, 3) := by decide +kernel
theorem dX10_taken_80 : decode cX10_taken 80 = .ok (.iload_n 3, 1) := by decide +kernel
theorem dX10_taken_81 : decode cX10_taken 81 = .ok (.iload 5, 2) := by decide +kernel
theorem dX10_taken_83 : decode cX10_taken 83 = .ok (.ifCond .ne 7, 3) := by decide +kernel
theorem dX10_taken_86 : decode cX10_taken 86 = .ok (.iconst (-1), 1) := by decide +kernel
theorem dX10_taken_87 : decode cX10_taken 87 = .ok (.goto 13, 3) := by decide +kernel
theorem dX10_taken_90 : decode cX10_taken 90 = .ok (.aload_n 0, 1) := by decide +kernel
theorem dX10_taken_91 : decode cX10_taken 91 = .ok (.iload 4, 2) := by decide +kernel
theorem dX10_taken_93 : decode cX10_taken 93 = .ok (.i2l, 1) := by decide +kernel
theorem dX10_taken_94 : decode cX10_taken 94 = .ok (.iload 5, 2) := by decide +kernel
theorem dX10_taken_96 : decode cX10_taken 96 = .ok (.i2l, 1) := by decide +kernel
theorem dX10_taken_97 : decode cX10_taken 97 = .ok (.invokevirtual 203, 3) := by decide +kernel
theorem dX10_taken_100 : decode cX10_taken 100 = .ok (.iastore, 1) := by decide +kernel
theorem dX10_taken_101 : decode cX10_taken 101 = .ok (.iconst 0, 1) := by decide +kernel
theorem dX10_taken_102 : decode cX10_taken 102 = .ok (.istore 6, 2) := by decide +kernel
theorem dX10_taken_104 : decode cX10_taken 104 = .ok (.iload 6, 2) := by decide +kernel
theorem dX10_taken_106 : decode cX10_taken 106 = .ok (.iconst 5, 1) := by decide +kernel
theorem dX10_taken_107 : decode cX10_taken 107 = .ok (.if_icmp .ge 37, 3) := by decide +kernel
theorem dX10_taken_110 : decode cX10_taken 110 = .ok (.aload_n 0, 1) := by decide +kernel
theorem dX10_taken_111 : decode cX10_taken 111 = .ok (.getfield 51, 3) := by decide +kernel
theorem dX10_taken_114 : decode cX10_taken 114 = .ok (.iload 6, 2) := by decide +kernel
theorem dX10_taken_116 : decode cX10_taken 116 = .ok (.dup2, 1) := by decide +kernel
theorem dX10_taken_117 : decode cX10_taken 117 = .ok (.iaload, 1) := by decide +kernel
theorem dX10_taken_118 : decode cX10_taken 118 = .ok (.aload_n 0, 1) := by decide +kernel
theorem dX10_taken_119 : decode cX10_taken 119 = .ok (.getfield 54, 3) := by decide +kernel
theorem dX10_taken_122 : decode cX10_taken 122 = .ok (.iload_n 3, 1) := by decide +kernel
theorem dX10_taken_123 : decode cX10_taken 123 = .ok (.iaload, 1) := by decide +kernel
theorem dX10_taken_124 : decode cX10_taken 124 = .ok (.aload_n 0, 1) := by decide +kernel
theorem dX10_taken_125 : decode cX10_taken 125 = .ok (.getfield 41, 3) := by decide +kernel
theorem dX10_taken_128 : decode cX10_taken 128 = .ok (.iconst 5, 1) := by decide +kernel
theorem dX10_taken_129 : decode cX10_taken 129 = .ok (.iload_n 3, 1) := by decide +kernel
theorem dX10_taken_130 : decode cX10_taken 130 = .ok (.imul, 1) := by decide +kernel
theorem dX10_taken_131 : decode cX10_taken 131 = .ok (.iload 6, 2) := by decide +kernel
theorem dX10_taken_133 : decode cX10_taken 133 = .ok (.iadd, 1) := by decide +kernel
theorem dX10_taken_134 : decode cX10_taken 134 = .ok (.iaload, 1) := by decide +kernel
theorem dX10_taken_135 : decode cX10_taken 135 = .ok (.imul, 1) := by decide +kernel
theorem dX10_taken_136 : decode cX10_taken 136 = .ok (.isub, 1) := by decide +kernel
theorem dX10_taken_137 : decode cX10_taken 137 = .ok (.iastore, 1) := by decide +kernel
theorem dX10_taken_138 : decode cX10_taken 138 = .ok (.iinc 6 1, 3) := by decide +kernel
theorem dX10_taken_141 : decode cX10_taken 141 = .ok (.goto (-37), 3) := by decide +kernel
theorem dX10_taken_144 : decode cX10_taken 144 = .ok (.iload_n 1, 1) := by decide +kernel
theorem dX10_taken_145 : decode cX10_taken 145 = .ok (.iconst 1, 1) := by decide +kernel
theorem dX10_taken_146 : decode cX10_taken 146 = .ok (.iload_n 3, 1) := by decide +kernel
theorem dX10_taken_147 : decode cX10_taken 147 = .ok (.ishl, 1) := by decide +kernel
theorem dX10_taken_148 : decode cX10_taken 148 = .ok (.ior, 1) := by decide +kernel
theorem dX10_taken_149 : decode cX10_taken 149 = .ok (.istore_n 1, 1) := by decide +kernel
theorem dX10_taken_150 : decode cX10_taken 150 = .ok (.iinc 2 1, 3) := by decide +kernel
theorem dX10_taken_153 : decode cX10_taken 153 = .ok (.goto (-141), 3) := by decide +kernel
theorem dX10_taken_156 : decode cX10_taken 156 = .ok (.aload_n 0, 1) := by decide +kernel
theorem dX10_taken_157 : decode cX10_taken 157 = .ok (.aload_n 0, 1) := by decide +kernel
theorem dX10_taken_158 : decode cX10_taken 158 = .ok (.getfield 54, 3) := by decide +kernel
theorem dX10_taken_161 : decode cX10_taken 161 = .ok (.invokevirtual 207, 3) := by decide +kernel
theorem dX10_taken_164 : decode cX10_taken 164 = .ok (.ireturn, 1) := by decide +kernel
set_option maxRecDepth 20000 in
theorem ggX10_order_X10_isColumn : GoodIn wsX10_order wsX10_isColumn := goodIn_r _ [5, 6, 7, 8, 4, 9, 26, 27, 28, 29, 30, 31, 32, 33, 34, 35, 36, 37, 38, 39, 40, 41, 42, 43, 44, 45, 46, 47, 48, 49, 50, 51, 52, 53] (by decide +kernel) (by decide +kernel)
set_option maxRecDepth 20000 in
theorem gX10_order_X10_isColumn : GoodIn wsX10_order (wsV RX10 90 RX10 yX10_isColumn wsX10_isColumn) := goodIn_app (goodIn_of _ (by decide +kernel)) ggX10_order_X10_isColumn
set_option maxRecDepth 20000 in
theorem ggX10_order_X10_lay : GoodIn wsX10_order wsX10_lay := goodIn_r _ [13, 14, 6, 15, 16, 17, 26, 27, 28, 29, 30, 31, 32, 33, 34, 35, 36, 37, 38, 39, 40, 41, 42, 43, 44, 45, 46, 47, 48, 49, 50, 51, 52, 53] (by decide +kernel) (by decide +kernel)
set_option maxRecDepth 20000 in
theorem gX10_order_X10_lay : GoodIn wsX10_order (wsV RX10 172 RX10 yX10_lay wsX10_lay) := goodIn_app (goodIn_of _ (by decide +kernel)) ggX10_order_X10_lay
set_option maxRecDepth 20000 in
theorem ggX10_order_X10_nextTaken : GoodIn wsX10_order wsX10_nextTaken := goodIn_r _ [21, 6, 22, 23, 24, 4, 25, 14, 26, 27, 28, 29, 30, 31, 32, 33, 34, 35, 36, 37, 38, 39, 40, 41, 42, 43, 44, 45, 46, 47, 48, 49, 50, 51, 52, 53] (by decide +kernel) (by decide +kernel)
set_option maxRecDepth 20000 in
theorem gX10_order_X10_nextTaken : GoodIn wsX10_order (wsV RX10 219 RX10 yX10_nextTaken wsX10_nextTaken) := goodIn_app (goodIn_of _ (by decide +kernel)) ggX10_order_X10_nextTaken
theorem dX10_order_0 : decode cX10_order 0 = .ok (.aload_n 0, 1) := by decide +kernel
theorem dX10_order_1 : decode cX10_order 1 = .ok (.iload_n 1, 1) := by decide +kernel
theorem dX10_order_2 : decode cX10_order 2 = .ok (.invokevirtual 90, 3) := by decide +kernel
theorem dX10_order_5 : decode cX10_order 5 = .ok (.ifCond .ne 5, 3) := by decide +kernel
theorem dX10_order_8 : decode cX10_order 8 = .ok (.iconst (-1), 1) := by decide +kernel
theorem dX10_order_9 : decode cX10_order 9 = .ok (.ireturn, 1) := by decide +kernel
theorem dX10_order_10 : decode cX10_order 10 = .ok (.aload_n 0, 1) := by decide +kernel
theorem dX10_order_11 : decode cX10_order 11 = .ok (.invokevirtual 172, 3) := by decide +kernel
theorem dX10_order_14 : decode cX10_order 14 = .ok (.iconst 0, 1) := by decide +kernel
theorem dX10_order_15 : decode cX10_order 15 = .ok (.istore_n 2, 1) := by decide +kernel
theorem dX10_order_16 : decode cX10_order 16 = .ok (.iconst (-1), 1) := by decide +kernel
theorem dX10_order_17 : decode cX10_order 17 = .ok (.istore_n 3, 1) := by decide +kernel
theorem dX10_order_18 : decode cX10_order 18 = .ok (.iconst 0, 1) := by decide +kernel
theorem dX10_order_19 : decode cX10_order 19 = .ok (.istore 4, 2) := by decide +kernel
theorem dX10_order_21 : decode cX10_order 21 = .ok (.iload 4, 2) := by decide +kernel
theorem dX10_order_23 : decode cX10_order 23 = .ok (.iload_n 1, 1) := by decide +kernel
theorem dX10_order_24 : decode cX10_order 24 = .ok (.if_icmp .gt 21, 3) := by decide +kernel
theorem dX10_order_27 : decode cX10_order 27 = .ok (.aload_n 0, 1) := by decide +kernel
theorem dX10_order_28 : decode cX10_order 28 = .ok (.iload_n 2, 1) := by decide +kernel
theorem dX10_order_29 : decode cX10_order 29 = .ok (.invokevirtual 219, 3) := by decide +kernel
theorem dX10_order_32 : decode cX10_order 32 = .ok (.istore_n 3, 1) := by decide +kernel
theorem dX10_order_33 : decode cX10_order 33 = .ok (.iload_n 2, 1) := by decide +kernel
theorem dX10_order_34 : decode cX10_order 34 = .ok (.iconst 1, 1) := by decide +kernel
theorem dX10_order_35 : decode cX10_order 35 = .ok (.iload_n 3, 1) := by decide +kernel
theorem dX10_order_36 : decode cX10_order 36 = .ok (.ishl, 1) := by decide +kernel
theorem dX10_order_37 : decode cX10_order 37 = .ok (.ior, 1) := by decide +kernel
theorem dX10_order_38 : decode cX10_order 38 = .ok (.istore_n 2, 1) := by decide +kernel
theorem dX10_order_39 : decode cX10_order 39 = .ok (.iinc 4 1, 3) := by decide +kernel
theorem dX10_order_42 : decode cX10_order 42 = .ok (.goto (-21), 3) := by decide +kernel
theorem dX10_order_45 : decode cX10_order 45 = .ok (.iload_n 3, 1) := by decide +kernel
theorem dX10_order_46 : decode cX10_order 46 = .ok (.ireturn, 1) := by decide +kernel
theorem dX10_nearestWhole_0 : decode cX10_nearestWhole 0 = .ok (.iload_n 0, 1) := by decide +kernel
theorem dX10_nearestWhole_1 : decode cX10_nearestWhole 1 = .ok (.ifCond .ge 8, 3) := by decide +kernel
theorem dX10_nearestWhole_4 : decode cX10_nearestWhole 4 = .ok (.iload_n 0, 1) := by decide +kernel
theorem dX10_nearestWhole_5 : decode cX10_nearestWhole 5 = .ok (.ineg, 1) := by decide +kernel
theorem dX10_nearestWhole_6 : decode cX10_nearestWhole 6 = .ok (.goto 4, 3) := by decide +kernel
theorem dX10_nearestWhole_9 : decode cX10_nearestWhole 9 = .ok (.iload_n 0, 1) := by decide +kernel
theorem dX10_nearestWhole_10 : decode cX10_nearestWhole 10 = .ok (.istore_n 2, 1) := by decide +kernel
theorem dX10_nearestWhole_11 : decode cX10_nearestWhole 11 = .ok (.iconst 2, 1) := by decide +kernel
theorem dX10_nearestWhole_12 : decode cX10_nearestWhole 12 = .ok (.iload_n 2, 1) := by decide +kernel
theorem dX10_nearestWhole_13 : decode cX10_nearestWhole 13 = .ok (.imul, 1) := by decide +kernel
theorem dX10_nearestWhole_14 : decode cX10_nearestWhole 14 = .ok (.iload_n 1, 1) := by decide +kernel
theorem dX10_nearestWhole_15 : decode cX10_nearestWhole 15 = .ok (.iadd, 1) := by decide +kernel
theorem dX10_nearestWhole_16 : decode cX10_nearestWhole 16 = .ok (.iconst 1, 1) := by decide +kernel
theorem dX10_nearestWhole_17 : decode cX10_nearestWhole 17 = .ok (.isub, 1) := by decide +kernel
theorem dX10_nearestWhole_18 : decode cX10_nearestWhole 18 = .ok (.iconst 2, 1) := by decide +kernel
theorem dX10_nearestWhole_19 : decode cX10_nearestWhole 19 = .ok (.iload_n 1, 1) := by decide +kernel
theorem dX10_nearestWhole_20 : decode cX10_nearestWhole 20 = .ok (.imul, 1) := by decide +kernel
theorem dX10_nearestWhole_21 : decode cX10_nearestWhole 21 = .ok (.idiv, 1) := by decide +kernel
theorem dX10_nearestWhole_22 : decode cX10_nearestWhole 22 = .ok (.istore_n 3, 1) := by decide +kernel
theorem dX10_nearestWhole_23 : decode cX10_nearestWhole 23 = .ok (.iload_n 0, 1) := by decide +kernel
theorem dX10_nearestWhole_24 : decode cX10_nearestWhole 24 = .ok (.ifCond .ge 8, 3) := by decide +kernel
theorem dX10_nearestWhole_27 : decode cX10_nearestWhole 27 = .ok (.iload_n 3, 1) := by decide +kernel
theorem dX10_nearestWhole_28 : decode cX10_nearestWhole 28 = .ok (.ineg, 1) := by decide +kernel
theorem dX10_nearestWhole_29 : decode cX10_nearestWhole 29 = .ok (.goto 4, 3) := by decide +kernel
theorem dX10_nearestWhole_32 : decode cX10_nearestWhole 32 = .ok (.iload_n 3, 1) := by decide +kernel
theorem dX10_nearestWhole_33 : decode cX10_nearestWhole 33 = .ok (.ireturn, 1) := by decide +kernel
set_option maxRecDepth 20000 in
theorem ggX10_steps_X10_dot : GoodIn wsX10_steps wsX10_dot := goodIn_r _ [8, 2, 12, 13, 14, 15, 16, 17, 18, 19, 20, 21, 22, 23, 24, 25, 26, 27, 28, 29, 30, 31, 32, 33, 34, 35, 36, 37, 38, 39] (by decide +kernel) (by decide +kernel)
set_option maxRecDepth 20000 in
theorem gX10_steps_X10_dot : GoodIn wsX10_steps (wsV RX10 175 RX10 yX10_dot wsX10_dot) := goodIn_app (goodIn_of _ (by decide +kernel)) ggX10_steps_X10_dot
set_option maxRecDepth 20000 in
theorem ggX10_steps_X10_nearestWhole : GoodIn wsX10_steps wsX10_nearestWhole := goodIn_r _ [11] (by decide +kernel) (by decide +kernel)
set_option maxRecDepth 20000 in
theorem gX10_steps_X10_nearestWhole : GoodIn wsX10_steps (va_wsS RX10 222 yX10_nearestWhole wsX10_nearestWhole) := goodIn_app (goodIn_of _ (by decide +kernel)) ggX10_steps_X10_nearestWhole
theorem dX10_steps_0 : decode cX10_steps 0 = .ok (.iconst 0, 1) := by decide +kernel
theorem dX10_steps_1 : decode cX10_steps 1 = .ok (.istore_n 1, 1) := by decide +kernel
theorem dX10_steps_2 : decode cX10_steps 2 = .ok (.iload_n 1, 1) := by decide +kernel
theorem dX10_steps_3 : decode cX10_steps 3 = .ok (.aload_n 0, 1) := by decide +kernel
theorem dX10_steps_4 : decode cX10_steps 4 = .ok (.getfield 13, 3) := by decide +kernel
theorem dX10_steps_7 : decode cX10_steps 7 = .ok (.if_icmp .ge 164, 3) := by decide +kernel
theorem dX10_steps_10 : decode cX10_steps 10 = .ok (.iconst 0, 1) := by decide +kernel
theorem dX10_steps_11 : decode cX10_steps 11 = .ok (.istore_n 2, 1) := by decide +kernel
theorem dX10_steps_12 : decode cX10_steps 12 = .ok (.iload_n 2, 1) := by decide +kernel
theorem dX10_steps_13 : decode cX10_steps 13 = .ok (.aload_n 0, 1) := by decide +kernel
theorem dX10_steps_14 : decode cX10_steps 14 = .ok (.getfield 13, 3) := by decide +kernel
theorem dX10_steps_17 : decode cX10_steps 17 = .ok (.if_icmp .ge 148, 3) := by decide +kernel
theorem dX10_steps_20 : decode cX10_steps 20 = .ok (.aload_n 0, 1) := by decide +kernel
theorem dX10_steps_21 : decode cX10_steps 21 = .ok (.iload_n 2, 1) := by decide +kernel
theorem dX10_steps_22 : decode cX10_steps 22 = .ok (.iload_n 2, 1) := by decide +kernel
theorem dX10_steps_23 : decode cX10_steps 23 = .ok (.invokevirtual 175, 3) := by decide +kernel
theorem dX10_steps_26 : decode cX10_steps 26 = .ok (.istore_n 3, 1) := by decide +kernel
theorem dX10_steps_27 : decode cX10_steps 27 = .ok (.iload_n 1, 1) := by decide +kernel
theorem dX10_steps_28 : decode cX10_steps 28 = .ok (.iload_n 2, 1) := by decide +kernel
theorem dX10_steps_29 : decode cX10_steps 29 = .ok (.if_icmp .eq 7, 3) := by decide +kernel
theorem dX10_steps_32 : decode cX10_steps 32 = .ok (.iload_n 3, 1) := by decide +kernel
theorem dX10_steps_33 : decode cX10_steps 33 = .ok (.ifCond .ne 7, 3) := by decide +kernel
theorem dX10_steps_36 : decode cX10_steps 36 = .ok (.iconst 0, 1) := by decide +kernel
theorem dX10_steps_37 : decode cX10_steps 37 = .ok (.goto 13, 3) := by decide +kernel
theorem dX10_steps_40 : decode cX10_steps 40 = .ok (.aload_n 0, 1) := by decide +kernel
theorem dX10_steps_41 : decode cX10_steps 41 = .ok (.iload_n 1, 1) := by decide +kernel
theorem dX10_steps_42 : decode cX10_steps 42 = .ok (.iload_n 2, 1) := by decide +kernel
theorem dX10_steps_43 : decode cX10_steps 43 = .ok (.invokevirtual 175, 3) := by decide +kernel
theorem dX10_steps_46 : decode cX10_steps 46 = .ok (.iload_n 3, 1) := by decide +kernel
theorem dX10_steps_47 : decode cX10_steps 47 = .ok (.invokestatic 222, 3) := by decide +kernel
theorem dX10_steps_50 : decode cX10_steps 50 = .ok (.istore 4, 2) := by decide +kernel
theorem dX10_steps_52 : decode cX10_steps 52 = .ok (.iload 4, 2) := by decide +kernel
theorem dX10_steps_54 : decode cX10_steps 54 = .ok (.iload 4, 2) := by decide +kernel
theorem dX10_steps_56 : decode cX10_steps 56 = .ok (.iload_n 3, 1) := by decide +kernel
theorem dX10_steps_57 : decode cX10_steps 57 = .ok (.imul, 1) := by decide +kernel
theorem dX10_steps_58 : decode cX10_steps 58 = .ok (.iconst 2, 1) := by decide +kernel
theorem dX10_steps_59 : decode cX10_steps 59 = .ok (.aload_n 0, 1) := by decide +kernel
theorem dX10_steps_60 : decode cX10_steps 60 = .ok (.iload_n 1, 1) := by decide +kernel
theorem dX10_steps_61 : decode cX10_steps 61 = .ok (.iload_n 2, 1) := by decide +kernel
theorem dX10_steps_62 : decode cX10_steps 62 = .ok (.invokevirtual 175, 3) := by decide +kernel
theorem dX10_steps_65 : decode cX10_steps 65 = .ok (.imul, 1) := by decide +kernel
theorem dX10_steps_66 : decode cX10_steps 66 = .ok (.isub, 1) := by decide +kernel
theorem dX10_steps_67 : decode cX10_steps 67 = .ok (.imul, 1) := by decide +kernel
theorem dX10_steps_68 : decode cX10_steps 68 = .ok (.ifCond .ge 91, 3) := by decide +kernel
theorem dX10_steps_71 : decode cX10_steps 71 = .ok (.iconst 0, 1) := by decide +kernel
theorem dX10_steps_72 : decode cX10_steps 72 = .ok (.istore 5, 2) := by decide +kernel
theorem dX10_steps_74 : decode cX10_steps 74 = .ok (.iload 5, 2) := by decide +kernel
theorem dX10_steps_76 : decode cX10_steps 76 = .ok (.iconst 5, 1) := by decide +kernel
theorem dX10_steps_77 : decode cX10_steps 77 = .ok (.if_icmp .ge 37, 3) := by decide +kernel
theorem dX10_steps_80 : decode cX10_steps 80 = .ok (.aload_n 0, 1) := by decide +kernel
theorem dX10_steps_81 : decode cX10_steps 81 = .ok (.getfield 41, 3) := by decide +kernel
theorem dX10_steps_84 : decode cX10_steps 84 = .ok (.iconst 5, 1) := by decide +kernel
theorem dX10_steps_85 : decode cX10_steps 85 = .ok (.iload_n 1, 1) := by decide +kernel
theorem dX10_steps_86 : decode cX10_steps 86 = .ok (.imul, 1) := by decide +kernel
theorem dX10_steps_87 : decode cX10_steps 87 = .ok (.iload 5, 2) := by decide +kernel
theorem dX10_steps_89 : decode cX10_steps 89 = .ok (.iadd, 1) := by decide +kernel
theorem dX10_steps_90 : decode cX10_steps 90 = .ok (.dup2, 1) := by decide +kernel
theorem dX10_steps_91 : decode cX10_steps 91 = .ok (.iaload, 1) := by decide +kernel
theorem dX10_steps_92 : decode cX10_steps 92 = .ok (.iload 4, 2) := by decide +kernel
theorem dX10_steps_94 : decode cX10_steps 94 = .ok (.aload_n 0, 1) := by decide +kernel
theorem dX10_steps_95 : decode cX10_steps 95 = .ok (.getfield 41, 3) := by decide +kernel
theorem dX10_steps_98 : decode cX10_steps 98 = .ok (.iconst 5, 1) := by decide +kernel
theorem dX10_steps_99 : decode cX10_steps 99 = .ok (.iload_n 2, 1) := by decide +kernel
theorem dX10_steps_100 : decode cX10_steps 100 = .ok (.imul, 1) := by decide +kernel
theorem dX10_steps_101 : decode cX10_steps 101 = .ok (.iload 5, 2) := by decide +kernel
theorem dX10_steps_103 : decode cX10_steps 103 = .ok (.iadd, 1) := by decide +kernel
theorem dX10_steps_104 : decode cX10_steps 104 = .ok (.iaload, 1) := by decide +kernel
theorem dX10_steps_105 : decode cX10_steps 105 = .ok (.imul, 1) := by decide +kernel
theorem dX10_steps_106 : decode cX10_steps 106 = .ok (.isub, 1) := by decide +kernel
theorem dX10_steps_107 : decode cX10_steps 107 = .ok (.iastore, 1) := by decide +kernel
theorem dX10_steps_108 : decode cX10_steps 108 = .ok (.iinc 5 1, 3) := by decide +kernel
theorem dX10_steps_111 : decode cX10_steps 111 = .ok (.goto (-37), 3) := by decide +kernel
theorem dX10_steps_114 : decode cX10_steps 114 = .ok (.iconst 0, 1) := by decide +kernel
theorem dX10_steps_115 : decode cX10_steps 115 = .ok (.istore 5, 2) := by decide +kernel
theorem dX10_steps_117 : decode cX10_steps 117 = .ok (.iload 5, 2) := by decide +kernel
theorem dX10_steps_119 : decode cX10_steps 119 = .ok (.iconst 4, 1) := by decide +kernel
theorem dX10_steps_120 : decode cX10_steps 120 = .ok (.if_icmp .ge 37, 3) := by decide +kernel
theorem dX10_steps_123 : decode cX10_steps 123 = .ok (.aload_n 0, 1) := by decide +kernel
theorem dX10_steps_124 : decode cX10_steps 124 = .ok (.getfield 44, 3) := by decide +kernel
theorem dX10_steps_127 : decode cX10_steps 127 = .ok (.iconst 4, 1) := by decide +kernel
theorem dX10_steps_128 : decode cX10_steps 128 = .ok (.iload 5, 2) := by decide +kernel
theorem dX10_steps_130 : decode cX10_steps 130 = .ok (.imul, 1) := by decide +kernel
theorem dX10_steps_131 : decode cX10_steps 131 = .ok (.iload_n 1, 1) := by decide +kernel
theorem dX10_steps_132 : decode cX10_steps 132 = .ok (.iadd, 1) := by decide +kernel
theorem dX10_steps_133 : decode cX10_steps 133 = .ok (.dup2, 1) := by decide +kernel
theorem dX10_steps_134 : decode cX10_steps 134 = .ok (.iaload, 1) := by decide +kernel
theorem dX10_steps_135 : decode cX10_steps 135 = .ok (.iload 4, 2) := by decide +kernel
theorem dX10_steps_137 : decode cX10_steps 137 = .ok (.aload_n 0, 1) := by decide +kernel
theorem dX10_steps_138 : decode cX10_steps 138 = .ok (.getfield 44, 3) := by decide +kernel
theorem dX10_steps_141 : decode cX10_steps 141 = .ok (.iconst 4, 1) := by decide +kernel
theorem dX10_steps_142 : decode cX10_steps 142 = .ok (.iload 5, 2) := by decide +kernel
theorem dX10_steps_144 : decode cX10_steps 144 = .ok (.imul, 1) := by decide +kernel
theorem dX10_steps_145 : decode cX10_steps 145 = .ok (.iload_n 2, 1) := by decide +kernel
theorem dX10_steps_146 : decode cX10_steps 146 = .ok (.iadd, 1) := by decide +kernel
theorem dX10_steps_147 : decode cX10_steps 147 = .ok (.iaload, 1) := by decide +kernel
theorem dX10_steps_148 : decode cX10_steps 148 = .ok (.imul, 1) := by decide +kernel
theorem dX10_steps_149 : decode cX10_steps 149 = .ok (.isub, 1) := by decide +kernel
theorem dX10_steps_150 : decode cX10_steps 150 = .ok (.iastore, 1) := by decide +kernel
theorem dX10_steps_151 : decode cX10_steps 151 = .ok (.iinc 5 1, 3) := by decide +kernel
theorem dX10_steps_154 : decode cX10_steps 154 = .ok (.goto (-37), 3) := by decide +kernel
theorem dX10_steps_157 : decode cX10_steps 157 = .ok (.iconst 1, 1) := by decide +kernel
theorem dX10_steps_158 : decode cX10_steps 158 = .ok (.ireturn, 1) := by decide +kernel
theorem dX10_steps_159 : decode cX10_steps 159 = .ok (.iinc 2 1, 3) := by decide +kernel
theorem dX10_steps_162 : decode cX10_steps 162 = .ok (.goto (-150), 3) := by decide +kernel
theorem dX10_steps_165 : decode cX10_steps 165 = .ok (.iinc 1 1, 3) := by decide +kernel
theorem dX10_steps_168 : decode cX10_steps 168 = .ok (.goto (-166), 3) := by decide +kernel
theorem dX10_steps_171 : decode cX10_steps 171 = .ok (.iconst 0, 1) := by decide +kernel
theorem dX10_steps_172 : decode cX10_steps 172 = .ok (.ireturn, 1) := by decide +kernel
set_option maxRecDepth 20000 in
theorem ggX10_lead_X10_lay : GoodIn wsX10_lead wsX10_lay := goodIn_r _ [5, 6, 7, 8, 9, 10, 22, 23, 24, 25, 26, 27, 28, 29, 30, 31, 32, 33, 34, 35, 36, 37, 38, 39, 40, 41, 42, 43, 44, 45, 46, 47, 48, 49] (by decide +kernel) (by decide +kernel)
set_option maxRecDepth 20000 in
theorem gX10_lead_X10_lay : GoodIn wsX10_lead (wsV RX10 172 RX10 yX10_lay wsX10_lay) := goodIn_app (goodIn_of _ (by decide +kernel)) ggX10_lead_X10_lay
set_option maxRecDepth 20000 in
theorem ggX10_lead_X10_steps : GoodIn wsX10_lead wsX10_steps := goodIn_r _ [14, 7, 6, 10, 15, 16, 17, 4, 18, 19, 20, 21, 22, 23, 24, 25, 26, 27, 28, 29, 30, 31, 32, 33, 34, 35, 36, 37, 38, 39, 40, 41, 42, 43, 44, 45, 46, 47, 48, 49] (by decide +kernel) (by decide +kernel)
set_option maxRecDepth 20000 in
theorem gX10_lead_X10_steps : GoodIn wsX10_lead (wsV RX10 225 RX10 yX10_steps wsX10_steps) := goodIn_app (goodIn_of _ (by decide +kernel)) ggX10_lead_X10_steps
theorem dX10_lead_0 : decode cX10_lead 0 = .ok (.aload_n 0, 1) := by decide +kernel
theorem dX10_lead_1 : decode cX10_lead 1 = .ok (.invokevirtual 172, 3) := by decide +kernel
theorem dX10_lead_4 : decode cX10_lead 4 = .ok (.iconst 0, 1) := by decide +kernel
theorem dX10_lead_5 : decode cX10_lead 5 = .ok (.istore_n 1, 1) := by decide +kernel
theorem dX10_lead_6 : decode cX10_lead 6 = .ok (.aload_n 0, 1) := by decide +kernel
theorem dX10_lead_7 : decode cX10_lead 7 = .ok (.invokevirtual 225, 3) := by decide +kernel
theorem dX10_lead_10 : decode cX10_lead 10 = .ok (.ifCond .eq 9, 3) := by decide +kernel
theorem dX10_lead_13 : decode cX10_lead 13 = .ok (.iinc 1 1, 3) := by decide +kernel
theorem dX10_lead_16 : decode cX10_lead 16 = .ok (.goto (-10), 3) := by decide +kernel
theorem dX10_lead_19 : decode cX10_lead 19 = .ok (.iload_n 1, 1) := by decide +kernel
theorem dX10_lead_20 : decode cX10_lead 20 = .ok (.ireturn, 1) := by decide +kernel
set_option maxRecDepth 20000 in
theorem ggX10_led_X10_lead : GoodIn wsX10_led wsX10_lead := goodIn_r _ [5, 6, 7, 8, 4, 9, 10, 11, 12, 13, 14, 15, 16, 17, 18, 19, 20, 21, 22, 23, 24, 25, 26, 27, 28, 29, 30, 31, 32, 33, 34, 35, 36, 37, 38, 39, 40, 41, 42, 43, 44, 45, 46, 47, 48, 49, 50, 51, 52, 53] (by decide +kernel) (by decide +kernel)
set_option maxRecDepth 20000 in
theorem gX10_led_X10_lead : GoodIn wsX10_led (wsV RX10 229 RX10 yX10_lead wsX10_lead) := goodIn_app (goodIn_of _ (by decide +kernel)) ggX10_led_X10_lead
theorem dX10_led_0 : decode cX10_led 0 = .ok (.aload_n 0, 1) := by decide +kernel
theorem dX10_led_1 : decode cX10_led 1 = .ok (.invokevirtual 229, 3) := by decide +kernel
theorem dX10_led_4 : decode cX10_led 4 = .ok (.ireturn, 1) := by decide +kernel
set_option maxRecDepth 20000 in
theorem ggX10_ledAt_X10_in : GoodIn wsX10_ledAt wsX10_in := goodIn_r _ [7] (by decide +kernel) (by decide +kernel)
set_option maxRecDepth 20000 in
theorem gX10_ledAt_X10_in : GoodIn wsX10_ledAt (va_wsS RX10 77 yX10_in wsX10_in) := goodIn_app (goodIn_of _ (by decide +kernel)) ggX10_ledAt_X10_in
set_option maxRecDepth 20000 in
theorem ggX10_ledAt_X10_isColumn : GoodIn wsX10_ledAt wsX10_isColumn := goodIn_r _ [11, 12, 4, 5, 6, 7, 38, 39, 40, 41, 42, 43, 44, 45, 46, 47, 48, 49, 50, 51, 52, 53, 54, 55, 56, 57, 58, 59, 60, 61, 62, 63, 64, 65] (by decide +kernel) (by decide +kernel)
set_option maxRecDepth 20000 in
theorem gX10_ledAt_X10_isColumn : GoodIn wsX10_ledAt (wsV RX10 90 RX10 yX10_isColumn wsX10_isColumn) := goodIn_app (goodIn_of _ (by decide +kernel)) ggX10_ledAt_X10_isColumn
set_option maxRecDepth 20000 in
theorem ggX10_ledAt_X10_isRow : GoodIn wsX10_ledAt wsX10_isRow := goodIn_r _ [16, 17, 4, 5, 6, 7, 38, 39, 40, 41, 42, 43, 44, 45, 46, 47, 48, 49, 50, 51, 52, 53, 54, 55, 56, 57, 58, 59, 60, 61, 62, 63, 64, 65] (by decide +kernel) (by decide +kernel)
set_option maxRecDepth 20000 in
theorem gX10_ledAt_X10_isRow : GoodIn wsX10_ledAt (wsV RX10 86 RX10 yX10_isRow wsX10_isRow) := goodIn_app (goodIn_of _ (by decide +kernel)) ggX10_ledAt_X10_isRow
set_option maxRecDepth 20000 in
theorem ggX10_ledAt_X10_lead : GoodIn wsX10_ledAt wsX10_lead := goodIn_r _ [21, 22, 23, 24, 6, 25, 2, 12, 17, 26, 3, 27, 28, 29, 30, 31, 32, 33, 34, 35, 36, 37, 38, 39, 40, 41, 42, 43, 44, 45, 46, 47, 48, 49, 50, 51, 52, 53, 54, 55, 56, 57, 58, 59, 60, 61, 62, 63, 64, 65] (by decide +kernel) (by decide +kernel)
set_option maxRecDepth 20000 in
theorem gX10_ledAt_X10_lead : GoodIn wsX10_ledAt (wsV RX10 229 RX10 yX10_lead wsX10_lead) := goodIn_app (goodIn_of _ (by decide +kernel)) ggX10_ledAt_X10_lead
theorem dX10_ledAt_0 : decode cX10_ledAt 0 = .ok (.iload_n 1, 1) := by decide +kernel
theorem dX10_ledAt_1 : decode cX10_ledAt 1 = .ok (.i2l, 1) := by decide +kernel
theorem dX10_ledAt_2 : decode cX10_ledAt 2 = .ok (.lconst 0, 1) := by decide +kernel
theorem dX10_ledAt_3 : decode cX10_ledAt 3 = .ok (.lconst 1, 1) := by decide +kernel
theorem dX10_ledAt_4 : decode cX10_ledAt 4 = .ok (.invokestatic 77, 3) := by decide +kernel
theorem dX10_ledAt_7 : decode cX10_ledAt 7 = .ok (.ifCond .eq 38, 3) := by decide +kernel
theorem dX10_ledAt_10 : decode cX10_ledAt 10 = .ok (.aload_n 0, 1) := by decide +kernel
theorem dX10_ledAt_11 : decode cX10_ledAt 11 = .ok (.iload_n 3, 1) := by decide +kernel
theorem dX10_ledAt_12 : decode cX10_ledAt 12 = .ok (.invokevirtual 90, 3) := by decide +kernel
theorem dX10_ledAt_15 : decode cX10_ledAt 15 = .ok (.ifCond .eq 30, 3) := by decide +kernel
theorem dX10_ledAt_18 : decode cX10_ledAt 18 = .ok (.iload_n 1, 1) := by decide +kernel
theorem dX10_ledAt_19 : decode cX10_ledAt 19 = .ok (.ifCond .ne 14, 3) := by decide +kernel
theorem dX10_ledAt_22 : decode cX10_ledAt 22 = .ok (.aload_n 0, 1) := by decide +kernel
theorem dX10_ledAt_23 : decode cX10_ledAt 23 = .ok (.iload_n 2, 1) := by decide +kernel
theorem dX10_ledAt_24 : decode cX10_ledAt 24 = .ok (.invokevirtual 86, 3) := by decide +kernel
theorem dX10_ledAt_27 : decode cX10_ledAt 27 = .ok (.ifCond .eq 18, 3) := by decide +kernel
theorem dX10_ledAt_30 : decode cX10_ledAt 30 = .ok (.goto 11, 3) := by decide +kernel
theorem dX10_ledAt_33 : decode cX10_ledAt 33 = .ok (.aload_n 0, 1) := by decide +kernel
theorem dX10_ledAt_34 : decode cX10_ledAt 34 = .ok (.iload_n 2, 1) := by decide +kernel
theorem dX10_ledAt_35 : decode cX10_ledAt 35 = .ok (.invokevirtual 90, 3) := by decide +kernel
theorem dX10_ledAt_38 : decode cX10_ledAt 38 = .ok (.ifCond .eq 7, 3) := by decide +kernel
theorem dX10_ledAt_41 : decode cX10_ledAt 41 = .ok (.iconst 1, 1) := by decide +kernel
theorem dX10_ledAt_42 : decode cX10_ledAt 42 = .ok (.goto 4, 3) := by decide +kernel
theorem dX10_ledAt_45 : decode cX10_ledAt 45 = .ok (.iconst 0, 1) := by decide +kernel
theorem dX10_ledAt_46 : decode cX10_ledAt 46 = .ok (.istore 4, 2) := by decide +kernel
theorem dX10_ledAt_48 : decode cX10_ledAt 48 = .ok (.iload 4, 2) := by decide +kernel
theorem dX10_ledAt_50 : decode cX10_ledAt 50 = .ok (.ifCond .ne 6, 3) := by decide +kernel
theorem dX10_ledAt_53 : decode cX10_ledAt 53 = .ok (.ldc 232, 2) := by decide +kernel
theorem dX10_ledAt_55 : decode cX10_ledAt 55 = .ok (.ireturn, 1) := by decide +kernel
theorem dX10_ledAt_56 : decode cX10_ledAt 56 = .ok (.aload_n 0, 1) := by decide +kernel
theorem dX10_ledAt_57 : decode cX10_ledAt 57 = .ok (.invokevirtual 229, 3) := by decide +kernel
theorem dX10_ledAt_60 : decode cX10_ledAt 60 = .ok (.istore 5, 2) := by decide +kernel
theorem dX10_ledAt_62 : decode cX10_ledAt 62 = .ok (.iload_n 1, 1) := by decide +kernel
theorem dX10_ledAt_63 : decode cX10_ledAt 63 = .ok (.ifCond .ne 16, 3) := by decide +kernel
theorem dX10_ledAt_66 : decode cX10_ledAt 66 = .ok (.aload_n 0, 1) := by decide +kernel
theorem dX10_ledAt_67 : decode cX10_ledAt 67 = .ok (.getfield 41, 3) := by decide +kernel
theorem dX10_ledAt_70 : decode cX10_ledAt 70 = .ok (.iconst 5, 1) := by decide +kernel
theorem dX10_ledAt_71 : decode cX10_ledAt 71 = .ok (.iload_n 3, 1) := by decide +kernel
theorem dX10_ledAt_72 : decode cX10_ledAt 72 = .ok (.imul, 1) := by decide +kernel
theorem dX10_ledAt_73 : decode cX10_ledAt 73 = .ok (.iload_n 2, 1) := by decide +kernel
theorem dX10_ledAt_74 : decode cX10_ledAt 74 = .ok (.iadd, 1) := by decide +kernel
theorem dX10_ledAt_75 : decode cX10_ledAt 75 = .ok (.iaload, 1) := by decide +kernel
theorem dX10_ledAt_76 : decode cX10_ledAt 76 = .ok (.goto 13, 3) := by decide +kernel
theorem dX10_ledAt_79 : decode cX10_ledAt 79 = .ok (.aload_n 0, 1) := by decide +kernel
theorem dX10_ledAt_80 : decode cX10_ledAt 80 = .ok (.getfield 44, 3) := by decide +kernel
theorem dX10_ledAt_83 : decode cX10_ledAt 83 = .ok (.iconst 4, 1) := by decide +kernel
theorem dX10_ledAt_84 : decode cX10_ledAt 84 = .ok (.iload_n 2, 1) := by decide +kernel
theorem dX10_ledAt_85 : decode cX10_ledAt 85 = .ok (.imul, 1) := by decide +kernel
theorem dX10_ledAt_86 : decode cX10_ledAt 86 = .ok (.iload_n 3, 1) := by decide +kernel
theorem dX10_ledAt_87 : decode cX10_ledAt 87 = .ok (.iadd, 1) := by decide +kernel
theorem dX10_ledAt_88 : decode cX10_ledAt 88 = .ok (.iaload, 1) := by decide +kernel
theorem dX10_ledAt_89 : decode cX10_ledAt 89 = .ok (.ireturn, 1) := by decide +kernel
set_option maxRecDepth 20000 in
theorem ggX10_ledWord_X10_lead : GoodIn wsX10_ledWord wsX10_lead := goodIn_r _ [16, 17, 18, 19, 15, 20, 21, 2, 1, 5, 10, 22, 23, 24, 25, 26, 27, 28, 29, 30, 31, 32, 58, 59, 60, 61, 62, 63, 64, 65, 66, 67, 68, 69, 70, 71, 72, 73, 74, 75, 76, 77, 78, 79, 80, 81, 82, 83, 84, 85] (by decide +kernel) (by decide +kernel)
set_option maxRecDepth 20000 in
theorem gX10_ledWord_X10_lead : GoodIn wsX10_ledWord (wsV RX10 229 RX10 yX10_lead wsX10_lead) := goodIn_app (goodIn_of _ (by decide +kernel)) ggX10_ledWord_X10_lead
set_option maxRecDepth 20000 in
theorem ggX10_ledWord_X10_whole : GoodIn wsX10_ledWord wsX10_whole := goodIn_r _ [36, 2, 58, 59, 60, 61, 62, 63, 64, 65, 66, 67, 68, 69, 70, 71, 72, 73, 74, 75, 76, 77, 78, 79, 80, 81, 82, 83, 84, 85] (by decide +kernel) (by decide +kernel)
set_option maxRecDepth 20000 in
theorem gX10_ledWord_X10_whole : GoodIn wsX10_ledWord (wsV RX10 182 RX10 yX10_whole wsX10_whole) := goodIn_app (goodIn_of _ (by decide +kernel)) ggX10_ledWord_X10_whole
set_option maxRecDepth 20000 in
theorem ggX10_ledWord_X10_worthOf : GoodIn wsX10_ledWord wsX10_worthOf := goodIn_r _ [40, 2, 41, 26, 27, 28, 15, 29, 21, 42, 43, 44, 45, 58, 59, 60, 61, 62, 63, 64, 65, 66, 67, 68, 69, 70, 71, 72, 73, 74, 75, 76, 77, 78, 79, 80, 81, 82, 83, 84, 85] (by decide +kernel) (by decide +kernel)
set_option maxRecDepth 20000 in
theorem gX10_ledWord_X10_worthOf : GoodIn wsX10_ledWord (wsV RX10 187 RX10 yX10_worthOf wsX10_worthOf) := goodIn_app (goodIn_of _ (by decide +kernel)) ggX10_ledWord_X10_worthOf
set_option maxRecDepth 20000 in
theorem ggX10_ledWord_X10_meetHeard : GoodIn wsX10_ledWord wsX10_meetHeard := goodIn_r _ [49, 3, 1, 5, 58, 59, 60, 61, 62, 63, 64, 65, 66, 67, 68, 69, 70, 71, 72, 73, 74, 75, 76, 77, 78, 79, 80, 81, 82, 83, 84, 85] (by decide +kernel) (by decide +kernel)
set_option maxRecDepth 20000 in
theorem gX10_ledWord_X10_meetHeard : GoodIn wsX10_ledWord (wsV RX10 197 RX10 yX10_meetHeard wsX10_meetHeard) := goodIn_app (goodIn_of _ (by decide +kernel)) ggX10_ledWord_X10_meetHeard
set_option maxRecDepth 20000 in
theorem ggX10_ledWord_X10_fractionOf : GoodIn wsX10_ledWord wsX10_fractionOf := goodIn_r _ [53, 7, 2, 21, 3, 41, 6, 33, 34, 35, 15, 36, 37, 38, 39, 40, 26, 27, 28, 29, 42, 43, 44, 45, 58, 59, 60, 61, 62, 63, 64, 65, 66, 67, 68, 69, 70, 71, 72, 73, 74, 75, 76, 77, 78, 79, 80, 81, 82, 83, 84, 85] (by decide +kernel) (by decide +kernel)
set_option maxRecDepth 20000 in
theorem gX10_ledWord_X10_fractionOf : GoodIn wsX10_ledWord (wsV RX10 200 RX10 yX10_fractionOf wsX10_fractionOf) := goodIn_app (goodIn_of _ (by decide +kernel)) ggX10_ledWord_X10_fractionOf
set_option maxRecDepth 20000 in
theorem ggX10_ledWord_X10_numberOf : GoodIn wsX10_ledWord wsX10_numberOf := goodIn_r _ [57, 2, 4, 58, 59, 60, 61, 62, 63, 64, 65, 66, 67, 68, 69, 70, 71, 72, 73, 74, 75, 76, 77, 78, 79, 80, 81, 82, 83, 84, 85] (by decide +kernel) (by decide +kernel)
set_option maxRecDepth 20000 in
theorem gX10_ledWord_X10_numberOf : GoodIn wsX10_ledWord (wsV RX10 207 RX10 yX10_numberOf wsX10_numberOf) := goodIn_app (goodIn_of _ (by decide +kernel)) ggX10_ledWord_X10_numberOf
theorem dX10_ledWord_0 : decode cX10_ledWord 0 = .ok (.aload_n 0, 1) := by decide +kernel
theorem dX10_ledWord_1 : decode cX10_ledWord 1 = .ok (.invokevirtual 229, 3) := by decide +kernel
theorem dX10_ledWord_4 : decode cX10_ledWord 4 = .ok (.istore_n 1, 1) := by decide +kernel
theorem dX10_ledWord_5 : decode cX10_ledWord 5 = .ok (.aload_n 0, 1) := by decide +kernel
theorem dX10_ledWord_6 : decode cX10_ledWord 6 = .ok (.aload_n 0, 1) := by decide +kernel
theorem dX10_ledWord_7 : decode cX10_ledWord 7 = .ok (.invokevirtual 182, 3) := by decide +kernel
theorem dX10_ledWord_10 : decode cX10_ledWord 10 = .ok (.invokevirtual 187, 3) := by decide +kernel
theorem dX10_ledWord_13 : decode cX10_ledWord 13 = .ok (.lconst 0, 1) := by decide +kernel
theorem dX10_ledWord_14 : decode cX10_ledWord 14 = .ok (.lcmp, 1) := by decide +kernel
theorem dX10_ledWord_15 : decode cX10_ledWord 15 = .ok (.ifCond .ne 6, 3) := by decide +kernel
theorem dX10_ledWord_18 : decode cX10_ledWord 18 = .ok (.bipush (-2), 2) := by decide +kernel
theorem dX10_ledWord_20 : decode cX10_ledWord 20 = .ok (.ireturn, 1) := by decide +kernel
theorem dX10_ledWord_21 : decode cX10_ledWord 21 = .ok (.aload_n 0, 1) := by decide +kernel
theorem dX10_ledWord_22 : decode cX10_ledWord 22 = .ok (.invokevirtual 197, 3) := by decide +kernel
theorem dX10_ledWord_25 : decode cX10_ledWord 25 = .ok (.iconst 0, 1) := by decide +kernel
theorem dX10_ledWord_26 : decode cX10_ledWord 26 = .ok (.istore_n 2, 1) := by decide +kernel
theorem dX10_ledWord_27 : decode cX10_ledWord 27 = .ok (.iload_n 2, 1) := by decide +kernel
theorem dX10_ledWord_28 : decode cX10_ledWord 28 = .ok (.aload_n 0, 1) := by decide +kernel
theorem dX10_ledWord_29 : decode cX10_ledWord 29 = .ok (.getfield 7, 3) := by decide +kernel
theorem dX10_ledWord_32 : decode cX10_ledWord 32 = .ok (.if_icmp .ge 51, 3) := by decide +kernel
theorem dX10_ledWord_35 : decode cX10_ledWord 35 = .ok (.iconst 0, 1) := by decide +kernel
theorem dX10_ledWord_36 : decode cX10_ledWord 36 = .ok (.istore_n 3, 1) := by decide +kernel
theorem dX10_ledWord_37 : decode cX10_ledWord 37 = .ok (.iload_n 3, 1) := by decide +kernel
theorem dX10_ledWord_38 : decode cX10_ledWord 38 = .ok (.aload_n 0, 1) := by decide +kernel
theorem dX10_ledWord_39 : decode cX10_ledWord 39 = .ok (.getfield 13, 3) := by decide +kernel
theorem dX10_ledWord_42 : decode cX10_ledWord 42 = .ok (.if_icmp .ge 35, 3) := by decide +kernel
theorem dX10_ledWord_45 : decode cX10_ledWord 45 = .ok (.aload_n 0, 1) := by decide +kernel
theorem dX10_ledWord_46 : decode cX10_ledWord 46 = .ok (.getfield 51, 3) := by decide +kernel
theorem dX10_ledWord_49 : decode cX10_ledWord 49 = .ok (.iload_n 2, 1) := by decide +kernel
theorem dX10_ledWord_50 : decode cX10_ledWord 50 = .ok (.dup2, 1) := by decide +kernel
theorem dX10_ledWord_51 : decode cX10_ledWord 51 = .ok (.iaload, 1) := by decide +kernel
theorem dX10_ledWord_52 : decode cX10_ledWord 52 = .ok (.aload_n 0, 1) := by decide +kernel
theorem dX10_ledWord_53 : decode cX10_ledWord 53 = .ok (.getfield 16, 3) := by decide +kernel
theorem dX10_ledWord_56 : decode cX10_ledWord 56 = .ok (.iconst 1, 1) := by decide +kernel
theorem dX10_ledWord_57 : decode cX10_ledWord 57 = .ok (.isub, 1) := by decide +kernel
theorem dX10_ledWord_58 : decode cX10_ledWord 58 = .ok (.aload_n 0, 1) := by decide +kernel
theorem dX10_ledWord_59 : decode cX10_ledWord 59 = .ok (.getfield 19, 3) := by decide +kernel
theorem dX10_ledWord_62 : decode cX10_ledWord 62 = .ok (.iconst 5, 1) := by decide +kernel
theorem dX10_ledWord_63 : decode cX10_ledWord 63 = .ok (.iload_n 2, 1) := by decide +kernel
theorem dX10_ledWord_64 : decode cX10_ledWord 64 = .ok (.imul, 1) := by decide +kernel
theorem dX10_ledWord_65 : decode cX10_ledWord 65 = .ok (.iload_n 3, 1) := by decide +kernel
theorem dX10_ledWord_66 : decode cX10_ledWord 66 = .ok (.iadd, 1) := by decide +kernel
theorem dX10_ledWord_67 : decode cX10_ledWord 67 = .ok (.iaload, 1) := by decide +kernel
theorem dX10_ledWord_68 : decode cX10_ledWord 68 = .ok (.imul, 1) := by decide +kernel
theorem dX10_ledWord_69 : decode cX10_ledWord 69 = .ok (.iadd, 1) := by decide +kernel
theorem dX10_ledWord_70 : decode cX10_ledWord 70 = .ok (.iastore, 1) := by decide +kernel
theorem dX10_ledWord_71 : decode cX10_ledWord 71 = .ok (.iinc 3 1, 3) := by decide +kernel
theorem dX10_ledWord_74 : decode cX10_ledWord 74 = .ok (.goto (-37), 3) := by decide +kernel
theorem dX10_ledWord_77 : decode cX10_ledWord 77 = .ok (.iinc 2 1, 3) := by decide +kernel
theorem dX10_ledWord_80 : decode cX10_ledWord 80 = .ok (.goto (-53), 3) := by decide +kernel
theorem dX10_ledWord_83 : decode cX10_ledWord 83 = .ok (.iconst 0, 1) := by decide +kernel
theorem dX10_ledWord_84 : decode cX10_ledWord 84 = .ok (.istore_n 2, 1) := by decide +kernel
theorem dX10_ledWord_85 : decode cX10_ledWord 85 = .ok (.iload_n 2, 1) := by decide +kernel
theorem dX10_ledWord_86 : decode cX10_ledWord 86 = .ok (.aload_n 0, 1) := by decide +kernel
theorem dX10_ledWord_87 : decode cX10_ledWord 87 = .ok (.getfield 13, 3) := by decide +kernel
theorem dX10_ledWord_90 : decode cX10_ledWord 90 = .ok (.if_icmp .ge 66, 3) := by decide +kernel
theorem dX10_ledWord_93 : decode cX10_ledWord 93 = .ok (.aload_n 0, 1) := by decide +kernel
theorem dX10_ledWord_94 : decode cX10_ledWord 94 = .ok (.iload_n 2, 1) := by decide +kernel
theorem dX10_ledWord_95 : decode cX10_ledWord 95 = .ok (.invokevirtual 200, 3) := by decide +kernel
theorem dX10_ledWord_98 : decode cX10_ledWord 98 = .ok (.aload_n 0, 1) := by decide +kernel
theorem dX10_ledWord_99 : decode cX10_ledWord 99 = .ok (.getfield 194, 3) := by decide +kernel
theorem dX10_ledWord_102 : decode cX10_ledWord 102 = .ok (.aload_n 0, 1) := by decide +kernel
theorem dX10_ledWord_103 : decode cX10_ledWord 103 = .ok (.getfield 190, 3) := by decide +kernel
theorem dX10_ledWord_106 : decode cX10_ledWord 106 = .ok (.ladd, 1) := by decide +kernel
theorem dX10_ledWord_107 : decode cX10_ledWord 107 = .ok (.lconst 1, 1) := by decide +kernel
theorem dX10_ledWord_108 : decode cX10_ledWord 108 = .ok (.lsub, 1) := by decide +kernel
theorem dX10_ledWord_109 : decode cX10_ledWord 109 = .ok (.lstore_n 3, 1) := by decide +kernel
theorem dX10_ledWord_110 : decode cX10_ledWord 110 = .ok (.ldc2_w 233, 3) := by decide +kernel
theorem dX10_ledWord_113 : decode cX10_ledWord 113 = .ok (.aload_n 0, 1) := by decide +kernel
theorem dX10_ledWord_114 : decode cX10_ledWord 114 = .ok (.getfield 190, 3) := by decide +kernel
theorem dX10_ledWord_117 : decode cX10_ledWord 117 = .ok (.lmul, 1) := by decide +kernel
theorem dX10_ledWord_118 : decode cX10_ledWord 118 = .ok (.lstore 5, 2) := by decide +kernel
theorem dX10_ledWord_120 : decode cX10_ledWord 120 = .ok (.lload_n 3, 1) := by decide +kernel
theorem dX10_ledWord_121 : decode cX10_ledWord 121 = .ok (.lload 5, 2) := by decide +kernel
theorem dX10_ledWord_123 : decode cX10_ledWord 123 = .ok (.ldiv, 1) := by decide +kernel
theorem dX10_ledWord_124 : decode cX10_ledWord 124 = .ok (.lstore 7, 2) := by decide +kernel
theorem dX10_ledWord_126 : decode cX10_ledWord 126 = .ok (.aload_n 0, 1) := by decide +kernel
theorem dX10_ledWord_127 : decode cX10_ledWord 127 = .ok (.getfield 57, 3) := by decide +kernel
theorem dX10_ledWord_130 : decode cX10_ledWord 130 = .ok (.iload_n 2, 1) := by decide +kernel
theorem dX10_ledWord_131 : decode cX10_ledWord 131 = .ok (.lload_n 3, 1) := by decide +kernel
theorem dX10_ledWord_132 : decode cX10_ledWord 132 = .ok (.lload 5, 2) := by decide +kernel
theorem dX10_ledWord_134 : decode cX10_ledWord 134 = .ok (.lrem, 1) := by decide +kernel
theorem dX10_ledWord_135 : decode cX10_ledWord 135 = .ok (.lconst 0, 1) := by decide +kernel
theorem dX10_ledWord_136 : decode cX10_ledWord 136 = .ok (.lcmp, 1) := by decide +kernel
theorem dX10_ledWord_137 : decode cX10_ledWord 137 = .ok (.ifCond .ge 10, 3) := by decide +kernel
theorem dX10_ledWord_140 : decode cX10_ledWord 140 = .ok (.lload 7, 2) := by decide +kernel
theorem dX10_ledWord_142 : decode cX10_ledWord 142 = .ok (.lconst 1, 1) := by decide +kernel
theorem dX10_ledWord_143 : decode cX10_ledWord 143 = .ok (.lsub, 1) := by decide +kernel
theorem dX10_ledWord_144 : decode cX10_ledWord 144 = .ok (.goto 5, 3) := by decide +kernel
theorem dX10_ledWord_147 : decode cX10_ledWord 147 = .ok (.lload 7, 2) := by decide +kernel
theorem dX10_ledWord_149 : decode cX10_ledWord 149 = .ok (.lastore, 1) := by decide +kernel
theorem dX10_ledWord_150 : decode cX10_ledWord 150 = .ok (.iinc 2 1, 3) := by decide +kernel
theorem dX10_ledWord_153 : decode cX10_ledWord 153 = .ok (.goto (-68), 3) := by decide +kernel
theorem dX10_ledWord_156 : decode cX10_ledWord 156 = .ok (.iconst 0, 1) := by decide +kernel
theorem dX10_ledWord_157 : decode cX10_ledWord 157 = .ok (.istore_n 2, 1) := by decide +kernel
theorem dX10_ledWord_158 : decode cX10_ledWord 158 = .ok (.iload_n 2, 1) := by decide +kernel
theorem dX10_ledWord_159 : decode cX10_ledWord 159 = .ok (.aload_n 0, 1) := by decide +kernel
theorem dX10_ledWord_160 : decode cX10_ledWord 160 = .ok (.getfield 13, 3) := by decide +kernel
theorem dX10_ledWord_163 : decode cX10_ledWord 163 = .ok (.if_icmp .ge 120, 3) := by decide +kernel
theorem dX10_ledWord_166 : decode cX10_ledWord 166 = .ok (.lconst 0, 1) := by decide +kernel
theorem dX10_ledWord_167 : decode cX10_ledWord 167 = .ok (.lstore_n 3, 1) := by decide +kernel
theorem dX10_ledWord_168 : decode cX10_ledWord 168 = .ok (.iconst 0, 1) := by decide +kernel
theorem dX10_ledWord_169 : decode cX10_ledWord 169 = .ok (.istore 5, 2) := by decide +kernel
theorem dX10_ledWord_171 : decode cX10_ledWord 171 = .ok (.iload 5, 2) := by decide +kernel
theorem dX10_ledWord_173 : decode cX10_ledWord 173 = .ok (.aload_n 0, 1) := by decide +kernel
theorem dX10_ledWord_174 : decode cX10_ledWord 174 = .ok (.getfield 13, 3) := by decide +kernel
theorem dX10_ledWord_177 : decode cX10_ledWord 177 = .ok (.if_icmp .ge 32, 3) := by decide +kernel
theorem dX10_ledWord_180 : decode cX10_ledWord 180 = .ok (.lload_n 3, 1) := by decide +kernel
theorem dX10_ledWord_181 : decode cX10_ledWord 181 = .ok (.aload_n 0, 1) := by decide +kernel
theorem dX10_ledWord_182 : decode cX10_ledWord 182 = .ok (.getfield 44, 3) := by decide +kernel
theorem dX10_ledWord_185 : decode cX10_ledWord 185 = .ok (.iconst 4, 1) := by decide +kernel
theorem dX10_ledWord_186 : decode cX10_ledWord 186 = .ok (.iload_n 2, 1) := by decide +kernel
theorem dX10_ledWord_187 : decode cX10_ledWord 187 = .ok (.imul, 1) := by decide +kernel
theorem dX10_ledWord_188 : decode cX10_ledWord 188 = .ok (.iload 5, 2) := by decide +kernel
theorem dX10_ledWord_190 : decode cX10_ledWord 190 = .ok (.iadd, 1) := by decide +kernel
theorem dX10_ledWord_191 : decode cX10_ledWord 191 = .ok (.iaload, 1) := by decide +kernel
theorem dX10_ledWord_192 : decode cX10_ledWord 192 = .ok (.i2l, 1) := by decide +kernel
theorem dX10_ledWord_193 : decode cX10_ledWord 193 = .ok (.aload_n 0, 1) := by decide +kernel
theorem dX10_ledWord_194 : decode cX10_ledWord 194 = .ok (.getfield 57, 3) := by decide +kernel
theorem dX10_ledWord_197 : decode cX10_ledWord 197 = .ok (.iload 5, 2) := by decide +kernel
theorem dX10_ledWord_199 : decode cX10_ledWord 199 = .ok (.laload, 1) := by decide +kernel
theorem dX10_ledWord_200 : decode cX10_ledWord 200 = .ok (.lmul, 1) := by decide +kernel
theorem dX10_ledWord_201 : decode cX10_ledWord 201 = .ok (.ladd, 1) := by decide +kernel
theorem dX10_ledWord_202 : decode cX10_ledWord 202 = .ok (.lstore_n 3, 1) := by decide +kernel
theorem dX10_ledWord_203 : decode cX10_ledWord 203 = .ok (.iinc 5 1, 3) := by decide +kernel
theorem dX10_ledWord_206 : decode cX10_ledWord 206 = .ok (.goto (-35), 3) := by decide +kernel
theorem dX10_ledWord_209 : decode cX10_ledWord 209 = .ok (.ldc2_w 233, 3) := by decide +kernel
theorem dX10_ledWord_212 : decode cX10_ledWord 212 = .ok (.lload_n 3, 1) := by decide +kernel
theorem dX10_ledWord_213 : decode cX10_ledWord 213 = .ok (.lmul, 1) := by decide +kernel
theorem dX10_ledWord_214 : decode cX10_ledWord 214 = .ok (.aload_n 0, 1) := by decide +kernel
theorem dX10_ledWord_215 : decode cX10_ledWord 215 = .ok (.getfield 16, 3) := by decide +kernel
theorem dX10_ledWord_218 : decode cX10_ledWord 218 = .ok (.i2l, 1) := by decide +kernel
theorem dX10_ledWord_219 : decode cX10_ledWord 219 = .ok (.lsub, 1) := by decide +kernel
theorem dX10_ledWord_220 : decode cX10_ledWord 220 = .ok (.lconst 1, 1) := by decide +kernel
theorem dX10_ledWord_221 : decode cX10_ledWord 221 = .ok (.ladd, 1) := by decide +kernel
theorem dX10_ledWord_222 : decode cX10_ledWord 222 = .ok (.lstore 5, 2) := by decide +kernel
theorem dX10_ledWord_224 : decode cX10_ledWord 224 = .ok (.aload_n 0, 1) := by decide +kernel
theorem dX10_ledWord_225 : decode cX10_ledWord 225 = .ok (.getfield 54, 3) := by decide +kernel
theorem dX10_ledWord_228 : decode cX10_ledWord 228 = .ok (.iload_n 2, 1) := by decide +kernel
theorem dX10_ledWord_229 : decode cX10_ledWord 229 = .ok (.lload 5, 2) := by decide +kernel
theorem dX10_ledWord_231 : decode cX10_ledWord 231 = .ok (.iconst 1, 1) := by decide +kernel
theorem dX10_ledWord_232 : decode cX10_ledWord 232 = .ok (.aload_n 0, 1) := by decide +kernel
theorem dX10_ledWord_233 : decode cX10_ledWord 233 = .ok (.getfield 16, 3) := by decide +kernel
theorem dX10_ledWord_236 : decode cX10_ledWord 236 = .ok (.isub, 1) := by decide +kernel
theorem dX10_ledWord_237 : decode cX10_ledWord 237 = .ok (.i2l, 1) := by decide +kernel
theorem dX10_ledWord_238 : decode cX10_ledWord 238 = .ok (.lcmp, 1) := by decide +kernel
theorem dX10_ledWord_239 : decode cX10_ledWord 239 = .ok (.ifCond .ge 12, 3) := by decide +kernel
theorem dX10_ledWord_242 : decode cX10_ledWord 242 = .ok (.iconst 1, 1) := by decide +kernel
theorem dX10_ledWord_243 : decode cX10_ledWord 243 = .ok (.aload_n 0, 1) := by decide +kernel
theorem dX10_ledWord_244 : decode cX10_ledWord 244 = .ok (.getfield 16, 3) := by decide +kernel
theorem dX10_ledWord_247 : decode cX10_ledWord 247 = .ok (.isub, 1) := by decide +kernel
theorem dX10_ledWord_248 : decode cX10_ledWord 248 = .ok (.goto 28, 3) := by decide +kernel
theorem dX10_ledWord_251 : decode cX10_ledWord 251 = .ok (.lload 5, 2) := by decide +kernel
theorem dX10_ledWord_253 : decode cX10_ledWord 253 = .ok (.aload_n 0, 1) := by decide +kernel
theorem dX10_ledWord_254 : decode cX10_ledWord 254 = .ok (.getfield 16, 3) := by decide +kernel
theorem dX10_ledWord_257 : decode cX10_ledWord 257 = .ok (.iconst 1, 1) := by decide +kernel
theorem dX10_ledWord_258 : decode cX10_ledWord 258 = .ok (.isub, 1) := by decide +kernel
theorem dX10_ledWord_259 : decode cX10_ledWord 259 = .ok (.i2l, 1) := by decide +kernel
theorem dX10_ledWord_260 : decode cX10_ledWord 260 = .ok (.lcmp, 1) := by decide +kernel
theorem dX10_ledWord_261 : decode cX10_ledWord 261 = .ok (.ifCond .le 12, 3) := by decide +kernel
theorem dX10_ledWord_264 : decode cX10_ledWord 264 = .ok (.aload_n 0, 1) := by decide +kernel
theorem dX10_ledWord_265 : decode cX10_ledWord 265 = .ok (.getfield 16, 3) := by decide +kernel
theorem dX10_ledWord_268 : decode cX10_ledWord 268 = .ok (.iconst 1, 1) := by decide +kernel
theorem dX10_ledWord_269 : decode cX10_ledWord 269 = .ok (.isub, 1) := by decide +kernel
theorem dX10_ledWord_270 : decode cX10_ledWord 270 = .ok (.goto 6, 3) := by decide +kernel
theorem dX10_ledWord_273 : decode cX10_ledWord 273 = .ok (.lload 5, 2) := by decide +kernel
theorem dX10_ledWord_275 : decode cX10_ledWord 275 = .ok (.l2i, 1) := by decide +kernel
theorem dX10_ledWord_276 : decode cX10_ledWord 276 = .ok (.iastore, 1) := by decide +kernel
theorem dX10_ledWord_277 : decode cX10_ledWord 277 = .ok (.iinc 2 1, 3) := by decide +kernel
theorem dX10_ledWord_280 : decode cX10_ledWord 280 = .ok (.goto (-122), 3) := by decide +kernel
theorem dX10_ledWord_283 : decode cX10_ledWord 283 = .ok (.aload_n 0, 1) := by decide +kernel
theorem dX10_ledWord_284 : decode cX10_ledWord 284 = .ok (.aload_n 0, 1) := by decide +kernel
theorem dX10_ledWord_285 : decode cX10_ledWord 285 = .ok (.getfield 54, 3) := by decide +kernel
theorem dX10_ledWord_288 : decode cX10_ledWord 288 = .ok (.invokevirtual 207, 3) := by decide +kernel
theorem dX10_ledWord_291 : decode cX10_ledWord 291 = .ok (.ireturn, 1) := by decide +kernel
theorem dX10_isAhead_0 : decode cX10_isAhead 0 = .ok (.iconst 0, 1) := by decide +kernel
theorem dX10_isAhead_1 : decode cX10_isAhead 1 = .ok (.istore_n 3, 1) := by decide +kernel
theorem dX10_isAhead_2 : decode cX10_isAhead 2 = .ok (.iload_n 3, 1) := by decide +kernel
theorem dX10_isAhead_3 : decode cX10_isAhead 3 = .ok (.aload_n 0, 1) := by decide +kernel
theorem dX10_isAhead_4 : decode cX10_isAhead 4 = .ok (.getfield 13, 3) := by decide +kernel
theorem dX10_isAhead_7 : decode cX10_isAhead 7 = .ok (.if_icmp .ge 22, 3) := by decide +kernel
theorem dX10_isAhead_10 : decode cX10_isAhead 10 = .ok (.iload_n 1, 1) := by decide +kernel
theorem dX10_isAhead_11 : decode cX10_isAhead 11 = .ok (.iload_n 3, 1) := by decide +kernel
theorem dX10_isAhead_12 : decode cX10_isAhead 12 = .ok (.ishr, 1) := by decide +kernel
theorem dX10_isAhead_13 : decode cX10_isAhead 13 = .ok (.iconst 1, 1) := by decide +kernel
theorem dX10_isAhead_14 : decode cX10_isAhead 14 = .ok (.iand, 1) := by decide +kernel
theorem dX10_isAhead_15 : decode cX10_isAhead 15 = .ok (.iload_n 2, 1) := by decide +kernel
theorem dX10_isAhead_16 : decode cX10_isAhead 16 = .ok (.iload_n 3, 1) := by decide +kernel
theorem dX10_isAhead_17 : decode cX10_isAhead 17 = .ok (.ishr, 1) := by decide +kernel
theorem dX10_isAhead_18 : decode cX10_isAhead 18 = .ok (.iconst 1, 1) := by decide +kernel
theorem dX10_isAhead_19 : decode cX10_isAhead 19 = .ok (.iand, 1) := by decide +kernel
theorem dX10_isAhead_20 : decode cX10_isAhead 20 = .ok (.if_icmp .ne 9, 3) := by decide +kernel
theorem dX10_isAhead_23 : decode cX10_isAhead 23 = .ok (.iinc 3 1, 3) := by decide +kernel
theorem dX10_isAhead_26 : decode cX10_isAhead 26 = .ok (.goto (-24), 3) := by decide +kernel
theorem dX10_isAhead_29 : decode cX10_isAhead 29 = .ok (.iload_n 3, 1) := by decide +kernel
theorem dX10_isAhead_30 : decode cX10_isAhead 30 = .ok (.aload_n 0, 1) := by decide +kernel
theorem dX10_isAhead_31 : decode cX10_isAhead 31 = .ok (.getfield 13, 3) := by decide +kernel
theorem dX10_isAhead_34 : decode cX10_isAhead 34 = .ok (.if_icmp .ge 16, 3) := by decide +kernel
theorem dX10_isAhead_37 : decode cX10_isAhead 37 = .ok (.iload_n 1, 1) := by decide +kernel
theorem dX10_isAhead_38 : decode cX10_isAhead 38 = .ok (.iload_n 3, 1) := by decide +kernel
theorem dX10_isAhead_39 : decode cX10_isAhead 39 = .ok (.ishr, 1) := by decide +kernel
theorem dX10_isAhead_40 : decode cX10_isAhead 40 = .ok (.iconst 1, 1) := by decide +kernel
theorem dX10_isAhead_41 : decode cX10_isAhead 41 = .ok (.iand, 1) := by decide +kernel
theorem dX10_isAhead_42 : decode cX10_isAhead 42 = .ok (.iconst 1, 1) := by decide +kernel
theorem dX10_isAhead_43 : decode cX10_isAhead 43 = .ok (.if_icmp .ne 7, 3) := by decide +kernel
theorem dX10_isAhead_46 : decode cX10_isAhead 46 = .ok (.iconst 1, 1) := by decide +kernel
theorem dX10_isAhead_47 : decode cX10_isAhead 47 = .ok (.goto 4, 3) := by decide +kernel
theorem dX10_isAhead_50 : decode cX10_isAhead 50 = .ok (.iconst 0, 1) := by decide +kernel
theorem dX10_isAhead_51 : decode cX10_isAhead 51 = .ok (.ireturn, 1) := by decide +kernel
set_option maxRecDepth 20000 in
theorem ggX10_chosen_X10_in : GoodIn wsX10_chosen wsX10_in := goodIn_r _ [6] (by decide +kernel) (by decide +kernel)
set_option maxRecDepth 20000 in
theorem gX10_chosen_X10_in : GoodIn wsX10_chosen (va_wsS RX10 77 yX10_in wsX10_in) := goodIn_app (goodIn_of _ (by decide +kernel)) ggX10_chosen_X10_in
set_option maxRecDepth 20000 in
theorem ggX10_chosen_X10_lay : GoodIn wsX10_chosen wsX10_lay := goodIn_r _ [10, 11, 1, 12, 13, 14, 36, 37, 38, 39, 40, 41, 42, 43, 44, 45, 46, 47, 48, 49, 50, 51, 52, 53, 54, 55, 56, 57, 58, 59, 60, 61, 62, 63] (by decide +kernel) (by decide +kernel)
set_option maxRecDepth 20000 in
theorem gX10_chosen_X10_lay : GoodIn wsX10_chosen (wsV RX10 172 RX10 yX10_lay wsX10_lay) := goodIn_app (goodIn_of _ (by decide +kernel)) ggX10_chosen_X10_lay
set_option maxRecDepth 20000 in
theorem ggX10_chosen_X10_whole : GoodIn wsX10_chosen wsX10_whole := goodIn_r _ [18, 1, 36, 37, 38, 39, 40, 41, 42, 43, 44, 45, 46, 47, 48, 49, 50, 51, 52, 53, 54, 55, 56, 57, 58, 59, 60, 61, 62, 63] (by decide +kernel) (by decide +kernel)
set_option maxRecDepth 20000 in
theorem gX10_chosen_X10_whole : GoodIn wsX10_chosen (wsV RX10 182 RX10 yX10_whole wsX10_whole) := goodIn_app (goodIn_of _ (by decide +kernel)) ggX10_chosen_X10_whole
set_option maxRecDepth 20000 in
theorem ggX10_chosen_X10_worthOf : GoodIn wsX10_chosen wsX10_worthOf := goodIn_r _ [22, 1, 23, 24, 25, 26, 5, 27, 11, 28, 29, 30, 31, 36, 37, 38, 39, 40, 41, 42, 43, 44, 45, 46, 47, 48, 49, 50, 51, 52, 53, 54, 55, 56, 57, 58, 59, 60, 61, 62, 63] (by decide +kernel) (by decide +kernel)
set_option maxRecDepth 20000 in
theorem gX10_chosen_X10_worthOf : GoodIn wsX10_chosen (wsV RX10 187 RX10 yX10_worthOf wsX10_worthOf) := goodIn_app (goodIn_of _ (by decide +kernel)) ggX10_chosen_X10_worthOf
set_option maxRecDepth 20000 in
theorem ggX10_chosen_X10_isAhead : GoodIn wsX10_chosen wsX10_isAhead := goodIn_r _ [35, 1, 36, 37, 38, 39, 40, 41, 42, 43, 44, 45, 46, 47, 48, 49, 50, 51, 52, 53, 54, 55, 56, 57, 58, 59, 60, 61, 62, 63] (by decide +kernel) (by decide +kernel)
set_option maxRecDepth 20000 in
theorem gX10_chosen_X10_isAhead : GoodIn wsX10_chosen (wsV RX10 235 RX10 yX10_isAhead wsX10_isAhead) := goodIn_app (goodIn_of _ (by decide +kernel)) ggX10_chosen_X10_isAhead
theorem dX10_chosen_0 : decode cX10_chosen 0 = .ok (.iload_n 1, 1) := by decide +kernel
theorem dX10_chosen_1 : decode cX10_chosen 1 = .ok (.i2l, 1) := by decide +kernel
theorem dX10_chosen_2 : decode cX10_chosen 2 = .ok (.lconst 1, 1) := by decide +kernel
theorem dX10_chosen_3 : decode cX10_chosen 3 = .ok (.aload_n 0, 1) := by decide +kernel
theorem dX10_chosen_4 : decode cX10_chosen 4 = .ok (.getfield 13, 3) := by decide +kernel
theorem dX10_chosen_7 : decode cX10_chosen 7 = .ok (.i2l, 1) := by decide +kernel
theorem dX10_chosen_8 : decode cX10_chosen 8 = .ok (.invokestatic 77, 3) := by decide +kernel
theorem dX10_chosen_11 : decode cX10_chosen 11 = .ok (.ifCond .ne 5, 3) := by decide +kernel
theorem dX10_chosen_14 : decode cX10_chosen 14 = .ok (.iconst (-1), 1) := by decide +kernel
theorem dX10_chosen_15 : decode cX10_chosen 15 = .ok (.ireturn, 1) := by decide +kernel
theorem dX10_chosen_16 : decode cX10_chosen 16 = .ok (.aload_n 0, 1) := by decide +kernel
theorem dX10_chosen_17 : decode cX10_chosen 17 = .ok (.invokevirtual 172, 3) := by decide +kernel
theorem dX10_chosen_20 : decode cX10_chosen 20 = .ok (.iconst 0, 1) := by decide +kernel
theorem dX10_chosen_21 : decode cX10_chosen 21 = .ok (.istore_n 2, 1) := by decide +kernel
theorem dX10_chosen_22 : decode cX10_chosen 22 = .ok (.ldc2_w 185, 3) := by decide +kernel
theorem dX10_chosen_25 : decode cX10_chosen 25 = .ok (.lstore_n 3, 1) := by decide +kernel
theorem dX10_chosen_26 : decode cX10_chosen 26 = .ok (.iconst 1, 1) := by decide +kernel
theorem dX10_chosen_27 : decode cX10_chosen 27 = .ok (.istore 5, 2) := by decide +kernel
theorem dX10_chosen_29 : decode cX10_chosen 29 = .ok (.iload 5, 2) := by decide +kernel
theorem dX10_chosen_31 : decode cX10_chosen 31 = .ok (.aload_n 0, 1) := by decide +kernel
theorem dX10_chosen_32 : decode cX10_chosen 32 = .ok (.invokevirtual 182, 3) := by decide +kernel
theorem dX10_chosen_35 : decode cX10_chosen 35 = .ok (.if_icmp .gt 86, 3) := by decide +kernel
theorem dX10_chosen_38 : decode cX10_chosen 38 = .ok (.iconst 0, 1) := by decide +kernel
theorem dX10_chosen_39 : decode cX10_chosen 39 = .ok (.istore 6, 2) := by decide +kernel
theorem dX10_chosen_41 : decode cX10_chosen 41 = .ok (.iconst 0, 1) := by decide +kernel
theorem dX10_chosen_42 : decode cX10_chosen 42 = .ok (.istore 7, 2) := by decide +kernel
theorem dX10_chosen_44 : decode cX10_chosen 44 = .ok (.iload 7, 2) := by decide +kernel
theorem dX10_chosen_46 : decode cX10_chosen 46 = .ok (.aload_n 0, 1) := by decide +kernel
theorem dX10_chosen_47 : decode cX10_chosen 47 = .ok (.getfield 13, 3) := by decide +kernel
theorem dX10_chosen_50 : decode cX10_chosen 50 = .ok (.if_icmp .ge 21, 3) := by decide +kernel
theorem dX10_chosen_53 : decode cX10_chosen 53 = .ok (.iload 6, 2) := by decide +kernel
theorem dX10_chosen_55 : decode cX10_chosen 55 = .ok (.iload 5, 2) := by decide +kernel
theorem dX10_chosen_57 : decode cX10_chosen 57 = .ok (.iload 7, 2) := by decide +kernel
theorem dX10_chosen_59 : decode cX10_chosen 59 = .ok (.ishr, 1) := by decide +kernel
theorem dX10_chosen_60 : decode cX10_chosen 60 = .ok (.iconst 1, 1) := by decide +kernel
theorem dX10_chosen_61 : decode cX10_chosen 61 = .ok (.iand, 1) := by decide +kernel
theorem dX10_chosen_62 : decode cX10_chosen 62 = .ok (.iadd, 1) := by decide +kernel
theorem dX10_chosen_63 : decode cX10_chosen 63 = .ok (.istore 6, 2) := by decide +kernel
theorem dX10_chosen_65 : decode cX10_chosen 65 = .ok (.iinc 7 1, 3) := by decide +kernel
theorem dX10_chosen_68 : decode cX10_chosen 68 = .ok (.goto (-24), 3) := by decide +kernel
theorem dX10_chosen_71 : decode cX10_chosen 71 = .ok (.iload 6, 2) := by decide +kernel
theorem dX10_chosen_73 : decode cX10_chosen 73 = .ok (.iload_n 1, 1) := by decide +kernel
theorem dX10_chosen_74 : decode cX10_chosen 74 = .ok (.if_icmp .ne 41, 3) := by decide +kernel
theorem dX10_chosen_77 : decode cX10_chosen 77 = .ok (.aload_n 0, 1) := by decide +kernel
theorem dX10_chosen_78 : decode cX10_chosen 78 = .ok (.iload 5, 2) := by decide +kernel
theorem dX10_chosen_80 : decode cX10_chosen 80 = .ok (.invokevirtual 187, 3) := by decide +kernel
theorem dX10_chosen_83 : decode cX10_chosen 83 = .ok (.lstore 7, 2) := by decide +kernel
theorem dX10_chosen_85 : decode cX10_chosen 85 = .ok (.lload 7, 2) := by decide +kernel
theorem dX10_chosen_87 : decode cX10_chosen 87 = .ok (.lload_n 3, 1) := by decide +kernel
theorem dX10_chosen_88 : decode cX10_chosen 88 = .ok (.lcmp, 1) := by decide +kernel
theorem dX10_chosen_89 : decode cX10_chosen 89 = .ok (.ifCond .gt 20, 3) := by decide +kernel
theorem dX10_chosen_92 : decode cX10_chosen 92 = .ok (.lload 7, 2) := by decide +kernel
theorem dX10_chosen_94 : decode cX10_chosen 94 = .ok (.lload_n 3, 1) := by decide +kernel
theorem dX10_chosen_95 : decode cX10_chosen 95 = .ok (.lcmp, 1) := by decide +kernel
theorem dX10_chosen_96 : decode cX10_chosen 96 = .ok (.ifCond .ne 19, 3) := by decide +kernel
theorem dX10_chosen_99 : decode cX10_chosen 99 = .ok (.aload_n 0, 1) := by decide +kernel
theorem dX10_chosen_100 : decode cX10_chosen 100 = .ok (.iload 5, 2) := by decide +kernel
theorem dX10_chosen_102 : decode cX10_chosen 102 = .ok (.iload_n 2, 1) := by decide +kernel
theorem dX10_chosen_103 : decode cX10_chosen 103 = .ok (.invokevirtual 235, 3) := by decide +kernel
theorem dX10_chosen_106 : decode cX10_chosen 106 = .ok (.ifCond .eq 9, 3) := by decide +kernel
theorem dX10_chosen_109 : decode cX10_chosen 109 = .ok (.lload 7, 2) := by decide +kernel
theorem dX10_chosen_111 : decode cX10_chosen 111 = .ok (.lstore_n 3, 1) := by decide +kernel
theorem dX10_chosen_112 : decode cX10_chosen 112 = .ok (.iload 5, 2) := by decide +kernel
theorem dX10_chosen_114 : decode cX10_chosen 114 = .ok (.istore_n 2, 1) := by decide +kernel
theorem dX10_chosen_115 : decode cX10_chosen 115 = .ok (.iinc 5 1, 3) := by decide +kernel
theorem dX10_chosen_118 : decode cX10_chosen 118 = .ok (.goto (-89), 3) := by decide +kernel
theorem dX10_chosen_121 : decode cX10_chosen 121 = .ok (.iload_n 2, 1) := by decide +kernel
theorem dX10_chosen_122 : decode cX10_chosen 122 = .ok (.ireturn, 1) := by decide +kernel
set_option maxRecDepth 20000 in
theorem ggX10_isSheet_X10_in : GoodIn wsX10_isSheet wsX10_in := goodIn_r _ [5] (by decide +kernel) (by decide +kernel)
set_option maxRecDepth 20000 in
theorem gX10_isSheet_X10_in : GoodIn wsX10_isSheet (va_wsS RX10 77 yX10_in wsX10_in) := goodIn_app (goodIn_of _ (by decide +kernel)) ggX10_isSheet_X10_in
theorem dX10_isSheet_0 : decode cX10_isSheet 0 = .ok (.iload_n 0, 1) := by decide +kernel
theorem dX10_isSheet_1 : decode cX10_isSheet 1 = .ok (.i2l, 1) := by decide +kernel
theorem dX10_isSheet_2 : decode cX10_isSheet 2 = .ok (.lconst 0, 1) := by decide +kernel
theorem dX10_isSheet_3 : decode cX10_isSheet 3 = .ok (.ldc2_w 239, 3) := by decide +kernel
theorem dX10_isSheet_6 : decode cX10_isSheet 6 = .ok (.invokestatic 77, 3) := by decide +kernel
theorem dX10_isSheet_9 : decode cX10_isSheet 9 = .ok (.ireturn, 1) := by decide +kernel
set_option maxRecDepth 20000 in
theorem ggX10_isLane_X10_in : GoodIn wsX10_isLane wsX10_in := goodIn_r _ [5] (by decide +kernel) (by decide +kernel)
set_option maxRecDepth 20000 in
theorem gX10_isLane_X10_in : GoodIn wsX10_isLane (va_wsS RX10 77 yX10_in wsX10_in) := goodIn_app (goodIn_of _ (by decide +kernel)) ggX10_isLane_X10_in
theorem dX10_isLane_0 : decode cX10_isLane 0 = .ok (.iload_n 0, 1) := by decide +kernel
theorem dX10_isLane_1 : decode cX10_isLane 1 = .ok (.i2l, 1) := by decide +kernel
theorem dX10_isLane_2 : decode cX10_isLane 2 = .ok (.lconst 0, 1) := by decide +kernel
theorem dX10_isLane_3 : decode cX10_isLane 3 = .ok (.ldc2_w 233, 3) := by decide +kernel
theorem dX10_isLane_6 : decode cX10_isLane 6 = .ok (.invokestatic 77, 3) := by decide +kernel
theorem dX10_isLane_9 : decode cX10_isLane 9 = .ok (.ireturn, 1) := by decide +kernel
set_option maxRecDepth 20000 in
theorem ggX10_sheet_X10_isSheet : GoodIn wsX10_sheet wsX10_isSheet := goodIn_r _ [7, 8, 9, 10, 6, 11] (by decide +kernel) (by decide +kernel)
set_option maxRecDepth 20000 in
theorem gX10_sheet_X10_isSheet : GoodIn wsX10_sheet (va_wsS RX10 241 yX10_isSheet wsX10_isSheet) := goodIn_app (goodIn_of _ (by decide +kernel)) ggX10_sheet_X10_isSheet
set_option maxRecDepth 20000 in
theorem ggX10_sheet_X10_isLane : GoodIn wsX10_sheet wsX10_isLane := goodIn_r _ [14, 15, 9, 10, 6, 11] (by decide +kernel) (by decide +kernel)
set_option maxRecDepth 20000 in
theorem gX10_sheet_X10_isLane : GoodIn wsX10_sheet (va_wsS RX10 244 yX10_isLane wsX10_isLane) := goodIn_app (goodIn_of _ (by decide +kernel)) ggX10_sheet_X10_isLane
theorem dX10_sheet_0 : decode cX10_sheet 0 = .ok (.iload_n 1, 1) := by decide +kernel
theorem dX10_sheet_1 : decode cX10_sheet 1 = .ok (.invokestatic 241, 3) := by decide +kernel
theorem dX10_sheet_4 : decode cX10_sheet 4 = .ok (.ifCond .eq 16, 3) := by decide +kernel
theorem dX10_sheet_7 : decode cX10_sheet 7 = .ok (.iload_n 2, 1) := by decide +kernel
theorem dX10_sheet_8 : decode cX10_sheet 8 = .ok (.invokestatic 244, 3) := by decide +kernel
theorem dX10_sheet_11 : decode cX10_sheet 11 = .ok (.ifCond .eq 9, 3) := by decide +kernel
theorem dX10_sheet_14 : decode cX10_sheet 14 = .ok (.iload_n 3, 1) := by decide +kernel
theorem dX10_sheet_15 : decode cX10_sheet 15 = .ok (.bipush 25, 2) := by decide +kernel
theorem dX10_sheet_17 : decode cX10_sheet 17 = .ok (.if_icmp .le 5, 3) := by decide +kernel
theorem dX10_sheet_20 : decode cX10_sheet 20 = .ok (.iconst (-1), 1) := by decide +kernel
theorem dX10_sheet_21 : decode cX10_sheet 21 = .ok (.ireturn, 1) := by decide +kernel
theorem dX10_sheet_22 : decode cX10_sheet 22 = .ok (.iload_n 3, 1) := by decide +kernel
theorem dX10_sheet_23 : decode cX10_sheet 23 = .ok (.ifCond .ge 6, 3) := by decide +kernel
theorem dX10_sheet_26 : decode cX10_sheet 26 = .ok (.bipush (-14), 2) := by decide +kernel
theorem dX10_sheet_28 : decode cX10_sheet 28 = .ok (.ireturn, 1) := by decide +kernel
theorem dX10_sheet_29 : decode cX10_sheet 29 = .ok (.aload_n 0, 1) := by decide +kernel
theorem dX10_sheet_30 : decode cX10_sheet 30 = .ok (.getfield 60, 3) := by decide +kernel
theorem dX10_sheet_33 : decode cX10_sheet 33 = .ok (.iload_n 1, 1) := by decide +kernel
theorem dX10_sheet_34 : decode cX10_sheet 34 = .ok (.iload_n 2, 1) := by decide +kernel
theorem dX10_sheet_35 : decode cX10_sheet 35 = .ok (.iastore, 1) := by decide +kernel
theorem dX10_sheet_36 : decode cX10_sheet 36 = .ok (.aload_n 0, 1) := by decide +kernel
theorem dX10_sheet_37 : decode cX10_sheet 37 = .ok (.getfield 63, 3) := by decide +kernel
theorem dX10_sheet_40 : decode cX10_sheet 40 = .ok (.iload_n 1, 1) := by decide +kernel
theorem dX10_sheet_41 : decode cX10_sheet 41 = .ok (.iload_n 3, 1) := by decide +kernel
theorem dX10_sheet_42 : decode cX10_sheet 42 = .ok (.iastore, 1) := by decide +kernel
theorem dX10_sheet_43 : decode cX10_sheet 43 = .ok (.iconst 0, 1) := by decide +kernel
theorem dX10_sheet_44 : decode cX10_sheet 44 = .ok (.istore 4, 2) := by decide +kernel
theorem dX10_sheet_46 : decode cX10_sheet 46 = .ok (.iload 4, 2) := by decide +kernel
theorem dX10_sheet_48 : decode cX10_sheet 48 = .ok (.bipush 25, 2) := by decide +kernel
theorem dX10_sheet_50 : decode cX10_sheet 50 = .ok (.if_icmp .ge 22, 3) := by decide +kernel
theorem dX10_sheet_53 : decode cX10_sheet 53 = .ok (.aload_n 0, 1) := by decide +kernel
theorem dX10_sheet_54 : decode cX10_sheet 54 = .ok (.getfield 66, 3) := by decide +kernel
theorem dX10_sheet_57 : decode cX10_sheet 57 = .ok (.bipush 25, 2) := by decide +kernel
theorem dX10_sheet_59 : decode cX10_sheet 59 = .ok (.iload_n 1, 1) := by decide +kernel
theorem dX10_sheet_60 : decode cX10_sheet 60 = .ok (.imul, 1) := by decide +kernel
theorem dX10_sheet_61 : decode cX10_sheet 61 = .ok (.iload 4, 2) := by decide +kernel
theorem dX10_sheet_63 : decode cX10_sheet 63 = .ok (.iadd, 1) := by decide +kernel
theorem dX10_sheet_64 : decode cX10_sheet 64 = .ok (.iconst 0, 1) := by decide +kernel
theorem dX10_sheet_65 : decode cX10_sheet 65 = .ok (.iastore, 1) := by decide +kernel
theorem dX10_sheet_66 : decode cX10_sheet 66 = .ok (.iinc 4 1, 3) := by decide +kernel
theorem dX10_sheet_69 : decode cX10_sheet 69 = .ok (.goto (-23), 3) := by decide +kernel
theorem dX10_sheet_72 : decode cX10_sheet 72 = .ok (.iload_n 3, 1) := by decide +kernel
theorem dX10_sheet_73 : decode cX10_sheet 73 = .ok (.ireturn, 1) := by decide +kernel
set_option maxRecDepth 20000 in
theorem ggX10_drop_X10_isSheet : GoodIn wsX10_drop wsX10_isSheet := goodIn_r _ [6, 7, 8, 9, 5, 10] (by decide +kernel) (by decide +kernel)
set_option maxRecDepth 20000 in
theorem gX10_drop_X10_isSheet : GoodIn wsX10_drop (va_wsS RX10 241 yX10_isSheet wsX10_isSheet) := goodIn_app (goodIn_of _ (by decide +kernel)) ggX10_drop_X10_isSheet
theorem dX10_drop_0 : decode cX10_drop 0 = .ok (.iload_n 1, 1) := by decide +kernel
theorem dX10_drop_1 : decode cX10_drop 1 = .ok (.invokestatic 241, 3) := by decide +kernel
theorem dX10_drop_4 : decode cX10_drop 4 = .ok (.ifCond .ne 5, 3) := by decide +kernel
theorem dX10_drop_7 : decode cX10_drop 7 = .ok (.iconst (-1), 1) := by decide +kernel
theorem dX10_drop_8 : decode cX10_drop 8 = .ok (.ireturn, 1) := by decide +kernel
theorem dX10_drop_9 : decode cX10_drop 9 = .ok (.aload_n 0, 1) := by decide +kernel
theorem dX10_drop_10 : decode cX10_drop 10 = .ok (.getfield 60, 3) := by decide +kernel
theorem dX10_drop_13 : decode cX10_drop 13 = .ok (.iload_n 1, 1) := by decide +kernel
theorem dX10_drop_14 : decode cX10_drop 14 = .ok (.iaload, 1) := by decide +kernel
theorem dX10_drop_15 : decode cX10_drop 15 = .ok (.ifCond .ge 6, 3) := by decide +kernel
theorem dX10_drop_18 : decode cX10_drop 18 = .ok (.bipush (-11), 2) := by decide +kernel
theorem dX10_drop_20 : decode cX10_drop 20 = .ok (.ireturn, 1) := by decide +kernel
theorem dX10_drop_21 : decode cX10_drop 21 = .ok (.aload_n 0, 1) := by decide +kernel
theorem dX10_drop_22 : decode cX10_drop 22 = .ok (.getfield 60, 3) := by decide +kernel
theorem dX10_drop_25 : decode cX10_drop 25 = .ok (.iload_n 1, 1) := by decide +kernel
theorem dX10_drop_26 : decode cX10_drop 26 = .ok (.iconst (-1), 1) := by decide +kernel
theorem dX10_drop_27 : decode cX10_drop 27 = .ok (.iastore, 1) := by decide +kernel
theorem dX10_drop_28 : decode cX10_drop 28 = .ok (.aload_n 0, 1) := by decide +kernel
theorem dX10_drop_29 : decode cX10_drop 29 = .ok (.getfield 63, 3) := by decide +kernel
theorem dX10_drop_32 : decode cX10_drop 32 = .ok (.iload_n 1, 1) := by decide +kernel
theorem dX10_drop_33 : decode cX10_drop 33 = .ok (.iaload, 1) := by decide +kernel
theorem dX10_drop_34 : decode cX10_drop 34 = .ok (.ireturn, 1) := by decide +kernel
set_option maxRecDepth 20000 in
theorem ggX10_item_X10_isSheet : GoodIn wsX10_item wsX10_isSheet := goodIn_r _ [7, 8, 9, 10, 6, 11] (by decide +kernel) (by decide +kernel)
set_option maxRecDepth 20000 in
theorem gX10_item_X10_isSheet : GoodIn wsX10_item (va_wsS RX10 241 yX10_isSheet wsX10_isSheet) := goodIn_app (goodIn_of _ (by decide +kernel)) ggX10_item_X10_isSheet
set_option maxRecDepth 20000 in
theorem ggX10_item_X10_isLane : GoodIn wsX10_item wsX10_isLane := goodIn_r _ [14, 15, 9, 10, 6, 11] (by decide +kernel) (by decide +kernel)
set_option maxRecDepth 20000 in
theorem gX10_item_X10_isLane : GoodIn wsX10_item (va_wsS RX10 244 yX10_isLane wsX10_isLane) := goodIn_app (goodIn_of _ (by decide +kernel)) ggX10_item_X10_isLane
set_option maxRecDepth 20000 in
theorem ggX10_item_X10_in : GoodIn wsX10_item wsX10_in := goodIn_r _ [11] (by decide +kernel) (by decide +kernel)
set_option maxRecDepth 20000 in
theorem gX10_item_X10_in : GoodIn wsX10_item (va_wsS RX10 77 yX10_in wsX10_in) := goodIn_app (goodIn_of _ (by decide +kernel)) ggX10_item_X10_in
theorem dX10_item_0 : decode cX10_item 0 = .ok (.iload_n 1, 1) := by decide +kernel
theorem dX10_item_1 : decode cX10_item 1 = .ok (.invokestatic 241, 3) := by decide +kernel
theorem dX10_item_4 : decode cX10_item 4 = .ok (.ifCond .eq 10, 3) := by decide +kernel
theorem dX10_item_7 : decode cX10_item 7 = .ok (.iload_n 2, 1) := by decide +kernel
theorem dX10_item_8 : decode cX10_item 8 = .ok (.invokestatic 244, 3) := by decide +kernel
theorem dX10_item_11 : decode cX10_item 11 = .ok (.ifCond .ne 5, 3) := by decide +kernel
theorem dX10_item_14 : decode cX10_item 14 = .ok (.iconst (-1), 1) := by decide +kernel
theorem dX10_item_15 : decode cX10_item 15 = .ok (.ireturn, 1) := by decide +kernel
theorem dX10_item_16 : decode cX10_item 16 = .ok (.aload_n 0, 1) := by decide +kernel
theorem dX10_item_17 : decode cX10_item 17 = .ok (.getfield 60, 3) := by decide +kernel
theorem dX10_item_20 : decode cX10_item 20 = .ok (.iload_n 1, 1) := by decide +kernel
theorem dX10_item_21 : decode cX10_item 21 = .ok (.iaload, 1) := by decide +kernel
theorem dX10_item_22 : decode cX10_item 22 = .ok (.ifCond .ge 6, 3) := by decide +kernel
theorem dX10_item_25 : decode cX10_item 25 = .ok (.bipush (-11), 2) := by decide +kernel
theorem dX10_item_27 : decode cX10_item 27 = .ok (.ireturn, 1) := by decide +kernel
theorem dX10_item_28 : decode cX10_item 28 = .ok (.aload_n 0, 1) := by decide +kernel
theorem dX10_item_29 : decode cX10_item 29 = .ok (.getfield 60, 3) := by decide +kernel
theorem dX10_item_32 : decode cX10_item 32 = .ok (.iload_n 1, 1) := by decide +kernel
theorem dX10_item_33 : decode cX10_item 33 = .ok (.iaload, 1) := by decide +kernel
theorem dX10_item_34 : decode cX10_item 34 = .ok (.iload_n 2, 1) := by decide +kernel
theorem dX10_item_35 : decode cX10_item 35 = .ok (.if_icmp .eq 6, 3) := by decide +kernel
theorem dX10_item_38 : decode cX10_item 38 = .ok (.bipush (-12), 2) := by decide +kernel
theorem dX10_item_40 : decode cX10_item 40 = .ok (.ireturn, 1) := by decide +kernel
theorem dX10_item_41 : decode cX10_item 41 = .ok (.iload_n 3, 1) := by decide +kernel
theorem dX10_item_42 : decode cX10_item 42 = .ok (.i2l, 1) := by decide +kernel
theorem dX10_item_43 : decode cX10_item 43 = .ok (.lconst 0, 1) := by decide +kernel
theorem dX10_item_44 : decode cX10_item 44 = .ok (.aload_n 0, 1) := by decide +kernel
theorem dX10_item_45 : decode cX10_item 45 = .ok (.getfield 63, 3) := by decide +kernel
theorem dX10_item_48 : decode cX10_item 48 = .ok (.iload_n 1, 1) := by decide +kernel
theorem dX10_item_49 : decode cX10_item 49 = .ok (.iaload, 1) := by decide +kernel
theorem dX10_item_50 : decode cX10_item 50 = .ok (.iconst 1, 1) := by decide +kernel
theorem dX10_item_51 : decode cX10_item 51 = .ok (.isub, 1) := by decide +kernel
theorem dX10_item_52 : decode cX10_item 52 = .ok (.i2l, 1) := by decide +kernel
theorem dX10_item_53 : decode cX10_item 53 = .ok (.invokestatic 77, 3) := by decide +kernel
theorem dX10_item_56 : decode cX10_item 56 = .ok (.ifCond .ne 6, 3) := by decide +kernel
theorem dX10_item_59 : decode cX10_item 59 = .ok (.bipush (-13), 2) := by decide +kernel
theorem dX10_item_61 : decode cX10_item 61 = .ok (.ireturn, 1) := by decide +kernel
theorem dX10_item_62 : decode cX10_item 62 = .ok (.aload_n 0, 1) := by decide +kernel
theorem dX10_item_63 : decode cX10_item 63 = .ok (.getfield 66, 3) := by decide +kernel
theorem dX10_item_66 : decode cX10_item 66 = .ok (.bipush 25, 2) := by decide +kernel
theorem dX10_item_68 : decode cX10_item 68 = .ok (.iload_n 1, 1) := by decide +kernel
theorem dX10_item_69 : decode cX10_item 69 = .ok (.imul, 1) := by decide +kernel
theorem dX10_item_70 : decode cX10_item 70 = .ok (.iload_n 3, 1) := by decide +kernel
theorem dX10_item_71 : decode cX10_item 71 = .ok (.iadd, 1) := by decide +kernel
theorem dX10_item_72 : decode cX10_item 72 = .ok (.iload_n 2, 1) := by decide +kernel
theorem dX10_item_73 : decode cX10_item 73 = .ok (.ifCond .ne 9, 3) := by decide +kernel
theorem dX10_item_76 : decode cX10_item 76 = .ok (.iload 4, 2) := by decide +kernel
theorem dX10_item_78 : decode cX10_item 78 = .ok (.i2b, 1) := by decide +kernel
theorem dX10_item_79 : decode cX10_item 79 = .ok (.goto 5, 3) := by decide +kernel
theorem dX10_item_82 : decode cX10_item 82 = .ok (.iload 4, 2) := by decide +kernel
theorem dX10_item_84 : decode cX10_item 84 = .ok (.iastore, 1) := by decide +kernel
theorem dX10_item_85 : decode cX10_item 85 = .ok (.iconst 1, 1) := by decide +kernel
theorem dX10_item_86 : decode cX10_item 86 = .ok (.ireturn, 1) := by decide +kernel
set_option maxRecDepth 20000 in
theorem ggX10_rows_X10_isSheet : GoodIn wsX10_rows wsX10_isSheet := goodIn_r _ [10, 11, 12, 13, 9, 14] (by decide +kernel) (by decide +kernel)
set_option maxRecDepth 20000 in
theorem gX10_rows_X10_isSheet : GoodIn wsX10_rows (va_wsS RX10 241 yX10_isSheet wsX10_isSheet) := goodIn_app (goodIn_of _ (by decide +kernel)) ggX10_rows_X10_isSheet
set_option maxRecDepth 20000 in
theorem ggX10_rows_X10_isLane : GoodIn wsX10_rows wsX10_isLane := goodIn_r _ [17, 18, 12, 13, 9, 14] (by decide +kernel) (by decide +kernel)
set_option maxRecDepth 20000 in
theorem gX10_rows_X10_isLane : GoodIn wsX10_rows (va_wsS RX10 244 yX10_isLane wsX10_isLane) := goodIn_app (goodIn_of _ (by decide +kernel)) ggX10_rows_X10_isLane
set_option maxRecDepth 20000 in
theorem ggX10_rows_X10_in : GoodIn wsX10_rows wsX10_in := goodIn_r _ [14] (by decide +kernel) (by decide +kernel)
set_option maxRecDepth 20000 in
theorem gX10_rows_X10_in : GoodIn wsX10_rows (va_wsS RX10 77 yX10_in wsX10_in) := goodIn_app (goodIn_of _ (by decide +kernel)) ggX10_rows_X10_in
set_option maxRecDepth 20000 in
theorem ggX10_rows_X10_place : GoodIn wsX10_rows wsX10_place := goodIn_r _ [22, 2, 29, 30, 31, 32, 33, 34, 35, 36, 37, 38, 39, 40, 41, 42, 43, 44, 45, 46, 47, 48, 49, 50, 51, 52, 53, 54, 55, 56] (by decide +kernel) (by decide +kernel)
set_option maxRecDepth 20000 in
theorem gX10_rows_X10_place : GoodIn wsX10_rows (wsV RX10 97 RX10 yX10_place wsX10_place) := goodIn_app (goodIn_of _ (by decide +kernel)) ggX10_rows_X10_place
set_option maxRecDepth 20000 in
theorem ggX10_rows_X10_forget : GoodIn wsX10_rows wsX10_forget := goodIn_r _ [26, 27, 28, 29, 30, 31, 32, 33, 34, 35, 36, 37, 38, 39, 40, 41, 42, 43, 44, 45, 46, 47, 48, 49, 50, 51, 52, 53, 54, 55, 56] (by decide +kernel) (by decide +kernel)
set_option maxRecDepth 20000 in
theorem gX10_rows_X10_forget : GoodIn wsX10_rows (wsV RX10 83 RX10 yX10_forget wsX10_forget) := goodIn_app (goodIn_of _ (by decide +kernel)) ggX10_rows_X10_forget
theorem dX10_rows_0 : decode cX10_rows 0 = .ok (.iload_n 1, 1) := by decide +kernel
theorem dX10_rows_1 : decode cX10_rows 1 = .ok (.invokestatic 241, 3) := by decide +kernel
theorem dX10_rows_4 : decode cX10_rows 4 = .ok (.ifCond .eq 10, 3) := by decide +kernel
theorem dX10_rows_7 : decode cX10_rows 7 = .ok (.iload_n 2, 1) := by decide +kernel
theorem dX10_rows_8 : decode cX10_rows 8 = .ok (.invokestatic 244, 3) := by decide +kernel
theorem dX10_rows_11 : decode cX10_rows 11 = .ok (.ifCond .ne 5, 3) := by decide +kernel
theorem dX10_rows_14 : decode cX10_rows 14 = .ok (.iconst (-1), 1) := by decide +kernel
theorem dX10_rows_15 : decode cX10_rows 15 = .ok (.ireturn, 1) := by decide +kernel
theorem dX10_rows_16 : decode cX10_rows 16 = .ok (.aload_n 0, 1) := by decide +kernel
theorem dX10_rows_17 : decode cX10_rows 17 = .ok (.getfield 60, 3) := by decide +kernel
theorem dX10_rows_20 : decode cX10_rows 20 = .ok (.iload_n 1, 1) := by decide +kernel
theorem dX10_rows_21 : decode cX10_rows 21 = .ok (.iaload, 1) := by decide +kernel
theorem dX10_rows_22 : decode cX10_rows 22 = .ok (.ifCond .ge 6, 3) := by decide +kernel
theorem dX10_rows_25 : decode cX10_rows 25 = .ok (.bipush (-11), 2) := by decide +kernel
theorem dX10_rows_27 : decode cX10_rows 27 = .ok (.ireturn, 1) := by decide +kernel
theorem dX10_rows_28 : decode cX10_rows 28 = .ok (.aload_n 0, 1) := by decide +kernel
theorem dX10_rows_29 : decode cX10_rows 29 = .ok (.getfield 60, 3) := by decide +kernel
theorem dX10_rows_32 : decode cX10_rows 32 = .ok (.iload_n 1, 1) := by decide +kernel
theorem dX10_rows_33 : decode cX10_rows 33 = .ok (.iaload, 1) := by decide +kernel
theorem dX10_rows_34 : decode cX10_rows 34 = .ok (.iload_n 2, 1) := by decide +kernel
theorem dX10_rows_35 : decode cX10_rows 35 = .ok (.if_icmp .eq 6, 3) := by decide +kernel
theorem dX10_rows_38 : decode cX10_rows 38 = .ok (.bipush (-12), 2) := by decide +kernel
theorem dX10_rows_40 : decode cX10_rows 40 = .ok (.ireturn, 1) := by decide +kernel
theorem dX10_rows_41 : decode cX10_rows 41 = .ok (.aload_n 0, 1) := by decide +kernel
theorem dX10_rows_42 : decode cX10_rows 42 = .ok (.getfield 13, 3) := by decide +kernel
theorem dX10_rows_45 : decode cX10_rows 45 = .ok (.iconst 1, 1) := by decide +kernel
theorem dX10_rows_46 : decode cX10_rows 46 = .ok (.iadd, 1) := by decide +kernel
theorem dX10_rows_47 : decode cX10_rows 47 = .ok (.istore 4, 2) := by decide +kernel
theorem dX10_rows_49 : decode cX10_rows 49 = .ok (.iload_n 3, 1) := by decide +kernel
theorem dX10_rows_50 : decode cX10_rows 50 = .ok (.ifCond .lt 25, 3) := by decide +kernel
theorem dX10_rows_53 : decode cX10_rows 53 = .ok (.iload_n 3, 1) := by decide +kernel
theorem dX10_rows_54 : decode cX10_rows 54 = .ok (.i2l, 1) := by decide +kernel
theorem dX10_rows_55 : decode cX10_rows 55 = .ok (.aload_n 0, 1) := by decide +kernel
theorem dX10_rows_56 : decode cX10_rows 56 = .ok (.getfield 7, 3) := by decide +kernel
theorem dX10_rows_59 : decode cX10_rows 59 = .ok (.iload 4, 2) := by decide +kernel
theorem dX10_rows_61 : decode cX10_rows 61 = .ok (.imul, 1) := by decide +kernel
theorem dX10_rows_62 : decode cX10_rows 62 = .ok (.i2l, 1) := by decide +kernel
theorem dX10_rows_63 : decode cX10_rows 63 = .ok (.ladd, 1) := by decide +kernel
theorem dX10_rows_64 : decode cX10_rows 64 = .ok (.aload_n 0, 1) := by decide +kernel
theorem dX10_rows_65 : decode cX10_rows 65 = .ok (.getfield 63, 3) := by decide +kernel
theorem dX10_rows_68 : decode cX10_rows 68 = .ok (.iload_n 1, 1) := by decide +kernel
theorem dX10_rows_69 : decode cX10_rows 69 = .ok (.iaload, 1) := by decide +kernel
theorem dX10_rows_70 : decode cX10_rows 70 = .ok (.i2l, 1) := by decide +kernel
theorem dX10_rows_71 : decode cX10_rows 71 = .ok (.lcmp, 1) := by decide +kernel
theorem dX10_rows_72 : decode cX10_rows 72 = .ok (.ifCond .le 6, 3) := by decide +kernel
theorem dX10_rows_75 : decode cX10_rows 75 = .ok (.bipush (-13), 2) := by decide +kernel
theorem dX10_rows_77 : decode cX10_rows 77 = .ok (.ireturn, 1) := by decide +kernel
theorem dX10_rows_78 : decode cX10_rows 78 = .ok (.bipush 25, 2) := by decide +kernel
theorem dX10_rows_80 : decode cX10_rows 80 = .ok (.iload_n 1, 1) := by decide +kernel
theorem dX10_rows_81 : decode cX10_rows 81 = .ok (.imul, 1) := by decide +kernel
theorem dX10_rows_82 : decode cX10_rows 82 = .ok (.iload_n 3, 1) := by decide +kernel
theorem dX10_rows_83 : decode cX10_rows 83 = .ok (.iadd, 1) := by decide +kernel
theorem dX10_rows_84 : decode cX10_rows 84 = .ok (.istore 5, 2) := by decide +kernel
theorem dX10_rows_86 : decode cX10_rows 86 = .ok (.iconst 0, 1) := by decide +kernel
theorem dX10_rows_87 : decode cX10_rows 87 = .ok (.istore 6, 2) := by decide +kernel
theorem dX10_rows_89 : decode cX10_rows 89 = .ok (.iload 6, 2) := by decide +kernel
theorem dX10_rows_91 : decode cX10_rows 91 = .ok (.aload_n 0, 1) := by decide +kernel
theorem dX10_rows_92 : decode cX10_rows 92 = .ok (.getfield 7, 3) := by decide +kernel
theorem dX10_rows_95 : decode cX10_rows 95 = .ok (.iload 4, 2) := by decide +kernel
theorem dX10_rows_97 : decode cX10_rows 97 = .ok (.imul, 1) := by decide +kernel
theorem dX10_rows_98 : decode cX10_rows 98 = .ok (.if_icmp .ge 58, 3) := by decide +kernel
theorem dX10_rows_101 : decode cX10_rows 101 = .ok (.iload 6, 2) := by decide +kernel
theorem dX10_rows_103 : decode cX10_rows 103 = .ok (.iload 4, 2) := by decide +kernel
theorem dX10_rows_105 : decode cX10_rows 105 = .ok (.irem, 1) := by decide +kernel
theorem dX10_rows_106 : decode cX10_rows 106 = .ok (.aload_n 0, 1) := by decide +kernel
theorem dX10_rows_107 : decode cX10_rows 107 = .ok (.getfield 13, 3) := by decide +kernel
theorem dX10_rows_110 : decode cX10_rows 110 = .ok (.if_icmp .ne 9, 3) := by decide +kernel
theorem dX10_rows_113 : decode cX10_rows 113 = .ok (.sipush 999, 3) := by decide +kernel
theorem dX10_rows_116 : decode cX10_rows 116 = .ok (.goto 5, 3) := by decide +kernel
theorem dX10_rows_119 : decode cX10_rows 119 = .ok (.bipush 9, 2) := by decide +kernel
theorem dX10_rows_121 : decode cX10_rows 121 = .ok (.istore 7, 2) := by decide +kernel
theorem dX10_rows_123 : decode cX10_rows 123 = .ok (.aload_n 0, 1) := by decide +kernel
theorem dX10_rows_124 : decode cX10_rows 124 = .ok (.getfield 66, 3) := by decide +kernel
theorem dX10_rows_127 : decode cX10_rows 127 = .ok (.iload 5, 2) := by decide +kernel
theorem dX10_rows_129 : decode cX10_rows 129 = .ok (.iload 6, 2) := by decide +kernel
theorem dX10_rows_131 : decode cX10_rows 131 = .ok (.iadd, 1) := by decide +kernel
theorem dX10_rows_132 : decode cX10_rows 132 = .ok (.iaload, 1) := by decide +kernel
theorem dX10_rows_133 : decode cX10_rows 133 = .ok (.i2l, 1) := by decide +kernel
theorem dX10_rows_134 : decode cX10_rows 134 = .ok (.iload 7, 2) := by decide +kernel
theorem dX10_rows_136 : decode cX10_rows 136 = .ok (.ineg, 1) := by decide +kernel
theorem dX10_rows_137 : decode cX10_rows 137 = .ok (.i2l, 1) := by decide +kernel
theorem dX10_rows_138 : decode cX10_rows 138 = .ok (.iload 7, 2) := by decide +kernel
theorem dX10_rows_140 : decode cX10_rows 140 = .ok (.i2l, 1) := by decide +kernel
theorem dX10_rows_141 : decode cX10_rows 141 = .ok (.invokestatic 77, 3) := by decide +kernel
theorem dX10_rows_144 : decode cX10_rows 144 = .ok (.ifCond .ne 6, 3) := by decide +kernel
theorem dX10_rows_147 : decode cX10_rows 147 = .ok (.bipush (-2), 2) := by decide +kernel
theorem dX10_rows_149 : decode cX10_rows 149 = .ok (.ireturn, 1) := by decide +kernel
theorem dX10_rows_150 : decode cX10_rows 150 = .ok (.iinc 6 1, 3) := by decide +kernel
theorem dX10_rows_153 : decode cX10_rows 153 = .ok (.goto (-64), 3) := by decide +kernel
theorem dX10_rows_156 : decode cX10_rows 156 = .ok (.iconst 0, 1) := by decide +kernel
theorem dX10_rows_157 : decode cX10_rows 157 = .ok (.istore 6, 2) := by decide +kernel
theorem dX10_rows_159 : decode cX10_rows 159 = .ok (.iload 6, 2) := by decide +kernel
theorem dX10_rows_161 : decode cX10_rows 161 = .ok (.aload_n 0, 1) := by decide +kernel
theorem dX10_rows_162 : decode cX10_rows 162 = .ok (.getfield 7, 3) := by decide +kernel
theorem dX10_rows_165 : decode cX10_rows 165 = .ok (.iload 4, 2) := by decide +kernel
theorem dX10_rows_167 : decode cX10_rows 167 = .ok (.imul, 1) := by decide +kernel
theorem dX10_rows_168 : decode cX10_rows 168 = .ok (.if_icmp .ge 38, 3) := by decide +kernel
theorem dX10_rows_171 : decode cX10_rows 171 = .ok (.aload_n 0, 1) := by decide +kernel
theorem dX10_rows_172 : decode cX10_rows 172 = .ok (.getfield 19, 3) := by decide +kernel
theorem dX10_rows_175 : decode cX10_rows 175 = .ok (.aload_n 0, 1) := by decide +kernel
theorem dX10_rows_176 : decode cX10_rows 176 = .ok (.iload 6, 2) := by decide +kernel
theorem dX10_rows_178 : decode cX10_rows 178 = .ok (.iload 4, 2) := by decide +kernel
theorem dX10_rows_180 : decode cX10_rows 180 = .ok (.idiv, 1) := by decide +kernel
theorem dX10_rows_181 : decode cX10_rows 181 = .ok (.iload 6, 2) := by decide +kernel
theorem dX10_rows_183 : decode cX10_rows 183 = .ok (.iload 4, 2) := by decide +kernel
theorem dX10_rows_185 : decode cX10_rows 185 = .ok (.irem, 1) := by decide +kernel
theorem dX10_rows_186 : decode cX10_rows 186 = .ok (.invokevirtual 97, 3) := by decide +kernel
theorem dX10_rows_189 : decode cX10_rows 189 = .ok (.aload_n 0, 1) := by decide +kernel
theorem dX10_rows_190 : decode cX10_rows 190 = .ok (.getfield 66, 3) := by decide +kernel
theorem dX10_rows_193 : decode cX10_rows 193 = .ok (.iload 5, 2) := by decide +kernel
theorem dX10_rows_195 : decode cX10_rows 195 = .ok (.iload 6, 2) := by decide +kernel
theorem dX10_rows_197 : decode cX10_rows 197 = .ok (.iadd, 1) := by decide +kernel
theorem dX10_rows_198 : decode cX10_rows 198 = .ok (.iaload, 1) := by decide +kernel
theorem dX10_rows_199 : decode cX10_rows 199 = .ok (.iastore, 1) := by decide +kernel
theorem dX10_rows_200 : decode cX10_rows 200 = .ok (.iinc 6 1, 3) := by decide +kernel
theorem dX10_rows_203 : decode cX10_rows 203 = .ok (.goto (-44), 3) := by decide +kernel
theorem dX10_rows_206 : decode cX10_rows 206 = .ok (.aload_n 0, 1) := by decide +kernel
theorem dX10_rows_207 : decode cX10_rows 207 = .ok (.invokevirtual 83, 3) := by decide +kernel
theorem dX10_rows_210 : decode cX10_rows 210 = .ok (.aload_n 0, 1) := by decide +kernel
theorem dX10_rows_211 : decode cX10_rows 211 = .ok (.getfield 7, 3) := by decide +kernel
theorem dX10_rows_214 : decode cX10_rows 214 = .ok (.ireturn, 1) := by decide +kernel
