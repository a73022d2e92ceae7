set_option maxRecDepth 20000 in
theorem ggX9_init_X3_init : GoodIn wsX9_init wsX3_init := goodIn_r _ [41, 42, 2, 3, 43, 44, 45, 46, 47, 48, 49, 50, 119, 120, 121, 122, 123, 124] (by decide +kernel) (by decide +kernel)
set_option maxRecDepth 20000 in
theorem gX9_init_X3_init_n11 : GoodIn wsX9_init (wsX3_init) := ggX9_init_X3_init
set_option maxRecDepth 20000 in
theorem ggX9_init_X0_init : GoodIn wsX9_init wsX0_init := goodIn_r _ [53, 54, 2, 3, 48, 55, 56, 57, 58, 59, 60, 61, 62, 134, 135, 136, 137, 138, 139, 140, 141] (by decide +kernel) (by decide +kernel)
set_option maxRecDepth 20000 in
theorem gX9_init_X0_init : GoodIn wsX9_init (wsX0_init) := ggX9_init_X0_init
set_option maxRecDepth 20000 in
theorem ggX9_init_X7_init : GoodIn wsX9_init wsX7_init := goodIn_r _ [64, 65, 2, 3, 66, 67, 68, 142, 143] (by decide +kernel) (by decide +kernel)
set_option maxRecDepth 20000 in
theorem gX9_init_X7_init_n27 : GoodIn wsX9_init (wsX7_init) := ggX9_init_X7_init
set_option maxRecDepth 20000 in
theorem ggX9_init_X4_init : GoodIn wsX9_init wsX4_init := goodIn_r _ [71, 72, 2, 3, 73, 48, 74, 75, 144, 145, 146, 147, 148, 149] (by decide +kernel) (by decide +kernel)
set_option maxRecDepth 20000 in
theorem gX9_init_X4_init : GoodIn wsX9_init (wsX4_init) := ggX9_init_X4_init
set_option maxRecDepth 20000 in
theorem ggX9_init_X8_init : GoodIn wsX9_init wsX8_init := goodIn_r _ [78, 79, 2, 3, 48, 80, 81, 82, 83, 84, 85, 150, 151, 152, 153, 154, 155] (by decide +kernel) (by decide +kernel)
set_option maxRecDepth 20000 in
theorem gX9_init_X8_init : GoodIn wsX9_init (wsX8_init) := ggX9_init_X8_init
set_option maxRecDepth 20000 in
theorem ggX9_init_X2_init : GoodIn wsX9_init wsX2_init := goodIn_r _ [87, 88, 2, 3, 89, 90, 91, 92, 48, 93, 94, 156, 157, 158, 159, 160] (by decide +kernel) (by decide +kernel)
set_option maxRecDepth 20000 in
theorem gX9_init_X2_init_n50 : GoodIn wsX9_init (wsX2_init) := ggX9_init_X2_init
set_option maxRecDepth 20000 in
theorem ggX9_init_X6_init : GoodIn wsX9_init wsX6_init := goodIn_r _ [97, 98, 2, 3, 48, 99, 100, 101, 102, 161, 162, 163, 164] (by decide +kernel) (by decide +kernel)
set_option maxRecDepth 20000 in
theorem gX9_init_X6_init : GoodIn wsX9_init (wsX6_init) := ggX9_init_X6_init
set_option maxRecDepth 20000 in
theorem ggX9_init_X1_init : GoodIn wsX9_init wsX1_init := goodIn_r _ [105, 106, 2, 3, 107, 48, 108, 109, 110, 111, 112, 165, 166, 167, 168, 169, 170] (by decide +kernel) (by decide +kernel)
set_option maxRecDepth 20000 in
theorem gX9_init_X1_init : GoodIn wsX9_init (wsX1_init) := ggX9_init_X1_init
set_option maxRecDepth 20000 in
theorem ggX9_init_X5_init : GoodIn wsX9_init wsX5_init := goodIn_r _ [114, 115, 2, 3, 116, 117, 90, 118, 171, 172, 173] (by decide +kernel) (by decide +kernel)
set_option maxRecDepth 20000 in
theorem gX9_init_X5_init_n75 : GoodIn wsX9_init (wsX5_init) := ggX9_init_X5_init
theorem dX9_init_0 : decode cX9_init 0 = .ok (.aload_n 0, 1) := by decide +kernel
theorem dX9_init_1 : decode cX9_init 1 = .ok (.invokespecial 3, 3) := by decide +kernel
theorem dX9_init_4 : decode cX9_init 4 = .ok (.aload_n 0, 1) := by decide +kernel
theorem dX9_init_5 : decode cX9_init 5 = .ok (.new 9, 3) := by decide +kernel
theorem dX9_init_8 : decode cX9_init 8 = .ok (.dup, 1) := by decide +kernel
theorem dX9_init_9 : decode cX9_init 9 = .ok (.invokespecial 11, 3) := by decide +kernel
theorem dX9_init_12 : decode cX9_init 12 = .ok (.putfield 12, 3) := by decide +kernel
theorem dX9_init_15 : decode cX9_init 15 = .ok (.aload_n 0, 1) := by decide +kernel
theorem dX9_init_16 : decode cX9_init 16 = .ok (.new 16, 3) := by decide +kernel
theorem dX9_init_19 : decode cX9_init 19 = .ok (.dup, 1) := by decide +kernel
theorem dX9_init_20 : decode cX9_init 20 = .ok (.aload_n 0, 1) := by decide +kernel
theorem dX9_init_21 : decode cX9_init 21 = .ok (.getfield 12, 3) := by decide +kernel
theorem dX9_init_24 : decode cX9_init 24 = .ok (.invokespecial 18, 3) := by decide +kernel
theorem dX9_init_27 : decode cX9_init 27 = .ok (.putfield 21, 3) := by decide +kernel
theorem dX9_init_30 : decode cX9_init 30 = .ok (.aload_n 0, 1) := by decide +kernel
theorem dX9_init_31 : decode cX9_init 31 = .ok (.new 25, 3) := by decide +kernel
theorem dX9_init_34 : decode cX9_init 34 = .ok (.dup, 1) := by decide +kernel
theorem dX9_init_35 : decode cX9_init 35 = .ok (.invokespecial 27, 3) := by decide +kernel
theorem dX9_init_38 : decode cX9_init 38 = .ok (.putfield 28, 3) := by decide +kernel
theorem dX9_init_41 : decode cX9_init 41 = .ok (.aload_n 0, 1) := by decide +kernel
theorem dX9_init_42 : decode cX9_init 42 = .ok (.new 32, 3) := by decide +kernel
theorem dX9_init_45 : decode cX9_init 45 = .ok (.dup, 1) := by decide +kernel
theorem dX9_init_46 : decode cX9_init 46 = .ok (.aload_n 0, 1) := by decide +kernel
theorem dX9_init_47 : decode cX9_init 47 = .ok (.getfield 28, 3) := by decide +kernel
theorem dX9_init_50 : decode cX9_init 50 = .ok (.invokespecial 34, 3) := by decide +kernel
theorem dX9_init_53 : decode cX9_init 53 = .ok (.putfield 37, 3) := by decide +kernel
theorem dX9_init_56 : decode cX9_init 56 = .ok (.aload_n 0, 1) := by decide +kernel
theorem dX9_init_57 : decode cX9_init 57 = .ok (.new 41, 3) := by decide +kernel
theorem dX9_init_60 : decode cX9_init 60 = .ok (.dup, 1) := by decide +kernel
theorem dX9_init_61 : decode cX9_init 61 = .ok (.aload_n 0, 1) := by decide +kernel
theorem dX9_init_62 : decode cX9_init 62 = .ok (.getfield 12, 3) := by decide +kernel
theorem dX9_init_65 : decode cX9_init 65 = .ok (.invokespecial 43, 3) := by decide +kernel
theorem dX9_init_68 : decode cX9_init 68 = .ok (.putfield 44, 3) := by decide +kernel
theorem dX9_init_71 : decode cX9_init 71 = .ok (.aload_n 0, 1) := by decide +kernel
theorem dX9_init_72 : decode cX9_init 72 = .ok (.new 48, 3) := by decide +kernel
theorem dX9_init_75 : decode cX9_init 75 = .ok (.dup, 1) := by decide +kernel
theorem dX9_init_76 : decode cX9_init 76 = .ok (.invokespecial 50, 3) := by decide +kernel
theorem dX9_init_79 : decode cX9_init 79 = .ok (.putfield 51, 3) := by decide +kernel
theorem dX9_init_82 : decode cX9_init 82 = .ok (.aload_n 0, 1) := by decide +kernel
theorem dX9_init_83 : decode cX9_init 83 = .ok (.new 55, 3) := by decide +kernel
theorem dX9_init_86 : decode cX9_init 86 = .ok (.dup, 1) := by decide +kernel
theorem dX9_init_87 : decode cX9_init 87 = .ok (.aload_n 0, 1) := by decide +kernel
theorem dX9_init_88 : decode cX9_init 88 = .ok (.getfield 12, 3) := by decide +kernel
theorem dX9_init_91 : decode cX9_init 91 = .ok (.invokespecial 57, 3) := by decide +kernel
theorem dX9_init_94 : decode cX9_init 94 = .ok (.putfield 58, 3) := by decide +kernel
theorem dX9_init_97 : decode cX9_init 97 = .ok (.aload_n 0, 1) := by decide +kernel
theorem dX9_init_98 : decode cX9_init 98 = .ok (.new 62, 3) := by decide +kernel
theorem dX9_init_101 : decode cX9_init 101 = .ok (.dup, 1) := by decide +kernel
theorem dX9_init_102 : decode cX9_init 102 = .ok (.aload_n 0, 1) := by decide +kernel
theorem dX9_init_103 : decode cX9_init 103 = .ok (.getfield 12, 3) := by decide +kernel
theorem dX9_init_106 : decode cX9_init 106 = .ok (.invokespecial 64, 3) := by decide +kernel
theorem dX9_init_109 : decode cX9_init 109 = .ok (.putfield 65, 3) := by decide +kernel
theorem dX9_init_112 : decode cX9_init 112 = .ok (.aload_n 0, 1) := by decide +kernel
theorem dX9_init_113 : decode cX9_init 113 = .ok (.iconst 4, 1) := by decide +kernel
theorem dX9_init_114 : decode cX9_init 114 = .ok (.anewarray 69, 3) := by decide +kernel
theorem dX9_init_117 : decode cX9_init 117 = .ok (.putfield 71, 3) := by decide +kernel
theorem dX9_init_120 : decode cX9_init 120 = .ok (.iconst 0, 1) := by decide +kernel
theorem dX9_init_121 : decode cX9_init 121 = .ok (.istore_n 1, 1) := by decide +kernel
theorem dX9_init_122 : decode cX9_init 122 = .ok (.iload_n 1, 1) := by decide +kernel
theorem dX9_init_123 : decode cX9_init 123 = .ok (.iconst 4, 1) := by decide +kernel
theorem dX9_init_124 : decode cX9_init 124 = .ok (.if_icmp .ge 22, 3) := by decide +kernel
theorem dX9_init_127 : decode cX9_init 127 = .ok (.aload_n 0, 1) := by decide +kernel
theorem dX9_init_128 : decode cX9_init 128 = .ok (.getfield 71, 3) := by decide +kernel
theorem dX9_init_131 : decode cX9_init 131 = .ok (.iload_n 1, 1) := by decide +kernel
theorem dX9_init_132 : decode cX9_init 132 = .ok (.new 69, 3) := by decide +kernel
theorem dX9_init_135 : decode cX9_init 135 = .ok (.dup, 1) := by decide +kernel
theorem dX9_init_136 : decode cX9_init 136 = .ok (.invokespecial 75, 3) := by decide +kernel
theorem dX9_init_139 : decode cX9_init 139 = .ok (.aastore, 1) := by decide +kernel
theorem dX9_init_140 : decode cX9_init 140 = .ok (.iinc 1 1, 3) := by decide +kernel
theorem dX9_init_143 : decode cX9_init 143 = .ok (.goto (-21), 3) := by decide +kernel
theorem dX9_init_146 : decode cX9_init 146 = .ok (.return_, 1) := by decide +kernel
set_option maxRecDepth 20000 in
theorem ggX9_table_X3_reshape : GoodIn wsX9_table wsX3_reshape := goodIn_r _ [7, 8, 9, 10, 11, 12, 13, 14, 15, 16, 34, 35, 36, 37, 38, 39] (by decide +kernel) (by decide +kernel)
set_option maxRecDepth 20000 in
theorem gX9_table_X3_reshape : GoodIn wsX9_table (wsV RX9 76 RX3 yX3_reshape wsX3_reshape) := goodIn_app (goodIn_of _ (by decide +kernel)) ggX9_table_X3_reshape
set_option maxRecDepth 20000 in
theorem ggX9_table_X0_forget : GoodIn wsX9_table wsX0_forget := goodIn_r _ [21, 22, 23, 24, 40, 41, 42, 43, 44, 45, 46, 47] (by decide +kernel) (by decide +kernel)
set_option maxRecDepth 20000 in
theorem gX9_table_X0_forget : GoodIn wsX9_table (wsV RX9 80 RX0 yX0_forget wsX0_forget) := goodIn_app (goodIn_of _ (by decide +kernel)) ggX9_table_X0_forget
theorem dX9_table_0 : decode cX9_table 0 = .ok (.iload_n 1, 1) := by decide +kernel
theorem dX9_table_1 : decode cX9_table 1 = .ok (.iconst 1, 1) := by decide +kernel
theorem dX9_table_2 : decode cX9_table 2 = .ok (.if_icmp .lt 18, 3) := by decide +kernel
theorem dX9_table_5 : decode cX9_table 5 = .ok (.iload_n 1, 1) := by decide +kernel
theorem dX9_table_6 : decode cX9_table 6 = .ok (.iconst 5, 1) := by decide +kernel
theorem dX9_table_7 : decode cX9_table 7 = .ok (.if_icmp .gt 13, 3) := by decide +kernel
theorem dX9_table_10 : decode cX9_table 10 = .ok (.iload_n 2, 1) := by decide +kernel
theorem dX9_table_11 : decode cX9_table 11 = .ok (.iconst 1, 1) := by decide +kernel
theorem dX9_table_12 : decode cX9_table 12 = .ok (.if_icmp .lt 8, 3) := by decide +kernel
theorem dX9_table_15 : decode cX9_table 15 = .ok (.iload_n 2, 1) := by decide +kernel
theorem dX9_table_16 : decode cX9_table 16 = .ok (.iconst 4, 1) := by decide +kernel
theorem dX9_table_17 : decode cX9_table 17 = .ok (.if_icmp .le 5, 3) := by decide +kernel
theorem dX9_table_20 : decode cX9_table 20 = .ok (.iconst (-1), 1) := by decide +kernel
theorem dX9_table_21 : decode cX9_table 21 = .ok (.ireturn, 1) := by decide +kernel
theorem dX9_table_22 : decode cX9_table 22 = .ok (.aload_n 0, 1) := by decide +kernel
theorem dX9_table_23 : decode cX9_table 23 = .ok (.getfield 12, 3) := by decide +kernel
theorem dX9_table_26 : decode cX9_table 26 = .ok (.iload_n 1, 1) := by decide +kernel
theorem dX9_table_27 : decode cX9_table 27 = .ok (.iload_n 2, 1) := by decide +kernel
theorem dX9_table_28 : decode cX9_table 28 = .ok (.invokevirtual 76, 3) := by decide +kernel
theorem dX9_table_31 : decode cX9_table 31 = .ok (.aload_n 0, 1) := by decide +kernel
theorem dX9_table_32 : decode cX9_table 32 = .ok (.getfield 21, 3) := by decide +kernel
theorem dX9_table_35 : decode cX9_table 35 = .ok (.invokevirtual 80, 3) := by decide +kernel
theorem dX9_table_38 : decode cX9_table 38 = .ok (.iconst 1, 1) := by decide +kernel
theorem dX9_table_39 : decode cX9_table 39 = .ok (.ireturn, 1) := by decide +kernel
set_option maxRecDepth 20000 in
theorem ggX9_letters_X3_choose : GoodIn wsX9_letters wsX3_choose := goodIn_r _ [8, 9, 10, 28, 29, 30, 31, 32, 33] (by decide +kernel) (by decide +kernel)
set_option maxRecDepth 20000 in
theorem gX9_letters_X3_choose : GoodIn wsX9_letters (wsV RX9 87 RX3 yX3_choose wsX3_choose) := goodIn_app (goodIn_of _ (by decide +kernel)) ggX9_letters_X3_choose
set_option maxRecDepth 20000 in
theorem ggX9_letters_X0_forget : GoodIn wsX9_letters wsX0_forget := goodIn_r _ [15, 16, 17, 18, 34, 35, 36, 37, 38, 39, 40, 41] (by decide +kernel) (by decide +kernel)
set_option maxRecDepth 20000 in
theorem gX9_letters_X0_forget : GoodIn wsX9_letters (wsV RX9 80 RX0 yX0_forget wsX0_forget) := goodIn_app (goodIn_of _ (by decide +kernel)) ggX9_letters_X0_forget
theorem dX9_letters_0 : decode cX9_letters 0 = .ok (.iload_n 1, 1) := by decide +kernel
theorem dX9_letters_1 : decode cX9_letters 1 = .ok (.iconst 2, 1) := by decide +kernel
theorem dX9_letters_2 : decode cX9_letters 2 = .ok (.if_icmp .eq 10, 3) := by decide +kernel
theorem dX9_letters_5 : decode cX9_letters 5 = .ok (.iload_n 1, 1) := by decide +kernel
theorem dX9_letters_6 : decode cX9_letters 6 = .ok (.iconst 4, 1) := by decide +kernel
theorem dX9_letters_7 : decode cX9_letters 7 = .ok (.if_icmp .eq 5, 3) := by decide +kernel
theorem dX9_letters_10 : decode cX9_letters 10 = .ok (.iconst (-1), 1) := by decide +kernel
theorem dX9_letters_11 : decode cX9_letters 11 = .ok (.ireturn, 1) := by decide +kernel
theorem dX9_letters_12 : decode cX9_letters 12 = .ok (.aload_n 0, 1) := by decide +kernel
theorem dX9_letters_13 : decode cX9_letters 13 = .ok (.getfield 12, 3) := by decide +kernel
theorem dX9_letters_16 : decode cX9_letters 16 = .ok (.getfield 83, 3) := by decide +kernel
theorem dX9_letters_19 : decode cX9_letters 19 = .ok (.istore_n 2, 1) := by decide +kernel
theorem dX9_letters_20 : decode cX9_letters 20 = .ok (.aload_n 0, 1) := by decide +kernel
theorem dX9_letters_21 : decode cX9_letters 21 = .ok (.getfield 12, 3) := by decide +kernel
theorem dX9_letters_24 : decode cX9_letters 24 = .ok (.iload_n 1, 1) := by decide +kernel
theorem dX9_letters_25 : decode cX9_letters 25 = .ok (.invokevirtual 87, 3) := by decide +kernel
theorem dX9_letters_28 : decode cX9_letters 28 = .ok (.aload_n 0, 1) := by decide +kernel
theorem dX9_letters_29 : decode cX9_letters 29 = .ok (.getfield 21, 3) := by decide +kernel
theorem dX9_letters_32 : decode cX9_letters 32 = .ok (.invokevirtual 80, 3) := by decide +kernel
theorem dX9_letters_35 : decode cX9_letters 35 = .ok (.iload_n 2, 1) := by decide +kernel
theorem dX9_letters_36 : decode cX9_letters 36 = .ok (.ireturn, 1) := by decide +kernel
set_option maxRecDepth 20000 in
theorem ggX9_set_X3_hasRow : GoodIn wsX9_set wsX3_hasRow := goodIn_r _ [7, 8, 51, 52, 53, 54, 55, 56] (by decide +kernel) (by decide +kernel)
set_option maxRecDepth 20000 in
theorem gX9_set_X3_hasRow : GoodIn wsX9_set (wsV RX9 91 RX3 yX3_hasRow wsX3_hasRow) := goodIn_app (goodIn_of _ (by decide +kernel)) ggX9_set_X3_hasRow
set_option maxRecDepth 20000 in
theorem ggX9_set_X3_hasColumn : GoodIn wsX9_set wsX3_hasColumn := goodIn_r _ [12, 13, 51, 52, 53, 54, 55, 56] (by decide +kernel) (by decide +kernel)
set_option maxRecDepth 20000 in
theorem gX9_set_X3_hasColumn : GoodIn wsX9_set (wsV RX9 95 RX3 yX3_hasColumn wsX3_hasColumn) := goodIn_app (goodIn_of _ (by decide +kernel)) ggX9_set_X3_hasColumn
set_option maxRecDepth 20000 in
theorem ggX9_set_X9_within : GoodIn wsX9_set wsX9_within := goodIn_r _ [17] (by decide +kernel) (by decide +kernel)
set_option maxRecDepth 20000 in
theorem gX9_set_X9_within : GoodIn wsX9_set (va_wsS RX9 98 yX9_within wsX9_within) := goodIn_app (goodIn_of _ (by decide +kernel)) ggX9_set_X9_within
set_option maxRecDepth 20000 in
theorem ggX9_set_X0_take : GoodIn wsX9_set wsX0_take := goodIn_r _ [22, 23, 24, 25, 26, 27, 28, 29, 30, 31, 32, 33, 6, 34, 13, 35, 36, 37, 38, 39, 40, 41, 57, 58, 59, 60, 61, 62, 63, 64, 51, 52, 53, 54, 55, 56] (by decide +kernel) (by decide +kernel)
set_option maxRecDepth 20000 in
theorem gX9_set_X0_take : GoodIn wsX9_set (wsV RX9 102 RX0 yX0_take wsX0_take) := goodIn_app (goodIn_of _ (by decide +kernel)) ggX9_set_X0_take
theorem dX9_set_0 : decode cX9_set 0 = .ok (.aload_n 0, 1) := by decide +kernel
theorem dX9_set_1 : decode cX9_set 1 = .ok (.getfield 12, 3) := by decide +kernel
theorem dX9_set_4 : decode cX9_set 4 = .ok (.iload_n 1, 1) := by decide +kernel
theorem dX9_set_5 : decode cX9_set 5 = .ok (.invokevirtual 91, 3) := by decide +kernel
theorem dX9_set_8 : decode cX9_set 8 = .ok (.ifCond .eq 24, 3) := by decide +kernel
theorem dX9_set_11 : decode cX9_set 11 = .ok (.aload_n 0, 1) := by decide +kernel
theorem dX9_set_12 : decode cX9_set 12 = .ok (.getfield 12, 3) := by decide +kernel
theorem dX9_set_15 : decode cX9_set 15 = .ok (.iload_n 2, 1) := by decide +kernel
theorem dX9_set_16 : decode cX9_set 16 = .ok (.invokevirtual 95, 3) := by decide +kernel
theorem dX9_set_19 : decode cX9_set 19 = .ok (.ifCond .eq 13, 3) := by decide +kernel
theorem dX9_set_22 : decode cX9_set 22 = .ok (.iload_n 3, 1) := by decide +kernel
theorem dX9_set_23 : decode cX9_set 23 = .ok (.i2l, 1) := by decide +kernel
theorem dX9_set_24 : decode cX9_set 24 = .ok (.bipush 9, 2) := by decide +kernel
theorem dX9_set_26 : decode cX9_set 26 = .ok (.invokestatic 98, 3) := by decide +kernel
theorem dX9_set_29 : decode cX9_set 29 = .ok (.ifCond .ne 6, 3) := by decide +kernel
theorem dX9_set_32 : decode cX9_set 32 = .ok (.bipush (-101), 2) := by decide +kernel
theorem dX9_set_34 : decode cX9_set 34 = .ok (.ireturn, 1) := by decide +kernel
theorem dX9_set_35 : decode cX9_set 35 = .ok (.aload_n 0, 1) := by decide +kernel
theorem dX9_set_36 : decode cX9_set 36 = .ok (.getfield 21, 3) := by decide +kernel
theorem dX9_set_39 : decode cX9_set 39 = .ok (.iload_n 1, 1) := by decide +kernel
theorem dX9_set_40 : decode cX9_set 40 = .ok (.iload_n 2, 1) := by decide +kernel
theorem dX9_set_41 : decode cX9_set 41 = .ok (.iload_n 3, 1) := by decide +kernel
theorem dX9_set_42 : decode cX9_set 42 = .ok (.invokevirtual 102, 3) := by decide +kernel
theorem dX9_set_45 : decode cX9_set 45 = .ok (.ireturn, 1) := by decide +kernel
set_option maxRecDepth 20000 in
theorem ggX9_hear_X3_hasRow : GoodIn wsX9_hear wsX3_hasRow := goodIn_r _ [8, 9, 48, 49, 50, 51, 52, 53] (by decide +kernel) (by decide +kernel)
set_option maxRecDepth 20000 in
theorem gX9_hear_X3_hasRow : GoodIn wsX9_hear (wsV RX9 91 RX3 yX3_hasRow wsX3_hasRow) := goodIn_app (goodIn_of _ (by decide +kernel)) ggX9_hear_X3_hasRow
set_option maxRecDepth 20000 in
theorem ggX9_hear_X9_within : GoodIn wsX9_hear wsX9_within := goodIn_r _ [13] (by decide +kernel) (by decide +kernel)
set_option maxRecDepth 20000 in
theorem gX9_hear_X9_within : GoodIn wsX9_hear (va_wsS RX9 98 yX9_within wsX9_within) := goodIn_app (goodIn_of _ (by decide +kernel)) ggX9_hear_X9_within
set_option maxRecDepth 20000 in
theorem ggX9_hear_X0_take : GoodIn wsX9_hear wsX0_take := goodIn_r _ [18, 19, 20, 21, 22, 23, 24, 25, 26, 27, 28, 29, 7, 30, 31, 32, 33, 34, 35, 36, 37, 38, 54, 55, 56, 57, 58, 59, 60, 61, 48, 49, 50, 51, 52, 53] (by decide +kernel) (by decide +kernel)
set_option maxRecDepth 20000 in
theorem gX9_hear_X0_take : GoodIn wsX9_hear (wsV RX9 102 RX0 yX0_take wsX0_take) := goodIn_app (goodIn_of _ (by decide +kernel)) ggX9_hear_X0_take
theorem dX9_hear_0 : decode cX9_hear 0 = .ok (.aload_n 0, 1) := by decide +kernel
theorem dX9_hear_1 : decode cX9_hear 1 = .ok (.getfield 12, 3) := by decide +kernel
theorem dX9_hear_4 : decode cX9_hear 4 = .ok (.iload_n 1, 1) := by decide +kernel
theorem dX9_hear_5 : decode cX9_hear 5 = .ok (.invokevirtual 91, 3) := by decide +kernel
theorem dX9_hear_8 : decode cX9_hear 8 = .ok (.ifCond .eq 14, 3) := by decide +kernel
theorem dX9_hear_11 : decode cX9_hear 11 = .ok (.iload_n 2, 1) := by decide +kernel
theorem dX9_hear_12 : decode cX9_hear 12 = .ok (.i2l, 1) := by decide +kernel
theorem dX9_hear_13 : decode cX9_hear 13 = .ok (.sipush 999, 3) := by decide +kernel
theorem dX9_hear_16 : decode cX9_hear 16 = .ok (.invokestatic 98, 3) := by decide +kernel
theorem dX9_hear_19 : decode cX9_hear 19 = .ok (.ifCond .ne 7, 3) := by decide +kernel
theorem dX9_hear_22 : decode cX9_hear 22 = .ok (.sipush (-10001), 3) := by decide +kernel
theorem dX9_hear_25 : decode cX9_hear 25 = .ok (.ireturn, 1) := by decide +kernel
theorem dX9_hear_26 : decode cX9_hear 26 = .ok (.aload_n 0, 1) := by decide +kernel
theorem dX9_hear_27 : decode cX9_hear 27 = .ok (.getfield 21, 3) := by decide +kernel
theorem dX9_hear_30 : decode cX9_hear 30 = .ok (.iload_n 1, 1) := by decide +kernel
theorem dX9_hear_31 : decode cX9_hear 31 = .ok (.aload_n 0, 1) := by decide +kernel
theorem dX9_hear_32 : decode cX9_hear 32 = .ok (.getfield 12, 3) := by decide +kernel
theorem dX9_hear_35 : decode cX9_hear 35 = .ok (.getfield 106, 3) := by decide +kernel
theorem dX9_hear_38 : decode cX9_hear 38 = .ok (.iload_n 2, 1) := by decide +kernel
theorem dX9_hear_39 : decode cX9_hear 39 = .ok (.invokevirtual 102, 3) := by decide +kernel
theorem dX9_hear_42 : decode cX9_hear 42 = .ok (.ireturn, 1) := by decide +kernel
set_option maxRecDepth 20000 in
theorem ggX9_undo_X0_canGoBack : GoodIn wsX9_undo wsX0_canGoBack := goodIn_r _ [6, 7, 36, 37, 38, 39, 40, 41, 42, 43] (by decide +kernel) (by decide +kernel)
set_option maxRecDepth 20000 in
theorem gX9_undo_X0_canGoBack : GoodIn wsX9_undo (wsV RX9 109 RX0 yX0_canGoBack wsX0_canGoBack) := goodIn_app (goodIn_of _ (by decide +kernel)) ggX9_undo_X0_canGoBack
set_option maxRecDepth 20000 in
theorem ggX9_undo_X0_goBack : GoodIn wsX9_undo wsX0_goBack := goodIn_r _ [11, 7, 12, 13, 14, 15, 16, 17, 18, 19, 20, 21, 22, 23, 24, 25, 26, 36, 37, 38, 39, 40, 41, 42, 43, 44, 45, 46, 47, 48, 49] (by decide +kernel) (by decide +kernel)
set_option maxRecDepth 20000 in
theorem gX9_undo_X0_goBack : GoodIn wsX9_undo (wsV RX9 113 RX0 yX0_goBack wsX0_goBack) := goodIn_app (goodIn_of _ (by decide +kernel)) ggX9_undo_X0_goBack
theorem dX9_undo_0 : decode cX9_undo 0 = .ok (.aload_n 0, 1) := by decide +kernel
theorem dX9_undo_1 : decode cX9_undo 1 = .ok (.getfield 21, 3) := by decide +kernel
theorem dX9_undo_4 : decode cX9_undo 4 = .ok (.invokevirtual 109, 3) := by decide +kernel
theorem dX9_undo_7 : decode cX9_undo 7 = .ok (.ifCond .eq 13, 3) := by decide +kernel
theorem dX9_undo_10 : decode cX9_undo 10 = .ok (.aload_n 0, 1) := by decide +kernel
theorem dX9_undo_11 : decode cX9_undo 11 = .ok (.getfield 21, 3) := by decide +kernel
theorem dX9_undo_14 : decode cX9_undo 14 = .ok (.invokevirtual 113, 3) := by decide +kernel
theorem dX9_undo_17 : decode cX9_undo 17 = .ok (.goto 5, 3) := by decide +kernel
theorem dX9_undo_20 : decode cX9_undo 20 = .ok (.bipush (-2), 2) := by decide +kernel
theorem dX9_undo_22 : decode cX9_undo 22 = .ok (.ireturn, 1) := by decide +kernel
set_option maxRecDepth 20000 in
theorem ggX9_redo_X0_canGoOn : GoodIn wsX9_redo wsX0_canGoOn := goodIn_r _ [6, 7, 36, 37, 38, 39, 40, 41, 42, 43] (by decide +kernel) (by decide +kernel)
set_option maxRecDepth 20000 in
theorem gX9_redo_X0_canGoOn : GoodIn wsX9_redo (wsV RX9 117 RX0 yX0_canGoOn wsX0_canGoOn) := goodIn_app (goodIn_of _ (by decide +kernel)) ggX9_redo_X0_canGoOn
set_option maxRecDepth 20000 in
theorem ggX9_redo_X0_goOn : GoodIn wsX9_redo wsX0_goOn := goodIn_r _ [11, 12, 13, 7, 14, 15, 16, 17, 18, 19, 20, 21, 22, 23, 24, 25, 26, 36, 37, 38, 39, 40, 41, 42, 43, 44, 45, 46, 47, 48, 49] (by decide +kernel) (by decide +kernel)
set_option maxRecDepth 20000 in
theorem gX9_redo_X0_goOn : GoodIn wsX9_redo (wsV RX9 120 RX0 yX0_goOn wsX0_goOn) := goodIn_app (goodIn_of _ (by decide +kernel)) ggX9_redo_X0_goOn
theorem dX9_redo_0 : decode cX9_redo 0 = .ok (.aload_n 0, 1) := by decide +kernel
theorem dX9_redo_1 : decode cX9_redo 1 = .ok (.getfield 21, 3) := by decide +kernel
theorem dX9_redo_4 : decode cX9_redo 4 = .ok (.invokevirtual 117, 3) := by decide +kernel
theorem dX9_redo_7 : decode cX9_redo 7 = .ok (.ifCond .eq 13, 3) := by decide +kernel
theorem dX9_redo_10 : decode cX9_redo 10 = .ok (.aload_n 0, 1) := by decide +kernel
theorem dX9_redo_11 : decode cX9_redo 11 = .ok (.getfield 21, 3) := by decide +kernel
theorem dX9_redo_14 : decode cX9_redo 14 = .ok (.invokevirtual 120, 3) := by decide +kernel
theorem dX9_redo_17 : decode cX9_redo 17 = .ok (.goto 5, 3) := by decide +kernel
theorem dX9_redo_20 : decode cX9_redo 20 = .ok (.bipush (-2), 2) := by decide +kernel
theorem dX9_redo_22 : decode cX9_redo 22 = .ok (.ireturn, 1) := by decide +kernel
set_option maxRecDepth 20000 in
theorem ggX9_told_X3_hasRow : GoodIn wsX9_told wsX3_hasRow := goodIn_r _ [7, 8, 29, 30, 31, 32, 33, 34] (by decide +kernel) (by decide +kernel)
set_option maxRecDepth 20000 in
theorem gX9_told_X3_hasRow : GoodIn wsX9_told (wsV RX9 91 RX3 yX3_hasRow wsX3_hasRow) := goodIn_app (goodIn_of _ (by decide +kernel)) ggX9_told_X3_hasRow
set_option maxRecDepth 20000 in
theorem ggX9_told_X3_hasColumn : GoodIn wsX9_told wsX3_hasColumn := goodIn_r _ [12, 13, 29, 30, 31, 32, 33, 34] (by decide +kernel) (by decide +kernel)
set_option maxRecDepth 20000 in
theorem gX9_told_X3_hasColumn : GoodIn wsX9_told (wsV RX9 95 RX3 yX3_hasColumn wsX3_hasColumn) := goodIn_app (goodIn_of _ (by decide +kernel)) ggX9_told_X3_hasColumn
set_option maxRecDepth 20000 in
theorem ggX9_told_X3_at : GoodIn wsX9_told wsX3_at := goodIn_r _ [17, 13, 18, 19, 29, 30, 31, 32, 33, 34] (by decide +kernel) (by decide +kernel)
set_option maxRecDepth 20000 in
theorem gX9_told_X3_at : GoodIn wsX9_told (wsV RX9 123 RX3 yX3_at wsX3_at) := goodIn_app (goodIn_of _ (by decide +kernel)) ggX9_told_X3_at
theorem dX9_told_0 : decode cX9_told 0 = .ok (.aload_n 0, 1) := by decide +kernel
theorem dX9_told_1 : decode cX9_told 1 = .ok (.getfield 12, 3) := by decide +kernel
theorem dX9_told_4 : decode cX9_told 4 = .ok (.iload_n 1, 1) := by decide +kernel
theorem dX9_told_5 : decode cX9_told 5 = .ok (.invokevirtual 91, 3) := by decide +kernel
theorem dX9_told_8 : decode cX9_told 8 = .ok (.ifCond .eq 25, 3) := by decide +kernel
theorem dX9_told_11 : decode cX9_told 11 = .ok (.aload_n 0, 1) := by decide +kernel
theorem dX9_told_12 : decode cX9_told 12 = .ok (.getfield 12, 3) := by decide +kernel
theorem dX9_told_15 : decode cX9_told 15 = .ok (.iload_n 2, 1) := by decide +kernel
theorem dX9_told_16 : decode cX9_told 16 = .ok (.invokevirtual 95, 3) := by decide +kernel
theorem dX9_told_19 : decode cX9_told 19 = .ok (.ifCond .ne 18, 3) := by decide +kernel
theorem dX9_told_22 : decode cX9_told 22 = .ok (.iload_n 2, 1) := by decide +kernel
theorem dX9_told_23 : decode cX9_told 23 = .ok (.aload_n 0, 1) := by decide +kernel
theorem dX9_told_24 : decode cX9_told 24 = .ok (.getfield 12, 3) := by decide +kernel
theorem dX9_told_27 : decode cX9_told 27 = .ok (.getfield 106, 3) := by decide +kernel
theorem dX9_told_30 : decode cX9_told 30 = .ok (.if_icmp .eq 7, 3) := by decide +kernel
theorem dX9_told_33 : decode cX9_told 33 = .ok (.sipush (-10001), 3) := by decide +kernel
theorem dX9_told_36 : decode cX9_told 36 = .ok (.ireturn, 1) := by decide +kernel
theorem dX9_told_37 : decode cX9_told 37 = .ok (.aload_n 0, 1) := by decide +kernel
theorem dX9_told_38 : decode cX9_told 38 = .ok (.getfield 12, 3) := by decide +kernel
theorem dX9_told_41 : decode cX9_told 41 = .ok (.iload_n 1, 1) := by decide +kernel
theorem dX9_told_42 : decode cX9_told 42 = .ok (.iload_n 2, 1) := by decide +kernel
theorem dX9_told_43 : decode cX9_told 43 = .ok (.invokevirtual 123, 3) := by decide +kernel
theorem dX9_told_46 : decode cX9_told 46 = .ok (.ireturn, 1) := by decide +kernel
set_option maxRecDepth 20000 in
theorem ggX9_type_X7_takes : GoodIn wsX9_type wsX7_takes := goodIn_r _ [5, 6, 7, 4, 8, 9] (by decide +kernel) (by decide +kernel)
set_option maxRecDepth 20000 in
theorem gX9_type_X7_takes : GoodIn wsX9_type (va_wsS RX9 127 yX7_takes wsX7_takes) := goodIn_app (goodIn_of _ (by decide +kernel)) ggX9_type_X7_takes
set_option maxRecDepth 20000 in
theorem ggX9_type_X7_hasRoom : GoodIn wsX9_type wsX7_hasRoom := goodIn_r _ [13, 14, 29, 30] (by decide +kernel) (by decide +kernel)
set_option maxRecDepth 20000 in
theorem gX9_type_X7_hasRoom : GoodIn wsX9_type (wsV RX9 130 RX7 yX7_hasRoom wsX7_hasRoom) := goodIn_app (goodIn_of _ (by decide +kernel)) ggX9_type_X7_hasRoom
set_option maxRecDepth 20000 in
theorem ggX9_type_X7_append : GoodIn wsX9_type wsX7_append := goodIn_r _ [18, 19, 14, 6, 7, 4, 8, 9, 29, 30] (by decide +kernel) (by decide +kernel)
set_option maxRecDepth 20000 in
theorem gX9_type_X7_append : GoodIn wsX9_type (wsV RX9 133 RX7 yX7_append wsX7_append) := goodIn_app (goodIn_of _ (by decide +kernel)) ggX9_type_X7_append
theorem dX9_type_0 : decode cX9_type 0 = .ok (.iload_n 3, 1) := by decide +kernel
theorem dX9_type_1 : decode cX9_type 1 = .ok (.iconst 1, 1) := by decide +kernel
theorem dX9_type_2 : decode cX9_type 2 = .ok (.if_icmp .lt 17, 3) := by decide +kernel
theorem dX9_type_5 : decode cX9_type 5 = .ok (.iload_n 3, 1) := by decide +kernel
theorem dX9_type_6 : decode cX9_type 6 = .ok (.bipush 8, 2) := by decide +kernel
theorem dX9_type_8 : decode cX9_type 8 = .ok (.if_icmp .gt 11, 3) := by decide +kernel
theorem dX9_type_11 : decode cX9_type 11 = .ok (.lload_n 1, 1) := by decide +kernel
theorem dX9_type_12 : decode cX9_type 12 = .ok (.iload_n 3, 1) := by decide +kernel
theorem dX9_type_13 : decode cX9_type 13 = .ok (.invokestatic 127, 3) := by decide +kernel
theorem dX9_type_16 : decode cX9_type 16 = .ok (.ifCond .ne 5, 3) := by decide +kernel
theorem dX9_type_19 : decode cX9_type 19 = .ok (.iconst (-1), 1) := by decide +kernel
theorem dX9_type_20 : decode cX9_type 20 = .ok (.ireturn, 1) := by decide +kernel
theorem dX9_type_21 : decode cX9_type 21 = .ok (.aload_n 0, 1) := by decide +kernel
theorem dX9_type_22 : decode cX9_type 22 = .ok (.getfield 28, 3) := by decide +kernel
theorem dX9_type_25 : decode cX9_type 25 = .ok (.iload_n 3, 1) := by decide +kernel
theorem dX9_type_26 : decode cX9_type 26 = .ok (.invokevirtual 130, 3) := by decide +kernel
theorem dX9_type_29 : decode cX9_type 29 = .ok (.ifCond .eq 15, 3) := by decide +kernel
theorem dX9_type_32 : decode cX9_type 32 = .ok (.aload_n 0, 1) := by decide +kernel
theorem dX9_type_33 : decode cX9_type 33 = .ok (.getfield 28, 3) := by decide +kernel
theorem dX9_type_36 : decode cX9_type 36 = .ok (.lload_n 1, 1) := by decide +kernel
theorem dX9_type_37 : decode cX9_type 37 = .ok (.iload_n 3, 1) := by decide +kernel
theorem dX9_type_38 : decode cX9_type 38 = .ok (.invokevirtual 133, 3) := by decide +kernel
theorem dX9_type_41 : decode cX9_type 41 = .ok (.goto 5, 3) := by decide +kernel
theorem dX9_type_44 : decode cX9_type 44 = .ok (.bipush (-3), 2) := by decide +kernel
theorem dX9_type_46 : decode cX9_type 46 = .ok (.ireturn, 1) := by decide +kernel
set_option maxRecDepth 20000 in
theorem ggX9_read_X4_parse : GoodIn wsX9_read wsX4_parse := goodIn_r _ [14, 15, 16, 17, 18, 19, 20, 21, 22, 13, 23, 24, 25, 26, 27, 28, 29, 30, 31, 32, 33, 34, 35, 36, 37, 38, 39, 40, 41, 42, 43, 44, 45, 46, 47, 48, 49, 50, 51, 52, 53, 54, 55, 56, 96, 97, 98, 99, 100, 101, 108, 109] (by decide +kernel) (by decide +kernel)
set_option maxRecDepth 20000 in
theorem gX9_read_X4_parse : GoodIn wsX9_read (wsV RX9 137 RX4 yX4_parse wsX4_parse) := goodIn_app (goodIn_of _ (by decide +kernel)) ggX9_read_X4_parse
set_option maxRecDepth 20000 in
theorem ggX9_read_X7_clear : GoodIn wsX9_read wsX7_clear := goodIn_r _ [60, 39, 108, 109] (by decide +kernel) (by decide +kernel)
set_option maxRecDepth 20000 in
theorem gX9_read_X7_clear : GoodIn wsX9_read (wsV RX9 140 RX7 yX7_clear wsX7_clear) := goodIn_app (goodIn_of _ (by decide +kernel)) ggX9_read_X7_clear
set_option maxRecDepth 20000 in
theorem ggX9_read_X3_reshape : GoodIn wsX9_read wsX3_reshape := goodIn_r _ [65, 66, 67, 68, 69, 70, 71, 72, 73, 74, 102, 103, 104, 105, 106, 107] (by decide +kernel) (by decide +kernel)
set_option maxRecDepth 20000 in
theorem gX9_read_X3_reshape : GoodIn wsX9_read (wsV RX9 76 RX3 yX3_reshape wsX3_reshape) := goodIn_app (goodIn_of _ (by decide +kernel)) ggX9_read_X3_reshape
set_option maxRecDepth 20000 in
theorem ggX9_read_X3_put : GoodIn wsX9_read wsX3_put := goodIn_r _ [78, 67, 69, 68, 70, 102, 103, 104, 105, 106, 107] (by decide +kernel) (by decide +kernel)
set_option maxRecDepth 20000 in
theorem gX9_read_X3_put : GoodIn wsX9_read (wsV RX9 152 RX3 yX3_put wsX3_put) := goodIn_app (goodIn_of _ (by decide +kernel)) ggX9_read_X3_put
set_option maxRecDepth 20000 in
theorem ggX9_read_X0_forget : GoodIn wsX9_read wsX0_forget := goodIn_r _ [83, 84, 85, 86, 110, 111, 112, 113, 114, 115, 116, 117] (by decide +kernel) (by decide +kernel)
set_option maxRecDepth 20000 in
theorem gX9_read_X0_forget : GoodIn wsX9_read (wsV RX9 80 RX0 yX0_forget wsX0_forget) := goodIn_app (goodIn_of _ (by decide +kernel)) ggX9_read_X0_forget
theorem dX9_read_0 : decode cX9_read 0 = .ok (.aload_n 0, 1) := by decide +kernel
theorem dX9_read_1 : decode cX9_read 1 = .ok (.getfield 37, 3) := by decide +kernel
theorem dX9_read_4 : decode cX9_read 4 = .ok (.invokevirtual 137, 3) := by decide +kernel
theorem dX9_read_7 : decode cX9_read 7 = .ok (.istore_n 1, 1) := by decide +kernel
theorem dX9_read_8 : decode cX9_read 8 = .ok (.aload_n 0, 1) := by decide +kernel
theorem dX9_read_9 : decode cX9_read 9 = .ok (.getfield 28, 3) := by decide +kernel
theorem dX9_read_12 : decode cX9_read 12 = .ok (.invokevirtual 140, 3) := by decide +kernel
theorem dX9_read_15 : decode cX9_read 15 = .ok (.iload_n 1, 1) := by decide +kernel
theorem dX9_read_16 : decode cX9_read 16 = .ok (.ifCond .eq 5, 3) := by decide +kernel
theorem dX9_read_19 : decode cX9_read 19 = .ok (.iload_n 1, 1) := by decide +kernel
theorem dX9_read_20 : decode cX9_read 20 = .ok (.ireturn, 1) := by decide +kernel
theorem dX9_read_21 : decode cX9_read 21 = .ok (.aload_n 0, 1) := by decide +kernel
theorem dX9_read_22 : decode cX9_read 22 = .ok (.getfield 12, 3) := by decide +kernel
theorem dX9_read_25 : decode cX9_read 25 = .ok (.aload_n 0, 1) := by decide +kernel
theorem dX9_read_26 : decode cX9_read 26 = .ok (.getfield 37, 3) := by decide +kernel
theorem dX9_read_29 : decode cX9_read 29 = .ok (.getfield 143, 3) := by decide +kernel
theorem dX9_read_32 : decode cX9_read 32 = .ok (.aload_n 0, 1) := by decide +kernel
theorem dX9_read_33 : decode cX9_read 33 = .ok (.getfield 37, 3) := by decide +kernel
theorem dX9_read_36 : decode cX9_read 36 = .ok (.getfield 146, 3) := by decide +kernel
theorem dX9_read_39 : decode cX9_read 39 = .ok (.invokevirtual 76, 3) := by decide +kernel
theorem dX9_read_42 : decode cX9_read 42 = .ok (.iconst 0, 1) := by decide +kernel
theorem dX9_read_43 : decode cX9_read 43 = .ok (.istore_n 2, 1) := by decide +kernel
theorem dX9_read_44 : decode cX9_read 44 = .ok (.iload_n 2, 1) := by decide +kernel
theorem dX9_read_45 : decode cX9_read 45 = .ok (.aload_n 0, 1) := by decide +kernel
theorem dX9_read_46 : decode cX9_read 46 = .ok (.getfield 12, 3) := by decide +kernel
theorem dX9_read_49 : decode cX9_read 49 = .ok (.getfield 147, 3) := by decide +kernel
theorem dX9_read_52 : decode cX9_read 52 = .ok (.if_icmp .ge 48, 3) := by decide +kernel
theorem dX9_read_55 : decode cX9_read 55 = .ok (.iconst 0, 1) := by decide +kernel
theorem dX9_read_56 : decode cX9_read 56 = .ok (.istore_n 3, 1) := by decide +kernel
theorem dX9_read_57 : decode cX9_read 57 = .ok (.iload_n 3, 1) := by decide +kernel
theorem dX9_read_58 : decode cX9_read 58 = .ok (.aload_n 0, 1) := by decide +kernel
theorem dX9_read_59 : decode cX9_read 59 = .ok (.getfield 12, 3) := by decide +kernel
theorem dX9_read_62 : decode cX9_read 62 = .ok (.getfield 106, 3) := by decide +kernel
theorem dX9_read_65 : decode cX9_read 65 = .ok (.if_icmp .ge 29, 3) := by decide +kernel
theorem dX9_read_68 : decode cX9_read 68 = .ok (.aload_n 0, 1) := by decide +kernel
theorem dX9_read_69 : decode cX9_read 69 = .ok (.getfield 12, 3) := by decide +kernel
theorem dX9_read_72 : decode cX9_read 72 = .ok (.iload_n 2, 1) := by decide +kernel
theorem dX9_read_73 : decode cX9_read 73 = .ok (.iload_n 3, 1) := by decide +kernel
theorem dX9_read_74 : decode cX9_read 74 = .ok (.aload_n 0, 1) := by decide +kernel
theorem dX9_read_75 : decode cX9_read 75 = .ok (.getfield 37, 3) := by decide +kernel
theorem dX9_read_78 : decode cX9_read 78 = .ok (.getfield 148, 3) := by decide +kernel
theorem dX9_read_81 : decode cX9_read 81 = .ok (.iload_n 2, 1) := by decide +kernel
theorem dX9_read_82 : decode cX9_read 82 = .ok (.aaload, 1) := by decide +kernel
theorem dX9_read_83 : decode cX9_read 83 = .ok (.iload_n 3, 1) := by decide +kernel
theorem dX9_read_84 : decode cX9_read 84 = .ok (.iaload, 1) := by decide +kernel
theorem dX9_read_85 : decode cX9_read 85 = .ok (.invokevirtual 152, 3) := by decide +kernel
theorem dX9_read_88 : decode cX9_read 88 = .ok (.iinc 3 1, 3) := by decide +kernel
theorem dX9_read_91 : decode cX9_read 91 = .ok (.goto (-34), 3) := by decide +kernel
theorem dX9_read_94 : decode cX9_read 94 = .ok (.iinc 2 1, 3) := by decide +kernel
theorem dX9_read_97 : decode cX9_read 97 = .ok (.goto (-53), 3) := by decide +kernel
theorem dX9_read_100 : decode cX9_read 100 = .ok (.aload_n 0, 1) := by decide +kernel
theorem dX9_read_101 : decode cX9_read 101 = .ok (.getfield 21, 3) := by decide +kernel
theorem dX9_read_104 : decode cX9_read 104 = .ok (.invokevirtual 80, 3) := by decide +kernel
theorem dX9_read_107 : decode cX9_read 107 = .ok (.aload_n 0, 1) := by decide +kernel
theorem dX9_read_108 : decode cX9_read 108 = .ok (.getfield 12, 3) := by decide +kernel
theorem dX9_read_111 : decode cX9_read 111 = .ok (.getfield 147, 3) := by decide +kernel
theorem dX9_read_114 : decode cX9_read 114 = .ok (.ireturn, 1) := by decide +kernel
set_option maxRecDepth 20000 in
theorem ggX9_off_X3_wordCount : GoodIn wsX9_off wsX3_wordCount := goodIn_r _ [7, 8, 9, 10, 11, 6, 12, 13, 39, 40, 41, 42, 43, 44] (by decide +kernel) (by decide +kernel)
set_option maxRecDepth 20000 in
theorem gX9_off_X3_wordCount : GoodIn wsX9_off (wsV RX9 156 RX3 yX3_wordCount wsX3_wordCount) := goodIn_app (goodIn_of _ (by decide +kernel)) ggX9_off_X3_wordCount
set_option maxRecDepth 20000 in
theorem ggX9_off_X8_offOf : GoodIn wsX9_off wsX8_offOf := goodIn_r _ [18, 19, 20, 21, 22, 23, 24, 25, 26, 27, 17, 28, 29, 10, 11, 6, 12, 13, 45, 46, 47, 48, 49, 50, 39, 40, 41, 42, 43, 44] (by decide +kernel) (by decide +kernel)
set_option maxRecDepth 20000 in
theorem gX9_off_X8_offOf : GoodIn wsX9_off (wsV RX9 159 RX8 yX8_offOf wsX8_offOf) := goodIn_app (goodIn_of _ (by decide +kernel)) ggX9_off_X8_offOf
theorem dX9_off_0 : decode cX9_off 0 = .ok (.iload_n 1, 1) := by decide +kernel
theorem dX9_off_1 : decode cX9_off 1 = .ok (.ifCond .lt 14, 3) := by decide +kernel
theorem dX9_off_4 : decode cX9_off 4 = .ok (.iload_n 1, 1) := by decide +kernel
theorem dX9_off_5 : decode cX9_off 5 = .ok (.aload_n 0, 1) := by decide +kernel
theorem dX9_off_6 : decode cX9_off 6 = .ok (.getfield 12, 3) := by decide +kernel
theorem dX9_off_9 : decode cX9_off 9 = .ok (.invokevirtual 156, 3) := by decide +kernel
theorem dX9_off_12 : decode cX9_off 12 = .ok (.if_icmp .lt 7, 3) := by decide +kernel
theorem dX9_off_15 : decode cX9_off 15 = .ok (.iconst (-1), 1) := by decide +kernel
theorem dX9_off_16 : decode cX9_off 16 = .ok (.goto 11, 3) := by decide +kernel
theorem dX9_off_19 : decode cX9_off 19 = .ok (.aload_n 0, 1) := by decide +kernel
theorem dX9_off_20 : decode cX9_off 20 = .ok (.getfield 44, 3) := by decide +kernel
theorem dX9_off_23 : decode cX9_off 23 = .ok (.iload_n 1, 1) := by decide +kernel
theorem dX9_off_24 : decode cX9_off 24 = .ok (.invokevirtual 159, 3) := by decide +kernel
theorem dX9_off_27 : decode cX9_off 27 = .ok (.ireturn, 1) := by decide +kernel
set_option maxRecDepth 20000 in
theorem ggX9_nearest_X3_wordCount : GoodIn wsX9_nearest wsX3_wordCount := goodIn_r _ [7, 8, 9, 10, 11, 6, 12, 13, 70, 71, 72, 73, 74, 75] (by decide +kernel) (by decide +kernel)
set_option maxRecDepth 20000 in
theorem gX9_nearest_X3_wordCount : GoodIn wsX9_nearest (wsV RX9 156 RX3 yX3_wordCount wsX3_wordCount) := goodIn_app (goodIn_of _ (by decide +kernel)) ggX9_nearest_X3_wordCount
set_option maxRecDepth 20000 in
theorem ggX9_nearest_X8_ranked : GoodIn wsX9_nearest wsX8_ranked := goodIn_r _ [18, 19, 20, 21, 22, 17, 23, 24, 25, 26, 27, 28, 4, 5, 6, 7, 8, 9, 10, 11, 12, 13, 29, 30, 31, 32, 33, 34, 35, 36, 37, 38, 39, 40, 41, 42, 43, 44, 45, 46, 47, 48, 49, 50, 51, 52, 53, 54, 55, 56, 57, 58, 59, 60, 76, 77, 78, 79, 80, 81, 70, 71, 72, 73, 74, 75] (by decide +kernel) (by decide +kernel)
set_option maxRecDepth 20000 in
theorem gX9_nearest_X8_ranked : GoodIn wsX9_nearest (wsV RX9 163 RX8 yX8_ranked wsX8_ranked) := goodIn_app (goodIn_of _ (by decide +kernel)) ggX9_nearest_X8_ranked
theorem dX9_nearest_0 : decode cX9_nearest 0 = .ok (.iload_n 1, 1) := by decide +kernel
theorem dX9_nearest_1 : decode cX9_nearest 1 = .ok (.ifCond .lt 14, 3) := by decide +kernel
theorem dX9_nearest_4 : decode cX9_nearest 4 = .ok (.iload_n 1, 1) := by decide +kernel
theorem dX9_nearest_5 : decode cX9_nearest 5 = .ok (.aload_n 0, 1) := by decide +kernel
theorem dX9_nearest_6 : decode cX9_nearest 6 = .ok (.getfield 12, 3) := by decide +kernel
theorem dX9_nearest_9 : decode cX9_nearest 9 = .ok (.invokevirtual 156, 3) := by decide +kernel
theorem dX9_nearest_12 : decode cX9_nearest 12 = .ok (.if_icmp .lt 7, 3) := by decide +kernel
theorem dX9_nearest_15 : decode cX9_nearest 15 = .ok (.iconst (-1), 1) := by decide +kernel
theorem dX9_nearest_16 : decode cX9_nearest 16 = .ok (.goto 11, 3) := by decide +kernel
theorem dX9_nearest_19 : decode cX9_nearest 19 = .ok (.aload_n 0, 1) := by decide +kernel
theorem dX9_nearest_20 : decode cX9_nearest 20 = .ok (.getfield 44, 3) := by decide +kernel
theorem dX9_nearest_23 : decode cX9_nearest 23 = .ok (.iload_n 1, 1) := by decide +kernel
theorem dX9_nearest_24 : decode cX9_nearest 24 = .ok (.invokevirtual 163, 3) := by decide +kernel
theorem dX9_nearest_27 : decode cX9_nearest 27 = .ok (.ireturn, 1) := by decide +kernel
set_option maxRecDepth 20000 in
theorem ggX9_soft_X3_hasColumn : GoodIn wsX9_soft wsX3_hasColumn := goodIn_r _ [8, 9, 65, 66, 67, 68, 69, 70] (by decide +kernel) (by decide +kernel)
set_option maxRecDepth 20000 in
theorem gX9_soft_X3_hasColumn : GoodIn wsX9_soft (wsV RX9 95 RX3 yX3_hasColumn wsX3_hasColumn) := goodIn_app (goodIn_of _ (by decide +kernel)) ggX9_soft_X3_hasColumn
set_option maxRecDepth 20000 in
theorem ggX9_soft_X3_bitsOfLetter : GoodIn wsX9_soft wsX3_bitsOfLetter := goodIn_r _ [13, 14, 65, 66, 67, 68, 69, 70] (by decide +kernel) (by decide +kernel)
set_option maxRecDepth 20000 in
theorem gX9_soft_X3_bitsOfLetter : GoodIn wsX9_soft (wsV RX9 166 RX3 yX3_bitsOfLetter wsX3_bitsOfLetter) := goodIn_app (goodIn_of _ (by decide +kernel)) ggX9_soft_X3_bitsOfLetter
set_option maxRecDepth 20000 in
theorem ggX9_soft_X8_leastWith : GoodIn wsX9_soft wsX8_leastWith := goodIn_r _ [19, 20, 21, 22, 23, 24, 25, 26, 27, 28, 29, 18, 30, 31, 32, 33, 34, 35, 7, 36, 9, 37, 11, 12, 13, 14, 38, 39, 40, 41, 42, 43, 44, 45, 46, 47, 48, 49, 50, 51, 52, 53, 54, 55, 71, 72, 73, 74, 75, 76, 65, 66, 67, 68, 69, 70] (by decide +kernel) (by decide +kernel)
set_option maxRecDepth 20000 in
theorem gX9_soft_X8_leastWith : GoodIn wsX9_soft (wsV RX9 170 RX8 yX8_leastWith wsX8_leastWith) := goodIn_app (goodIn_of _ (by decide +kernel)) ggX9_soft_X8_leastWith
theorem dX9_soft_0 : decode cX9_soft 0 = .ok (.aload_n 0, 1) := by decide +kernel
theorem dX9_soft_1 : decode cX9_soft 1 = .ok (.getfield 12, 3) := by decide +kernel
theorem dX9_soft_4 : decode cX9_soft 4 = .ok (.iload_n 1, 1) := by decide +kernel
theorem dX9_soft_5 : decode cX9_soft 5 = .ok (.invokevirtual 95, 3) := by decide +kernel
theorem dX9_soft_8 : decode cX9_soft 8 = .ok (.ifCond .eq 18, 3) := by decide +kernel
theorem dX9_soft_11 : decode cX9_soft 11 = .ok (.iload_n 2, 1) := by decide +kernel
theorem dX9_soft_12 : decode cX9_soft 12 = .ok (.ifCond .lt 14, 3) := by decide +kernel
theorem dX9_soft_15 : decode cX9_soft 15 = .ok (.iload_n 2, 1) := by decide +kernel
theorem dX9_soft_16 : decode cX9_soft 16 = .ok (.aload_n 0, 1) := by decide +kernel
theorem dX9_soft_17 : decode cX9_soft 17 = .ok (.getfield 12, 3) := by decide +kernel
theorem dX9_soft_20 : decode cX9_soft 20 = .ok (.invokevirtual 166, 3) := by decide +kernel
theorem dX9_soft_23 : decode cX9_soft 23 = .ok (.if_icmp .lt 6, 3) := by decide +kernel
theorem dX9_soft_26 : decode cX9_soft 26 = .ok (.ldc 169, 2) := by decide +kernel
theorem dX9_soft_28 : decode cX9_soft 28 = .ok (.ireturn, 1) := by decide +kernel
theorem dX9_soft_29 : decode cX9_soft 29 = .ok (.aload_n 0, 1) := by decide +kernel
theorem dX9_soft_30 : decode cX9_soft 30 = .ok (.getfield 44, 3) := by decide +kernel
theorem dX9_soft_33 : decode cX9_soft 33 = .ok (.iload_n 1, 1) := by decide +kernel
theorem dX9_soft_34 : decode cX9_soft 34 = .ok (.iload_n 2, 1) := by decide +kernel
theorem dX9_soft_35 : decode cX9_soft 35 = .ok (.iconst 1, 1) := by decide +kernel
theorem dX9_soft_36 : decode cX9_soft 36 = .ok (.invokevirtual 170, 3) := by decide +kernel
theorem dX9_soft_39 : decode cX9_soft 39 = .ok (.aload_n 0, 1) := by decide +kernel
theorem dX9_soft_40 : decode cX9_soft 40 = .ok (.getfield 44, 3) := by decide +kernel
theorem dX9_soft_43 : decode cX9_soft 43 = .ok (.iload_n 1, 1) := by decide +kernel
theorem dX9_soft_44 : decode cX9_soft 44 = .ok (.iload_n 2, 1) := by decide +kernel
theorem dX9_soft_45 : decode cX9_soft 45 = .ok (.iconst 0, 1) := by decide +kernel
theorem dX9_soft_46 : decode cX9_soft 46 = .ok (.invokevirtual 170, 3) := by decide +kernel
theorem dX9_soft_49 : decode cX9_soft 49 = .ok (.isub, 1) := by decide +kernel
theorem dX9_soft_50 : decode cX9_soft 50 = .ok (.ireturn, 1) := by decide +kernel
set_option maxRecDepth 20000 in
theorem ggX9_gram_X3_hasColumn : GoodIn wsX9_gram wsX3_hasColumn := goodIn_r _ [8, 9, 23, 24, 25, 26, 27, 28] (by decide +kernel) (by decide +kernel)
set_option maxRecDepth 20000 in
theorem gX9_gram_X3_hasColumn : GoodIn wsX9_gram (wsV RX9 95 RX3 yX3_hasColumn wsX3_hasColumn) := goodIn_app (goodIn_of _ (by decide +kernel)) ggX9_gram_X3_hasColumn
set_option maxRecDepth 20000 in
theorem ggX9_gram_X9_product : GoodIn wsX9_gram wsX9_product := goodIn_r _ [13] (by decide +kernel) (by decide +kernel)
set_option maxRecDepth 20000 in
theorem gX9_gram_X9_product : GoodIn wsX9_gram (va_wsS RX9 174 yX9_product wsX9_product) := goodIn_app (goodIn_of _ (by decide +kernel)) ggX9_gram_X9_product
theorem dX9_gram_0 : decode cX9_gram 0 = .ok (.aload_n 0, 1) := by decide +kernel
theorem dX9_gram_1 : decode cX9_gram 1 = .ok (.getfield 12, 3) := by decide +kernel
theorem dX9_gram_4 : decode cX9_gram 4 = .ok (.iload_n 1, 1) := by decide +kernel
theorem dX9_gram_5 : decode cX9_gram 5 = .ok (.invokevirtual 95, 3) := by decide +kernel
theorem dX9_gram_8 : decode cX9_gram 8 = .ok (.ifCond .eq 14, 3) := by decide +kernel
theorem dX9_gram_11 : decode cX9_gram 11 = .ok (.aload_n 0, 1) := by decide +kernel
theorem dX9_gram_12 : decode cX9_gram 12 = .ok (.getfield 12, 3) := by decide +kernel
theorem dX9_gram_15 : decode cX9_gram 15 = .ok (.iload_n 2, 1) := by decide +kernel
theorem dX9_gram_16 : decode cX9_gram 16 = .ok (.invokevirtual 95, 3) := by decide +kernel
theorem dX9_gram_19 : decode cX9_gram 19 = .ok (.ifCond .ne 7, 3) := by decide +kernel
theorem dX9_gram_22 : decode cX9_gram 22 = .ok (.sipush (-10001), 3) := by decide +kernel
theorem dX9_gram_25 : decode cX9_gram 25 = .ok (.ireturn, 1) := by decide +kernel
theorem dX9_gram_26 : decode cX9_gram 26 = .ok (.aload_n 0, 1) := by decide +kernel
theorem dX9_gram_27 : decode cX9_gram 27 = .ok (.getfield 12, 3) := by decide +kernel
theorem dX9_gram_30 : decode cX9_gram 30 = .ok (.getfield 173, 3) := by decide +kernel
theorem dX9_gram_33 : decode cX9_gram 33 = .ok (.aload_n 0, 1) := by decide +kernel
theorem dX9_gram_34 : decode cX9_gram 34 = .ok (.getfield 12, 3) := by decide +kernel
theorem dX9_gram_37 : decode cX9_gram 37 = .ok (.getfield 147, 3) := by decide +kernel
theorem dX9_gram_40 : decode cX9_gram 40 = .ok (.iload_n 1, 1) := by decide +kernel
theorem dX9_gram_41 : decode cX9_gram 41 = .ok (.iload_n 2, 1) := by decide +kernel
theorem dX9_gram_42 : decode cX9_gram 42 = .ok (.invokestatic 174, 3) := by decide +kernel
theorem dX9_gram_45 : decode cX9_gram 45 = .ok (.ireturn, 1) := by decide +kernel
set_option maxRecDepth 20000 in
theorem ggX9_worth_X2_worthOf : GoodIn wsX9_worth wsX2_worthOf := goodIn_r _ [9, 10, 11, 12, 13, 14, 15, 16, 17, 18, 19, 8, 20, 30, 31, 32, 33, 34, 35, 36, 37, 38, 39, 40] (by decide +kernel) (by decide +kernel)
set_option maxRecDepth 20000 in
theorem gX9_worth_X2_worthOf : GoodIn wsX9_worth (wsV RX9 180 RX2 yX2_worthOf wsX2_worthOf) := goodIn_app (goodIn_of _ (by decide +kernel)) ggX9_worth_X2_worthOf
theorem dX9_worth_0 : decode cX9_worth 0 = .ok (.iload_n 1, 1) := by decide +kernel
theorem dX9_worth_1 : decode cX9_worth 1 = .ok (.iconst 1, 1) := by decide +kernel
theorem dX9_worth_2 : decode cX9_worth 2 = .ok (.if_icmp .lt 16, 3) := by decide +kernel
theorem dX9_worth_5 : decode cX9_worth 5 = .ok (.iload_n 1, 1) := by decide +kernel
theorem dX9_worth_6 : decode cX9_worth 6 = .ok (.iconst 1, 1) := by decide +kernel
theorem dX9_worth_7 : decode cX9_worth 7 = .ok (.aload_n 0, 1) := by decide +kernel
theorem dX9_worth_8 : decode cX9_worth 8 = .ok (.getfield 12, 3) := by decide +kernel
theorem dX9_worth_11 : decode cX9_worth 11 = .ok (.getfield 106, 3) := by decide +kernel
theorem dX9_worth_14 : decode cX9_worth 14 = .ok (.ishl, 1) := by decide +kernel
theorem dX9_worth_15 : decode cX9_worth 15 = .ok (.if_icmp .lt 7, 3) := by decide +kernel
theorem dX9_worth_18 : decode cX9_worth 18 = .ok (.ldc2_w 178, 3) := by decide +kernel
theorem dX9_worth_21 : decode cX9_worth 21 = .ok (.lreturn, 1) := by decide +kernel
theorem dX9_worth_22 : decode cX9_worth 22 = .ok (.aload_n 0, 1) := by decide +kernel
theorem dX9_worth_23 : decode cX9_worth 23 = .ok (.getfield 51, 3) := by decide +kernel
theorem dX9_worth_26 : decode cX9_worth 26 = .ok (.aload_n 0, 1) := by decide +kernel
theorem dX9_worth_27 : decode cX9_worth 27 = .ok (.getfield 12, 3) := by decide +kernel
theorem dX9_worth_30 : decode cX9_worth 30 = .ok (.iload_n 1, 1) := by decide +kernel
theorem dX9_worth_31 : decode cX9_worth 31 = .ok (.invokevirtual 180, 3) := by decide +kernel
theorem dX9_worth_34 : decode cX9_worth 34 = .ok (.lreturn, 1) := by decide +kernel
set_option maxRecDepth 20000 in
theorem ggX9_undone_X2_solve : GoodIn wsX9_undone wsX2_solve := goodIn_r _ [14, 15, 16, 17, 18, 19, 20, 21, 22, 23, 13, 24, 25, 26, 27, 28, 71, 72, 73, 74, 75] (by decide +kernel) (by decide +kernel)
set_option maxRecDepth 20000 in
theorem gX9_undone_X2_solve : GoodIn wsX9_undone (wsV RX9 188 RX2 yX2_solve wsX2_solve) := goodIn_app (goodIn_of _ (by decide +kernel)) ggX9_undone_X2_solve
set_option maxRecDepth 20000 in
theorem ggX9_undone_X9_nearestLetter : GoodIn wsX9_undone wsX9_nearestLetter := goodIn_r _ [31, 32, 33, 34, 20, 35, 36, 37, 38, 39, 40, 41, 42, 43, 44, 45, 46, 47, 48, 49] (by decide +kernel) (by decide +kernel)
set_option maxRecDepth 20000 in
theorem gX9_undone_X9_nearestLetter : GoodIn wsX9_undone (va_wsS RX9 200 yX9_nearestLetter wsX9_nearestLetter) := goodIn_app (goodIn_of _ (by decide +kernel)) ggX9_undone_X9_nearestLetter
set_option maxRecDepth 20000 in
theorem ggX9_undone_X3_follow : GoodIn wsX9_undone wsX3_follow := goodIn_r _ [54, 55, 65, 66, 67, 68, 69, 70] (by decide +kernel) (by decide +kernel)
set_option maxRecDepth 20000 in
theorem gX9_undone_X3_follow : GoodIn wsX9_undone (wsV RX9 204 RX3 yX3_follow wsX3_follow) := goodIn_app (goodIn_of _ (by decide +kernel)) ggX9_undone_X3_follow
theorem dX9_undone_0 : decode cX9_undone 0 = .ok (.aload_n 0, 1) := by decide +kernel
theorem dX9_undone_1 : decode cX9_undone 1 = .ok (.getfield 51, 3) := by decide +kernel
theorem dX9_undone_4 : decode cX9_undone 4 = .ok (.aload_n 0, 1) := by decide +kernel
theorem dX9_undone_5 : decode cX9_undone 5 = .ok (.getfield 12, 3) := by decide +kernel
theorem dX9_undone_8 : decode cX9_undone 8 = .ok (.getfield 173, 3) := by decide +kernel
theorem dX9_undone_11 : decode cX9_undone 11 = .ok (.aload_n 0, 1) := by decide +kernel
theorem dX9_undone_12 : decode cX9_undone 12 = .ok (.getfield 12, 3) := by decide +kernel
theorem dX9_undone_15 : decode cX9_undone 15 = .ok (.getfield 184, 3) := by decide +kernel
theorem dX9_undone_18 : decode cX9_undone 18 = .ok (.aload_n 0, 1) := by decide +kernel
theorem dX9_undone_19 : decode cX9_undone 19 = .ok (.getfield 12, 3) := by decide +kernel
theorem dX9_undone_22 : decode cX9_undone 22 = .ok (.getfield 147, 3) := by decide +kernel
theorem dX9_undone_25 : decode cX9_undone 25 = .ok (.aload_n 0, 1) := by decide +kernel
theorem dX9_undone_26 : decode cX9_undone 26 = .ok (.getfield 12, 3) := by decide +kernel
theorem dX9_undone_29 : decode cX9_undone 29 = .ok (.getfield 106, 3) := by decide +kernel
theorem dX9_undone_32 : decode cX9_undone 32 = .ok (.invokevirtual 188, 3) := by decide +kernel
theorem dX9_undone_35 : decode cX9_undone 35 = .ok (.aload_n 0, 1) := by decide +kernel
theorem dX9_undone_36 : decode cX9_undone 36 = .ok (.getfield 51, 3) := by decide +kernel
theorem dX9_undone_39 : decode cX9_undone 39 = .ok (.getfield 192, 3) := by decide +kernel
theorem dX9_undone_42 : decode cX9_undone 42 = .ok (.lconst 0, 1) := by decide +kernel
theorem dX9_undone_43 : decode cX9_undone 43 = .ok (.lcmp, 1) := by decide +kernel
theorem dX9_undone_44 : decode cX9_undone 44 = .ok (.ifCond .gt 6, 3) := by decide +kernel
theorem dX9_undone_47 : decode cX9_undone 47 = .ok (.bipush (-2), 2) := by decide +kernel
theorem dX9_undone_49 : decode cX9_undone 49 = .ok (.ireturn, 1) := by decide +kernel
theorem dX9_undone_50 : decode cX9_undone 50 = .ok (.iconst 0, 1) := by decide +kernel
theorem dX9_undone_51 : decode cX9_undone 51 = .ok (.istore_n 1, 1) := by decide +kernel
theorem dX9_undone_52 : decode cX9_undone 52 = .ok (.iconst 0, 1) := by decide +kernel
theorem dX9_undone_53 : decode cX9_undone 53 = .ok (.istore_n 2, 1) := by decide +kernel
theorem dX9_undone_54 : decode cX9_undone 54 = .ok (.iload_n 2, 1) := by decide +kernel
theorem dX9_undone_55 : decode cX9_undone 55 = .ok (.aload_n 0, 1) := by decide +kernel
theorem dX9_undone_56 : decode cX9_undone 56 = .ok (.getfield 12, 3) := by decide +kernel
theorem dX9_undone_59 : decode cX9_undone 59 = .ok (.getfield 106, 3) := by decide +kernel
theorem dX9_undone_62 : decode cX9_undone 62 = .ok (.if_icmp .ge 44, 3) := by decide +kernel
theorem dX9_undone_65 : decode cX9_undone 65 = .ok (.aload_n 0, 1) := by decide +kernel
theorem dX9_undone_66 : decode cX9_undone 66 = .ok (.getfield 12, 3) := by decide +kernel
theorem dX9_undone_69 : decode cX9_undone 69 = .ok (.iload_n 1, 1) := by decide +kernel
theorem dX9_undone_70 : decode cX9_undone 70 = .ok (.aload_n 0, 1) := by decide +kernel
theorem dX9_undone_71 : decode cX9_undone 71 = .ok (.getfield 51, 3) := by decide +kernel
theorem dX9_undone_74 : decode cX9_undone 74 = .ok (.getfield 196, 3) := by decide +kernel
theorem dX9_undone_77 : decode cX9_undone 77 = .ok (.iload_n 2, 1) := by decide +kernel
theorem dX9_undone_78 : decode cX9_undone 78 = .ok (.laload, 1) := by decide +kernel
theorem dX9_undone_79 : decode cX9_undone 79 = .ok (.aload_n 0, 1) := by decide +kernel
theorem dX9_undone_80 : decode cX9_undone 80 = .ok (.getfield 51, 3) := by decide +kernel
theorem dX9_undone_83 : decode cX9_undone 83 = .ok (.getfield 192, 3) := by decide +kernel
theorem dX9_undone_86 : decode cX9_undone 86 = .ok (.aload_n 0, 1) := by decide +kernel
theorem dX9_undone_87 : decode cX9_undone 87 = .ok (.getfield 12, 3) := by decide +kernel
theorem dX9_undone_90 : decode cX9_undone 90 = .ok (.getfield 83, 3) := by decide +kernel
theorem dX9_undone_93 : decode cX9_undone 93 = .ok (.invokestatic 200, 3) := by decide +kernel
theorem dX9_undone_96 : decode cX9_undone 96 = .ok (.invokevirtual 204, 3) := by decide +kernel
theorem dX9_undone_99 : decode cX9_undone 99 = .ok (.istore_n 1, 1) := by decide +kernel
theorem dX9_undone_100 : decode cX9_undone 100 = .ok (.iinc 2 1, 3) := by decide +kernel
theorem dX9_undone_103 : decode cX9_undone 103 = .ok (.goto (-49), 3) := by decide +kernel
theorem dX9_undone_106 : decode cX9_undone 106 = .ok (.iload_n 1, 1) := by decide +kernel
theorem dX9_undone_107 : decode cX9_undone 107 = .ok (.ireturn, 1) := by decide +kernel
set_option maxRecDepth 20000 in
theorem ggX9_fraction_X3_hasColumn : GoodIn wsX9_fraction wsX3_hasColumn := goodIn_r _ [22, 23, 55, 56, 57, 58, 59, 60] (by decide +kernel) (by decide +kernel)
set_option maxRecDepth 20000 in
theorem gX9_fraction_X3_hasColumn : GoodIn wsX9_fraction (wsV RX9 95 RX3 yX3_hasColumn wsX3_hasColumn) := goodIn_app (goodIn_of _ (by decide +kernel)) ggX9_fraction_X3_hasColumn
set_option maxRecDepth 20000 in
theorem ggX9_fraction_X2_solve : GoodIn wsX9_fraction wsX2_solve := goodIn_r _ [28, 29, 30, 31, 32, 33, 34, 35, 36, 37, 27, 38, 39, 40, 41, 42, 61, 62, 63, 64, 65] (by decide +kernel) (by decide +kernel)
set_option maxRecDepth 20000 in
theorem gX9_fraction_X2_solve : GoodIn wsX9_fraction (wsV RX9 188 RX2 yX2_solve wsX2_solve) := goodIn_app (goodIn_of _ (by decide +kernel)) ggX9_fraction_X2_solve
set_option maxRecDepth 20000 in
theorem ggX9_fraction_X9_commonDivisor : GoodIn wsX9_fraction wsX9_commonDivisor := goodIn_r _ [45] (by decide +kernel) (by decide +kernel)
set_option maxRecDepth 20000 in
theorem gX9_fraction_X9_commonDivisor : GoodIn wsX9_fraction (va_wsS RX9 217 yX9_commonDivisor wsX9_commonDivisor) := goodIn_app (goodIn_of _ (by decide +kernel)) ggX9_fraction_X9_commonDivisor
theorem dX9_fraction_0 : decode cX9_fraction 0 = .ok (.aload_n 0, 1) := by decide +kernel
theorem dX9_fraction_1 : decode cX9_fraction 1 = .ok (.getfield 12, 3) := by decide +kernel
theorem dX9_fraction_4 : decode cX9_fraction 4 = .ok (.iload_n 1, 1) := by decide +kernel
theorem dX9_fraction_5 : decode cX9_fraction 5 = .ok (.invokevirtual 95, 3) := by decide +kernel
theorem dX9_fraction_8 : decode cX9_fraction 8 = .ok (.ifCond .eq 12, 3) := by decide +kernel
theorem dX9_fraction_11 : decode cX9_fraction 11 = .ok (.iload_n 2, 1) := by decide +kernel
theorem dX9_fraction_12 : decode cX9_fraction 12 = .ok (.ifCond .lt 8, 3) := by decide +kernel
theorem dX9_fraction_15 : decode cX9_fraction 15 = .ok (.iload_n 2, 1) := by decide +kernel
theorem dX9_fraction_16 : decode cX9_fraction 16 = .ok (.iconst 1, 1) := by decide +kernel
theorem dX9_fraction_17 : decode cX9_fraction 17 = .ok (.if_icmp .le 7, 3) := by decide +kernel
theorem dX9_fraction_20 : decode cX9_fraction 20 = .ok (.ldc2_w 207, 3) := by decide +kernel
theorem dX9_fraction_23 : decode cX9_fraction 23 = .ok (.lreturn, 1) := by decide +kernel
theorem dX9_fraction_24 : decode cX9_fraction 24 = .ok (.aload_n 0, 1) := by decide +kernel
theorem dX9_fraction_25 : decode cX9_fraction 25 = .ok (.getfield 51, 3) := by decide +kernel
theorem dX9_fraction_28 : decode cX9_fraction 28 = .ok (.aload_n 0, 1) := by decide +kernel
theorem dX9_fraction_29 : decode cX9_fraction 29 = .ok (.getfield 12, 3) := by decide +kernel
theorem dX9_fraction_32 : decode cX9_fraction 32 = .ok (.getfield 173, 3) := by decide +kernel
theorem dX9_fraction_35 : decode cX9_fraction 35 = .ok (.aload_n 0, 1) := by decide +kernel
theorem dX9_fraction_36 : decode cX9_fraction 36 = .ok (.getfield 12, 3) := by decide +kernel
theorem dX9_fraction_39 : decode cX9_fraction 39 = .ok (.getfield 184, 3) := by decide +kernel
theorem dX9_fraction_42 : decode cX9_fraction 42 = .ok (.aload_n 0, 1) := by decide +kernel
theorem dX9_fraction_43 : decode cX9_fraction 43 = .ok (.getfield 12, 3) := by decide +kernel
theorem dX9_fraction_46 : decode cX9_fraction 46 = .ok (.getfield 147, 3) := by decide +kernel
theorem dX9_fraction_49 : decode cX9_fraction 49 = .ok (.aload_n 0, 1) := by decide +kernel
theorem dX9_fraction_50 : decode cX9_fraction 50 = .ok (.getfield 12, 3) := by decide +kernel
theorem dX9_fraction_53 : decode cX9_fraction 53 = .ok (.getfield 106, 3) := by decide +kernel
theorem dX9_fraction_56 : decode cX9_fraction 56 = .ok (.invokevirtual 188, 3) := by decide +kernel
theorem dX9_fraction_59 : decode cX9_fraction 59 = .ok (.aload_n 0, 1) := by decide +kernel
theorem dX9_fraction_60 : decode cX9_fraction 60 = .ok (.getfield 51, 3) := by decide +kernel
theorem dX9_fraction_63 : decode cX9_fraction 63 = .ok (.getfield 192, 3) := by decide +kernel
theorem dX9_fraction_66 : decode cX9_fraction 66 = .ok (.lconst 0, 1) := by decide +kernel
theorem dX9_fraction_67 : decode cX9_fraction 67 = .ok (.lcmp, 1) := by decide +kernel
theorem dX9_fraction_68 : decode cX9_fraction 68 = .ok (.ifCond .gt 7, 3) := by decide +kernel
theorem dX9_fraction_71 : decode cX9_fraction 71 = .ok (.ldc2_w 209, 3) := by decide +kernel
theorem dX9_fraction_74 : decode cX9_fraction 74 = .ok (.lreturn, 1) := by decide +kernel
theorem dX9_fraction_75 : decode cX9_fraction 75 = .ok (.aload_n 0, 1) := by decide +kernel
theorem dX9_fraction_76 : decode cX9_fraction 76 = .ok (.getfield 51, 3) := by decide +kernel
theorem dX9_fraction_79 : decode cX9_fraction 79 = .ok (.getfield 196, 3) := by decide +kernel
theorem dX9_fraction_82 : decode cX9_fraction 82 = .ok (.iload_n 1, 1) := by decide +kernel
theorem dX9_fraction_83 : decode cX9_fraction 83 = .ok (.laload, 1) := by decide +kernel
theorem dX9_fraction_84 : decode cX9_fraction 84 = .ok (.lstore_n 3, 1) := by decide +kernel
theorem dX9_fraction_85 : decode cX9_fraction 85 = .ok (.lconst 1, 1) := by decide +kernel
theorem dX9_fraction_86 : decode cX9_fraction 86 = .ok (.lload_n 3, 1) := by decide +kernel
theorem dX9_fraction_87 : decode cX9_fraction 87 = .ok (.invokestatic 211, 3) := by decide +kernel
theorem dX9_fraction_90 : decode cX9_fraction 90 = .ok (.aload_n 0, 1) := by decide +kernel
theorem dX9_fraction_91 : decode cX9_fraction 91 = .ok (.getfield 51, 3) := by decide +kernel
theorem dX9_fraction_94 : decode cX9_fraction 94 = .ok (.getfield 192, 3) := by decide +kernel
theorem dX9_fraction_97 : decode cX9_fraction 97 = .ok (.invokestatic 217, 3) := by decide +kernel
theorem dX9_fraction_100 : decode cX9_fraction 100 = .ok (.invokestatic 221, 3) := by decide +kernel
theorem dX9_fraction_103 : decode cX9_fraction 103 = .ok (.lstore 5, 2) := by decide +kernel
theorem dX9_fraction_105 : decode cX9_fraction 105 = .ok (.iload_n 2, 1) := by decide +kernel
theorem dX9_fraction_106 : decode cX9_fraction 106 = .ok (.ifCond .ne 7, 3) := by decide +kernel
theorem dX9_fraction_109 : decode cX9_fraction 109 = .ok (.lload_n 3, 1) := by decide +kernel
theorem dX9_fraction_110 : decode cX9_fraction 110 = .ok (.goto 10, 3) := by decide +kernel
theorem dX9_fraction_113 : decode cX9_fraction 113 = .ok (.aload_n 0, 1) := by decide +kernel
theorem dX9_fraction_114 : decode cX9_fraction 114 = .ok (.getfield 51, 3) := by decide +kernel
theorem dX9_fraction_117 : decode cX9_fraction 117 = .ok (.getfield 192, 3) := by decide +kernel
theorem dX9_fraction_120 : decode cX9_fraction 120 = .ok (.lload 5, 2) := by decide +kernel
theorem dX9_fraction_122 : decode cX9_fraction 122 = .ok (.ldiv, 1) := by decide +kernel
theorem dX9_fraction_123 : decode cX9_fraction 123 = .ok (.lreturn, 1) := by decide +kernel
set_option maxRecDepth 20000 in
theorem ggX9_taken_X6_takeAll : GoodIn wsX9_taken wsX6_takeAll := goodIn_r _ [9, 10, 11, 12, 13, 14, 15, 16, 17, 18, 19, 20, 21, 8, 22, 23, 24, 25, 26, 27, 28, 29, 30, 31, 32, 33, 34, 35, 36, 37, 38, 39, 40, 41, 42, 43, 44, 45, 46, 47, 48, 49, 50, 51, 52, 53, 54, 55, 56, 78, 79, 80, 81, 72, 73, 74, 75, 76, 77] (by decide +kernel) (by decide +kernel)
set_option maxRecDepth 20000 in
theorem gX9_taken_X6_takeAll : GoodIn wsX9_taken (wsV RX9 224 RX6 yX6_takeAll wsX6_takeAll) := goodIn_app (goodIn_of _ (by decide +kernel)) ggX9_taken_X6_takeAll
set_option maxRecDepth 20000 in
theorem ggX9_taken_X3_follow : GoodIn wsX9_taken wsX3_follow := goodIn_r _ [61, 62, 72, 73, 74, 75, 76, 77] (by decide +kernel) (by decide +kernel)
set_option maxRecDepth 20000 in
theorem gX9_taken_X3_follow : GoodIn wsX9_taken (wsV RX9 204 RX3 yX3_follow wsX3_follow) := goodIn_app (goodIn_of _ (by decide +kernel)) ggX9_taken_X3_follow
theorem dX9_taken_0 : decode cX9_taken 0 = .ok (.aload_n 0, 1) := by decide +kernel
theorem dX9_taken_1 : decode cX9_taken 1 = .ok (.getfield 58, 3) := by decide +kernel
theorem dX9_taken_4 : decode cX9_taken 4 = .ok (.invokevirtual 224, 3) := by decide +kernel
theorem dX9_taken_7 : decode cX9_taken 7 = .ok (.iconst 0, 1) := by decide +kernel
theorem dX9_taken_8 : decode cX9_taken 8 = .ok (.istore_n 1, 1) := by decide +kernel
theorem dX9_taken_9 : decode cX9_taken 9 = .ok (.iconst 0, 1) := by decide +kernel
theorem dX9_taken_10 : decode cX9_taken 10 = .ok (.istore_n 2, 1) := by decide +kernel
theorem dX9_taken_11 : decode cX9_taken 11 = .ok (.iload_n 2, 1) := by decide +kernel
theorem dX9_taken_12 : decode cX9_taken 12 = .ok (.aload_n 0, 1) := by decide +kernel
theorem dX9_taken_13 : decode cX9_taken 13 = .ok (.getfield 12, 3) := by decide +kernel
theorem dX9_taken_16 : decode cX9_taken 16 = .ok (.getfield 106, 3) := by decide +kernel
theorem dX9_taken_19 : decode cX9_taken 19 = .ok (.if_icmp .ge 27, 3) := by decide +kernel
theorem dX9_taken_22 : decode cX9_taken 22 = .ok (.aload_n 0, 1) := by decide +kernel
theorem dX9_taken_23 : decode cX9_taken 23 = .ok (.getfield 12, 3) := by decide +kernel
theorem dX9_taken_26 : decode cX9_taken 26 = .ok (.iload_n 1, 1) := by decide +kernel
theorem dX9_taken_27 : decode cX9_taken 27 = .ok (.aload_n 0, 1) := by decide +kernel
theorem dX9_taken_28 : decode cX9_taken 28 = .ok (.getfield 58, 3) := by decide +kernel
theorem dX9_taken_31 : decode cX9_taken 31 = .ok (.getfield 227, 3) := by decide +kernel
theorem dX9_taken_34 : decode cX9_taken 34 = .ok (.iload_n 2, 1) := by decide +kernel
theorem dX9_taken_35 : decode cX9_taken 35 = .ok (.iaload, 1) := by decide +kernel
theorem dX9_taken_36 : decode cX9_taken 36 = .ok (.invokevirtual 204, 3) := by decide +kernel
theorem dX9_taken_39 : decode cX9_taken 39 = .ok (.istore_n 1, 1) := by decide +kernel
theorem dX9_taken_40 : decode cX9_taken 40 = .ok (.iinc 2 1, 3) := by decide +kernel
theorem dX9_taken_43 : decode cX9_taken 43 = .ok (.goto (-32), 3) := by decide +kernel
theorem dX9_taken_46 : decode cX9_taken 46 = .ok (.iload_n 1, 1) := by decide +kernel
theorem dX9_taken_47 : decode cX9_taken 47 = .ok (.ireturn, 1) := by decide +kernel
set_option maxRecDepth 20000 in
theorem ggX9_order_X3_hasColumn : GoodIn wsX9_order wsX3_hasColumn := goodIn_r _ [8, 9, 75, 76, 77, 78, 79, 80] (by decide +kernel) (by decide +kernel)
set_option maxRecDepth 20000 in
theorem gX9_order_X3_hasColumn : GoodIn wsX9_order (wsV RX9 95 RX3 yX3_hasColumn wsX3_hasColumn) := goodIn_app (goodIn_of _ (by decide +kernel)) ggX9_order_X3_hasColumn
set_option maxRecDepth 20000 in
theorem ggX9_order_X6_takeAll : GoodIn wsX9_order wsX6_takeAll := goodIn_r _ [14, 15, 16, 17, 18, 19, 20, 21, 22, 23, 24, 25, 26, 13, 27, 28, 29, 30, 31, 32, 33, 34, 35, 36, 37, 38, 39, 40, 41, 42, 43, 44, 45, 46, 47, 48, 49, 50, 51, 52, 53, 54, 55, 56, 57, 58, 59, 60, 61, 71, 72, 73, 74, 75, 76, 77, 78, 79, 80] (by decide +kernel) (by decide +kernel)
set_option maxRecDepth 20000 in
theorem gX9_order_X6_takeAll : GoodIn wsX9_order (wsV RX9 224 RX6 yX6_takeAll wsX6_takeAll) := goodIn_app (goodIn_of _ (by decide +kernel)) ggX9_order_X6_takeAll
theorem dX9_order_0 : decode cX9_order 0 = .ok (.aload_n 0, 1) := by decide +kernel
theorem dX9_order_1 : decode cX9_order 1 = .ok (.getfield 12, 3) := by decide +kernel
theorem dX9_order_4 : decode cX9_order 4 = .ok (.iload_n 1, 1) := by decide +kernel
theorem dX9_order_5 : decode cX9_order 5 = .ok (.invokevirtual 95, 3) := by decide +kernel
theorem dX9_order_8 : decode cX9_order 8 = .ok (.ifCond .ne 5, 3) := by decide +kernel
theorem dX9_order_11 : decode cX9_order 11 = .ok (.iconst (-1), 1) := by decide +kernel
theorem dX9_order_12 : decode cX9_order 12 = .ok (.ireturn, 1) := by decide +kernel
theorem dX9_order_13 : decode cX9_order 13 = .ok (.aload_n 0, 1) := by decide +kernel
theorem dX9_order_14 : decode cX9_order 14 = .ok (.getfield 58, 3) := by decide +kernel
theorem dX9_order_17 : decode cX9_order 17 = .ok (.invokevirtual 224, 3) := by decide +kernel
theorem dX9_order_20 : decode cX9_order 20 = .ok (.aload_n 0, 1) := by decide +kernel
theorem dX9_order_21 : decode cX9_order 21 = .ok (.getfield 58, 3) := by decide +kernel
theorem dX9_order_24 : decode cX9_order 24 = .ok (.getfield 230, 3) := by decide +kernel
theorem dX9_order_27 : decode cX9_order 27 = .ok (.iload_n 1, 1) := by decide +kernel
theorem dX9_order_28 : decode cX9_order 28 = .ok (.iaload, 1) := by decide +kernel
theorem dX9_order_29 : decode cX9_order 29 = .ok (.ireturn, 1) := by decide +kernel
set_option maxRecDepth 20000 in
theorem ggX9_led_X1_lead : GoodIn wsX9_led wsX1_lead := goodIn_r _ [7, 8, 9, 10, 11, 12, 13, 14, 6, 15, 16, 17, 18, 19, 20, 21, 22, 23, 24, 25, 26, 27, 28, 29, 30, 31, 32, 33, 34, 35, 36, 37, 38, 39, 40, 41, 42, 43, 53, 54, 55, 56, 57, 58, 59, 60, 61, 62, 63, 64] (by decide +kernel) (by decide +kernel)
set_option maxRecDepth 20000 in
theorem gX9_led_X1_lead : GoodIn wsX9_led (wsV RX9 233 RX1 yX1_lead wsX1_lead) := goodIn_app (goodIn_of _ (by decide +kernel)) ggX9_led_X1_lead
theorem dX9_led_0 : decode cX9_led 0 = .ok (.aload_n 0, 1) := by decide +kernel
theorem dX9_led_1 : decode cX9_led 1 = .ok (.getfield 65, 3) := by decide +kernel
theorem dX9_led_4 : decode cX9_led 4 = .ok (.invokevirtual 233, 3) := by decide +kernel
theorem dX9_led_7 : decode cX9_led 7 = .ok (.aload_n 0, 1) := by decide +kernel
theorem dX9_led_8 : decode cX9_led 8 = .ok (.getfield 65, 3) := by decide +kernel
theorem dX9_led_11 : decode cX9_led 11 = .ok (.getfield 236, 3) := by decide +kernel
theorem dX9_led_14 : decode cX9_led 14 = .ok (.ireturn, 1) := by decide +kernel
set_option maxRecDepth 20000 in
theorem ggX9_ledAt_X3_hasColumn : GoodIn wsX9_ledAt wsX3_hasColumn := goodIn_r _ [10, 11, 73, 74, 75, 76, 77, 78] (by decide +kernel) (by decide +kernel)
set_option maxRecDepth 20000 in
theorem gX9_ledAt_X3_hasColumn : GoodIn wsX9_ledAt (wsV RX9 95 RX3 yX3_hasColumn wsX3_hasColumn) := goodIn_app (goodIn_of _ (by decide +kernel)) ggX9_ledAt_X3_hasColumn
set_option maxRecDepth 20000 in
theorem ggX9_ledAt_X3_hasRow : GoodIn wsX9_ledAt wsX3_hasRow := goodIn_r _ [15, 16, 73, 74, 75, 76, 77, 78] (by decide +kernel) (by decide +kernel)
set_option maxRecDepth 20000 in
theorem gX9_ledAt_X3_hasRow : GoodIn wsX9_ledAt (wsV RX9 91 RX3 yX3_hasRow wsX3_hasRow) := goodIn_app (goodIn_of _ (by decide +kernel)) ggX9_ledAt_X3_hasRow
set_option maxRecDepth 20000 in
theorem ggX9_ledAt_X1_lead : GoodIn wsX9_ledAt wsX1_lead := goodIn_r _ [21, 22, 23, 24, 25, 26, 27, 28, 20, 29, 30, 31, 32, 33, 34, 35, 36, 37, 38, 39, 40, 41, 42, 43, 44, 45, 46, 47, 48, 49, 50, 51, 52, 53, 54, 55, 56, 57, 67, 68, 69, 70, 71, 72, 73, 74, 75, 76, 77, 78] (by decide +kernel) (by decide +kernel)
set_option maxRecDepth 20000 in
theorem gX9_ledAt_X1_lead : GoodIn wsX9_ledAt (wsV RX9 233 RX1 yX1_lead wsX1_lead) := goodIn_app (goodIn_of _ (by decide +kernel)) ggX9_ledAt_X1_lead
theorem dX9_ledAt_0 : decode cX9_ledAt 0 = .ok (.aload_n 0, 1) := by decide +kernel
theorem dX9_ledAt_1 : decode cX9_ledAt 1 = .ok (.getfield 12, 3) := by decide +kernel
theorem dX9_ledAt_4 : decode cX9_ledAt 4 = .ok (.iload_n 3, 1) := by decide +kernel
theorem dX9_ledAt_5 : decode cX9_ledAt 5 = .ok (.invokevirtual 95, 3) := by decide +kernel
theorem dX9_ledAt_8 : decode cX9_ledAt 8 = .ok (.ifCond .eq 38, 3) := by decide +kernel
theorem dX9_ledAt_11 : decode cX9_ledAt 11 = .ok (.iload_n 1, 1) := by decide +kernel
theorem dX9_ledAt_12 : decode cX9_ledAt 12 = .ok (.ifCond .ne 14, 3) := by decide +kernel
theorem dX9_ledAt_15 : decode cX9_ledAt 15 = .ok (.aload_n 0, 1) := by decide +kernel
theorem dX9_ledAt_16 : decode cX9_ledAt 16 = .ok (.getfield 12, 3) := by decide +kernel
theorem dX9_ledAt_19 : decode cX9_ledAt 19 = .ok (.iload_n 2, 1) := by decide +kernel
theorem dX9_ledAt_20 : decode cX9_ledAt 20 = .ok (.invokevirtual 91, 3) := by decide +kernel
theorem dX9_ledAt_23 : decode cX9_ledAt 23 = .ok (.ifCond .ne 19, 3) := by decide +kernel
theorem dX9_ledAt_26 : decode cX9_ledAt 26 = .ok (.iload_n 1, 1) := by decide +kernel
theorem dX9_ledAt_27 : decode cX9_ledAt 27 = .ok (.iconst 1, 1) := by decide +kernel
theorem dX9_ledAt_28 : decode cX9_ledAt 28 = .ok (.if_icmp .ne 18, 3) := by decide +kernel
theorem dX9_ledAt_31 : decode cX9_ledAt 31 = .ok (.aload_n 0, 1) := by decide +kernel
theorem dX9_ledAt_32 : decode cX9_ledAt 32 = .ok (.getfield 12, 3) := by decide +kernel
theorem dX9_ledAt_35 : decode cX9_ledAt 35 = .ok (.iload_n 2, 1) := by decide +kernel
theorem dX9_ledAt_36 : decode cX9_ledAt 36 = .ok (.invokevirtual 95, 3) := by decide +kernel
theorem dX9_ledAt_39 : decode cX9_ledAt 39 = .ok (.ifCond .eq 7, 3) := by decide +kernel
theorem dX9_ledAt_42 : decode cX9_ledAt 42 = .ok (.iconst 1, 1) := by decide +kernel
theorem dX9_ledAt_43 : decode cX9_ledAt 43 = .ok (.goto 4, 3) := by decide +kernel
theorem dX9_ledAt_46 : decode cX9_ledAt 46 = .ok (.iconst 0, 1) := by decide +kernel
theorem dX9_ledAt_47 : decode cX9_ledAt 47 = .ok (.istore 4, 2) := by decide +kernel
theorem dX9_ledAt_49 : decode cX9_ledAt 49 = .ok (.iload 4, 2) := by decide +kernel
theorem dX9_ledAt_51 : decode cX9_ledAt 51 = .ok (.ifCond .ne 6, 3) := by decide +kernel
theorem dX9_ledAt_54 : decode cX9_ledAt 54 = .ok (.ldc 239, 2) := by decide +kernel
theorem dX9_ledAt_56 : decode cX9_ledAt 56 = .ok (.ireturn, 1) := by decide +kernel
theorem dX9_ledAt_57 : decode cX9_ledAt 57 = .ok (.aload_n 0, 1) := by decide +kernel
theorem dX9_ledAt_58 : decode cX9_ledAt 58 = .ok (.getfield 65, 3) := by decide +kernel
theorem dX9_ledAt_61 : decode cX9_ledAt 61 = .ok (.invokevirtual 233, 3) := by decide +kernel
theorem dX9_ledAt_64 : decode cX9_ledAt 64 = .ok (.iload_n 1, 1) := by decide +kernel
theorem dX9_ledAt_65 : decode cX9_ledAt 65 = .ok (.ifCond .ne 17, 3) := by decide +kernel
theorem dX9_ledAt_68 : decode cX9_ledAt 68 = .ok (.aload_n 0, 1) := by decide +kernel
theorem dX9_ledAt_69 : decode cX9_ledAt 69 = .ok (.getfield 65, 3) := by decide +kernel
theorem dX9_ledAt_72 : decode cX9_ledAt 72 = .ok (.getfield 240, 3) := by decide +kernel
theorem dX9_ledAt_75 : decode cX9_ledAt 75 = .ok (.iload_n 2, 1) := by decide +kernel
theorem dX9_ledAt_76 : decode cX9_ledAt 76 = .ok (.aaload, 1) := by decide +kernel
theorem dX9_ledAt_77 : decode cX9_ledAt 77 = .ok (.iload_n 3, 1) := by decide +kernel
theorem dX9_ledAt_78 : decode cX9_ledAt 78 = .ok (.iaload, 1) := by decide +kernel
theorem dX9_ledAt_79 : decode cX9_ledAt 79 = .ok (.goto 14, 3) := by decide +kernel
theorem dX9_ledAt_82 : decode cX9_ledAt 82 = .ok (.aload_n 0, 1) := by decide +kernel
theorem dX9_ledAt_83 : decode cX9_ledAt 83 = .ok (.getfield 65, 3) := by decide +kernel
theorem dX9_ledAt_86 : decode cX9_ledAt 86 = .ok (.getfield 243, 3) := by decide +kernel
theorem dX9_ledAt_89 : decode cX9_ledAt 89 = .ok (.iload_n 2, 1) := by decide +kernel
theorem dX9_ledAt_90 : decode cX9_ledAt 90 = .ok (.aaload, 1) := by decide +kernel
theorem dX9_ledAt_91 : decode cX9_ledAt 91 = .ok (.iload_n 3, 1) := by decide +kernel
theorem dX9_ledAt_92 : decode cX9_ledAt 92 = .ok (.iaload, 1) := by decide +kernel
theorem dX9_ledAt_93 : decode cX9_ledAt 93 = .ok (.ireturn, 1) := by decide +kernel
set_option maxRecDepth 20000 in
theorem ggX9_ledWord_X1_lead : GoodIn wsX9_ledWord wsX1_lead := goodIn_r _ [16, 17, 18, 19, 20, 21, 22, 23, 15, 24, 25, 26, 27, 28, 29, 30, 31, 32, 33, 34, 35, 36, 37, 38, 39, 40, 41, 42, 43, 44, 45, 46, 47, 48, 49, 50, 51, 52, 111, 112, 113, 114, 115, 116, 117, 118, 119, 120, 121, 122] (by decide +kernel) (by decide +kernel)
set_option maxRecDepth 20000 in
theorem gX9_ledWord_X1_lead : GoodIn wsX9_ledWord (wsV RX9 233 RX1 yX1_lead wsX1_lead) := goodIn_app (goodIn_of _ (by decide +kernel)) ggX9_ledWord_X1_lead
set_option maxRecDepth 20000 in
theorem ggX9_ledWord_X1_aim : GoodIn wsX9_ledWord wsX1_aim := goodIn_r _ [56, 18, 41, 36, 25, 57, 58, 59, 111, 112, 113, 114, 115, 116, 117, 118, 119, 120, 121, 122] (by decide +kernel) (by decide +kernel)
set_option maxRecDepth 20000 in
theorem gX9_ledWord_X1_aim : GoodIn wsX9_ledWord (wsV RX9 246 RX1 yX1_aim wsX1_aim) := goodIn_app (goodIn_of _ (by decide +kernel)) ggX9_ledWord_X1_aim
set_option maxRecDepth 20000 in
theorem ggX9_ledWord_X2_solve : GoodIn wsX9_ledWord wsX2_solve := goodIn_r _ [64, 65, 66, 67, 68, 46, 47, 48, 69, 70, 63, 71, 72, 73, 74, 75, 123, 124, 125, 126, 127] (by decide +kernel) (by decide +kernel)
set_option maxRecDepth 20000 in
theorem gX9_ledWord_X2_solve : GoodIn wsX9_ledWord (wsV RX9 188 RX2 yX2_solve wsX2_solve) := goodIn_app (goodIn_of _ (by decide +kernel)) ggX9_ledWord_X2_solve
set_option maxRecDepth 20000 in
theorem ggX9_ledWord_X9_nearestHalf : GoodIn wsX9_ledWord wsX9_nearestHalf := goodIn_r _ [78, 79, 80, 81, 47, 82, 83, 84, 85, 86] (by decide +kernel) (by decide +kernel)
set_option maxRecDepth 20000 in
theorem gX9_ledWord_X9_nearestHalf : GoodIn wsX9_ledWord (va_wsS RX9 252 yX9_nearestHalf wsX9_nearestHalf) := goodIn_app (goodIn_of _ (by decide +kernel)) ggX9_ledWord_X9_nearestHalf
set_option maxRecDepth 20000 in
theorem ggX9_ledWord_X9_held : GoodIn wsX9_ledWord wsX9_held := goodIn_r _ [89, 90, 91, 44, 92, 93, 94, 95] (by decide +kernel) (by decide +kernel)
set_option maxRecDepth 20000 in
theorem gX9_ledWord_X9_held : GoodIn wsX9_ledWord (va_wsS RX9 255 yX9_held wsX9_held) := goodIn_app (goodIn_of _ (by decide +kernel)) ggX9_ledWord_X9_held
set_option maxRecDepth 20000 in
theorem ggX9_ledWord_X3_follow : GoodIn wsX9_ledWord wsX3_follow := goodIn_r _ [100, 101, 117, 118, 119, 120, 121, 122] (by decide +kernel) (by decide +kernel)
set_option maxRecDepth 20000 in
theorem gX9_ledWord_X3_follow : GoodIn wsX9_ledWord (wsV RX9 204 RX3 yX3_follow wsX3_follow) := goodIn_app (goodIn_of _ (by decide +kernel)) ggX9_ledWord_X3_follow
theorem dX9_ledWord_0 : decode cX9_ledWord 0 = .ok (.aload_n 0, 1) := by decide +kernel
theorem dX9_ledWord_1 : decode cX9_ledWord 1 = .ok (.getfield 65, 3) := by decide +kernel
theorem dX9_ledWord_4 : decode cX9_ledWord 4 = .ok (.invokevirtual 233, 3) := by decide +kernel
theorem dX9_ledWord_7 : decode cX9_ledWord 7 = .ok (.aload_n 0, 1) := by decide +kernel
theorem dX9_ledWord_8 : decode cX9_ledWord 8 = .ok (.getfield 65, 3) := by decide +kernel
theorem dX9_ledWord_11 : decode cX9_ledWord 11 = .ok (.invokevirtual 246, 3) := by decide +kernel
theorem dX9_ledWord_14 : decode cX9_ledWord 14 = .ok (.aload_n 0, 1) := by decide +kernel
theorem dX9_ledWord_15 : decode cX9_ledWord 15 = .ok (.getfield 51, 3) := by decide +kernel
theorem dX9_ledWord_18 : decode cX9_ledWord 18 = .ok (.aload_n 0, 1) := by decide +kernel
theorem dX9_ledWord_19 : decode cX9_ledWord 19 = .ok (.getfield 65, 3) := by decide +kernel
theorem dX9_ledWord_22 : decode cX9_ledWord 22 = .ok (.getfield 240, 3) := by decide +kernel
theorem dX9_ledWord_25 : decode cX9_ledWord 25 = .ok (.aload_n 0, 1) := by decide +kernel
theorem dX9_ledWord_26 : decode cX9_ledWord 26 = .ok (.getfield 65, 3) := by decide +kernel
theorem dX9_ledWord_29 : decode cX9_ledWord 29 = .ok (.getfield 249, 3) := by decide +kernel
theorem dX9_ledWord_32 : decode cX9_ledWord 32 = .ok (.aload_n 0, 1) := by decide +kernel
theorem dX9_ledWord_33 : decode cX9_ledWord 33 = .ok (.getfield 12, 3) := by decide +kernel
theorem dX9_ledWord_36 : decode cX9_ledWord 36 = .ok (.getfield 147, 3) := by decide +kernel
theorem dX9_ledWord_39 : decode cX9_ledWord 39 = .ok (.aload_n 0, 1) := by decide +kernel
theorem dX9_ledWord_40 : decode cX9_ledWord 40 = .ok (.getfield 12, 3) := by decide +kernel
theorem dX9_ledWord_43 : decode cX9_ledWord 43 = .ok (.getfield 106, 3) := by decide +kernel
theorem dX9_ledWord_46 : decode cX9_ledWord 46 = .ok (.invokevirtual 188, 3) := by decide +kernel
theorem dX9_ledWord_49 : decode cX9_ledWord 49 = .ok (.aload_n 0, 1) := by decide +kernel
theorem dX9_ledWord_50 : decode cX9_ledWord 50 = .ok (.getfield 51, 3) := by decide +kernel
theorem dX9_ledWord_53 : decode cX9_ledWord 53 = .ok (.getfield 192, 3) := by decide +kernel
theorem dX9_ledWord_56 : decode cX9_ledWord 56 = .ok (.lconst 0, 1) := by decide +kernel
theorem dX9_ledWord_57 : decode cX9_ledWord 57 = .ok (.lcmp, 1) := by decide +kernel
theorem dX9_ledWord_58 : decode cX9_ledWord 58 = .ok (.ifCond .gt 6, 3) := by decide +kernel
theorem dX9_ledWord_61 : decode cX9_ledWord 61 = .ok (.bipush (-2), 2) := by decide +kernel
theorem dX9_ledWord_63 : decode cX9_ledWord 63 = .ok (.ireturn, 1) := by decide +kernel
theorem dX9_ledWord_64 : decode cX9_ledWord 64 = .ok (.iconst 0, 1) := by decide +kernel
theorem dX9_ledWord_65 : decode cX9_ledWord 65 = .ok (.istore_n 1, 1) := by decide +kernel
theorem dX9_ledWord_66 : decode cX9_ledWord 66 = .ok (.iconst 0, 1) := by decide +kernel
theorem dX9_ledWord_67 : decode cX9_ledWord 67 = .ok (.istore_n 2, 1) := by decide +kernel
theorem dX9_ledWord_68 : decode cX9_ledWord 68 = .ok (.iload_n 2, 1) := by decide +kernel
theorem dX9_ledWord_69 : decode cX9_ledWord 69 = .ok (.aload_n 0, 1) := by decide +kernel
theorem dX9_ledWord_70 : decode cX9_ledWord 70 = .ok (.getfield 12, 3) := by decide +kernel
theorem dX9_ledWord_73 : decode cX9_ledWord 73 = .ok (.getfield 106, 3) := by decide +kernel
theorem dX9_ledWord_76 : decode cX9_ledWord 76 = .ok (.if_icmp .ge 89, 3) := by decide +kernel
theorem dX9_ledWord_79 : decode cX9_ledWord 79 = .ok (.lconst 0, 1) := by decide +kernel
theorem dX9_ledWord_80 : decode cX9_ledWord 80 = .ok (.lstore_n 3, 1) := by decide +kernel
theorem dX9_ledWord_81 : decode cX9_ledWord 81 = .ok (.iconst 0, 1) := by decide +kernel
theorem dX9_ledWord_82 : decode cX9_ledWord 82 = .ok (.istore 5, 2) := by decide +kernel
theorem dX9_ledWord_84 : decode cX9_ledWord 84 = .ok (.iload 5, 2) := by decide +kernel
theorem dX9_ledWord_86 : decode cX9_ledWord 86 = .ok (.aload_n 0, 1) := by decide +kernel
theorem dX9_ledWord_87 : decode cX9_ledWord 87 = .ok (.getfield 12, 3) := by decide +kernel
theorem dX9_ledWord_90 : decode cX9_ledWord 90 = .ok (.getfield 106, 3) := by decide +kernel
theorem dX9_ledWord_93 : decode cX9_ledWord 93 = .ok (.if_icmp .ge 46, 3) := by decide +kernel
theorem dX9_ledWord_96 : decode cX9_ledWord 96 = .ok (.lload_n 3, 1) := by decide +kernel
theorem dX9_ledWord_97 : decode cX9_ledWord 97 = .ok (.aload_n 0, 1) := by decide +kernel
theorem dX9_ledWord_98 : decode cX9_ledWord 98 = .ok (.getfield 65, 3) := by decide +kernel
theorem dX9_ledWord_101 : decode cX9_ledWord 101 = .ok (.getfield 243, 3) := by decide +kernel
theorem dX9_ledWord_104 : decode cX9_ledWord 104 = .ok (.iload_n 2, 1) := by decide +kernel
theorem dX9_ledWord_105 : decode cX9_ledWord 105 = .ok (.aaload, 1) := by decide +kernel
theorem dX9_ledWord_106 : decode cX9_ledWord 106 = .ok (.iload 5, 2) := by decide +kernel
theorem dX9_ledWord_108 : decode cX9_ledWord 108 = .ok (.iaload, 1) := by decide +kernel
theorem dX9_ledWord_109 : decode cX9_ledWord 109 = .ok (.i2l, 1) := by decide +kernel
theorem dX9_ledWord_110 : decode cX9_ledWord 110 = .ok (.aload_n 0, 1) := by decide +kernel
theorem dX9_ledWord_111 : decode cX9_ledWord 111 = .ok (.getfield 51, 3) := by decide +kernel
theorem dX9_ledWord_114 : decode cX9_ledWord 114 = .ok (.getfield 196, 3) := by decide +kernel
theorem dX9_ledWord_117 : decode cX9_ledWord 117 = .ok (.iload 5, 2) := by decide +kernel
theorem dX9_ledWord_119 : decode cX9_ledWord 119 = .ok (.laload, 1) := by decide +kernel
theorem dX9_ledWord_120 : decode cX9_ledWord 120 = .ok (.aload_n 0, 1) := by decide +kernel
theorem dX9_ledWord_121 : decode cX9_ledWord 121 = .ok (.getfield 51, 3) := by decide +kernel
theorem dX9_ledWord_124 : decode cX9_ledWord 124 = .ok (.getfield 192, 3) := by decide +kernel
theorem dX9_ledWord_127 : decode cX9_ledWord 127 = .ok (.invokestatic 252, 3) := by decide +kernel
theorem dX9_ledWord_130 : decode cX9_ledWord 130 = .ok (.lmul, 1) := by decide +kernel
theorem dX9_ledWord_131 : decode cX9_ledWord 131 = .ok (.ladd, 1) := by decide +kernel
theorem dX9_ledWord_132 : decode cX9_ledWord 132 = .ok (.lstore_n 3, 1) := by decide +kernel
theorem dX9_ledWord_133 : decode cX9_ledWord 133 = .ok (.iinc 5 1, 3) := by decide +kernel
theorem dX9_ledWord_136 : decode cX9_ledWord 136 = .ok (.goto (-52), 3) := by decide +kernel
theorem dX9_ledWord_139 : decode cX9_ledWord 139 = .ok (.aload_n 0, 1) := by decide +kernel
theorem dX9_ledWord_140 : decode cX9_ledWord 140 = .ok (.getfield 12, 3) := by decide +kernel
theorem dX9_ledWord_143 : decode cX9_ledWord 143 = .ok (.iload_n 1, 1) := by decide +kernel
theorem dX9_ledWord_144 : decode cX9_ledWord 144 = .ok (.lload_n 3, 1) := by decide +kernel
theorem dX9_ledWord_145 : decode cX9_ledWord 145 = .ok (.aload_n 0, 1) := by decide +kernel
theorem dX9_ledWord_146 : decode cX9_ledWord 146 = .ok (.getfield 12, 3) := by decide +kernel
theorem dX9_ledWord_149 : decode cX9_ledWord 149 = .ok (.getfield 83, 3) := by decide +kernel
theorem dX9_ledWord_152 : decode cX9_ledWord 152 = .ok (.invokestatic 255, 3) := by decide +kernel
theorem dX9_ledWord_155 : decode cX9_ledWord 155 = .ok (.invokevirtual 204, 3) := by decide +kernel
theorem dX9_ledWord_158 : decode cX9_ledWord 158 = .ok (.istore_n 1, 1) := by decide +kernel
theorem dX9_ledWord_159 : decode cX9_ledWord 159 = .ok (.iinc 2 1, 3) := by decide +kernel
theorem dX9_ledWord_162 : decode cX9_ledWord 162 = .ok (.goto (-94), 3) := by decide +kernel
theorem dX9_ledWord_165 : decode cX9_ledWord 165 = .ok (.iload_n 1, 1) := by decide +kernel
theorem dX9_ledWord_166 : decode cX9_ledWord 166 = .ok (.ireturn, 1) := by decide +kernel
set_option maxRecDepth 20000 in
theorem ggX9_chosen_X9_mirror : GoodIn wsX9_chosen wsX9_mirror := goodIn_r _ [8] (by decide +kernel) (by decide +kernel)
set_option maxRecDepth 20000 in
theorem gX9_chosen_X9_mirror : GoodIn wsX9_chosen (va_wsS RX9 258 yX9_mirror wsX9_mirror) := goodIn_app (goodIn_of _ (by decide +kernel)) ggX9_chosen_X9_mirror
set_option maxRecDepth 20000 in
theorem ggX9_chosen_J6_bitCount_0f7a4 : GoodIn wsX9_chosen wsJ6_bitCount_0f7a4 := goodIn_r _ [12, 13, 14, 15] (by decide +kernel) (by decide +kernel)
set_option maxRecDepth 20000 in
theorem gX9_chosen_J6_bitCount_0f7a4 : GoodIn wsX9_chosen (va_wsS RX9 261 yJ6_bitCount_0f7a4 wsJ6_bitCount_0f7a4) := goodIn_app (goodIn_of _ (by decide +kernel)) ggX9_chosen_J6_bitCount_0f7a4
set_option maxRecDepth 20000 in
theorem ggX9_chosen_X2_worthOf : GoodIn wsX9_chosen wsX2_worthOf := goodIn_r _ [20, 21, 22, 23, 24, 25, 26, 7, 27, 28, 29, 19, 30, 40, 41, 42, 43, 44, 45, 46, 47, 48, 49, 50] (by decide +kernel) (by decide +kernel)
set_option maxRecDepth 20000 in
theorem gX9_chosen_X2_worthOf : GoodIn wsX9_chosen (wsV RX9 180 RX2 yX2_worthOf wsX2_worthOf) := goodIn_app (goodIn_of _ (by decide +kernel)) ggX9_chosen_X2_worthOf
theorem dX9_chosen_0 : decode cX9_chosen 0 = .ok (.iload_n 1, 1) := by decide +kernel
theorem dX9_chosen_1 : decode cX9_chosen 1 = .ok (.iconst 1, 1) := by decide +kernel
theorem dX9_chosen_2 : decode cX9_chosen 2 = .ok (.if_icmp .lt 14, 3) := by decide +kernel
theorem dX9_chosen_5 : decode cX9_chosen 5 = .ok (.iload_n 1, 1) := by decide +kernel
theorem dX9_chosen_6 : decode cX9_chosen 6 = .ok (.aload_n 0, 1) := by decide +kernel
theorem dX9_chosen_7 : decode cX9_chosen 7 = .ok (.getfield 12, 3) := by decide +kernel
theorem dX9_chosen_10 : decode cX9_chosen 10 = .ok (.getfield 106, 3) := by decide +kernel
theorem dX9_chosen_13 : decode cX9_chosen 13 = .ok (.if_icmp .le 5, 3) := by decide +kernel
theorem dX9_chosen_16 : decode cX9_chosen 16 = .ok (.iconst (-1), 1) := by decide +kernel
theorem dX9_chosen_17 : decode cX9_chosen 17 = .ok (.ireturn, 1) := by decide +kernel
theorem dX9_chosen_18 : decode cX9_chosen 18 = .ok (.iconst 0, 1) := by decide +kernel
theorem dX9_chosen_19 : decode cX9_chosen 19 = .ok (.istore_n 2, 1) := by decide +kernel
theorem dX9_chosen_20 : decode cX9_chosen 20 = .ok (.ldc2_w 178, 3) := by decide +kernel
theorem dX9_chosen_23 : decode cX9_chosen 23 = .ok (.lstore_n 3, 1) := by decide +kernel
theorem dX9_chosen_24 : decode cX9_chosen 24 = .ok (.iconst 1, 1) := by decide +kernel
theorem dX9_chosen_25 : decode cX9_chosen 25 = .ok (.aload_n 0, 1) := by decide +kernel
theorem dX9_chosen_26 : decode cX9_chosen 26 = .ok (.getfield 12, 3) := by decide +kernel
theorem dX9_chosen_29 : decode cX9_chosen 29 = .ok (.getfield 106, 3) := by decide +kernel
theorem dX9_chosen_32 : decode cX9_chosen 32 = .ok (.ishl, 1) := by decide +kernel
theorem dX9_chosen_33 : decode cX9_chosen 33 = .ok (.iconst 1, 1) := by decide +kernel
theorem dX9_chosen_34 : decode cX9_chosen 34 = .ok (.isub, 1) := by decide +kernel
theorem dX9_chosen_35 : decode cX9_chosen 35 = .ok (.istore 5, 2) := by decide +kernel
theorem dX9_chosen_37 : decode cX9_chosen 37 = .ok (.iload 5, 2) := by decide +kernel
theorem dX9_chosen_39 : decode cX9_chosen 39 = .ok (.iconst 1, 1) := by decide +kernel
theorem dX9_chosen_40 : decode cX9_chosen 40 = .ok (.if_icmp .lt 63, 3) := by decide +kernel
theorem dX9_chosen_43 : decode cX9_chosen 43 = .ok (.iload 5, 2) := by decide +kernel
theorem dX9_chosen_45 : decode cX9_chosen 45 = .ok (.aload_n 0, 1) := by decide +kernel
theorem dX9_chosen_46 : decode cX9_chosen 46 = .ok (.getfield 12, 3) := by decide +kernel
theorem dX9_chosen_49 : decode cX9_chosen 49 = .ok (.getfield 106, 3) := by decide +kernel
theorem dX9_chosen_52 : decode cX9_chosen 52 = .ok (.invokestatic 258, 3) := by decide +kernel
theorem dX9_chosen_55 : decode cX9_chosen 55 = .ok (.istore 6, 2) := by decide +kernel
theorem dX9_chosen_57 : decode cX9_chosen 57 = .ok (.iload 6, 2) := by decide +kernel
theorem dX9_chosen_59 : decode cX9_chosen 59 = .ok (.invokestatic 261, 3) := by decide +kernel
theorem dX9_chosen_62 : decode cX9_chosen 62 = .ok (.iload_n 1, 1) := by decide +kernel
theorem dX9_chosen_63 : decode cX9_chosen 63 = .ok (.if_icmp .eq 6, 3) := by decide +kernel
theorem dX9_chosen_66 : decode cX9_chosen 66 = .ok (.goto 31, 3) := by decide +kernel
theorem dX9_chosen_69 : decode cX9_chosen 69 = .ok (.aload_n 0, 1) := by decide +kernel
theorem dX9_chosen_70 : decode cX9_chosen 70 = .ok (.getfield 51, 3) := by decide +kernel
theorem dX9_chosen_73 : decode cX9_chosen 73 = .ok (.aload_n 0, 1) := by decide +kernel
theorem dX9_chosen_74 : decode cX9_chosen 74 = .ok (.getfield 12, 3) := by decide +kernel
theorem dX9_chosen_77 : decode cX9_chosen 77 = .ok (.iload 6, 2) := by decide +kernel
theorem dX9_chosen_79 : decode cX9_chosen 79 = .ok (.invokevirtual 180, 3) := by decide +kernel
theorem dX9_chosen_82 : decode cX9_chosen 82 = .ok (.lstore 7, 2) := by decide +kernel
theorem dX9_chosen_84 : decode cX9_chosen 84 = .ok (.lload 7, 2) := by decide +kernel
theorem dX9_chosen_86 : decode cX9_chosen 86 = .ok (.lload_n 3, 1) := by decide +kernel
theorem dX9_chosen_87 : decode cX9_chosen 87 = .ok (.lcmp, 1) := by decide +kernel
theorem dX9_chosen_88 : decode cX9_chosen 88 = .ok (.ifCond .le 9, 3) := by decide +kernel
theorem dX9_chosen_91 : decode cX9_chosen 91 = .ok (.iload 6, 2) := by decide +kernel
theorem dX9_chosen_93 : decode cX9_chosen 93 = .ok (.istore_n 2, 1) := by decide +kernel
theorem dX9_chosen_94 : decode cX9_chosen 94 = .ok (.lload 7, 2) := by decide +kernel
theorem dX9_chosen_96 : decode cX9_chosen 96 = .ok (.lstore_n 3, 1) := by decide +kernel
theorem dX9_chosen_97 : decode cX9_chosen 97 = .ok (.iinc 5 (-1), 3) := by decide +kernel
theorem dX9_chosen_100 : decode cX9_chosen 100 = .ok (.goto (-63), 3) := by decide +kernel
theorem dX9_chosen_103 : decode cX9_chosen 103 = .ok (.iload_n 2, 1) := by decide +kernel
theorem dX9_chosen_104 : decode cX9_chosen 104 = .ok (.ireturn, 1) := by decide +kernel
set_option maxRecDepth 20000 in
theorem ggX9_sheet_X9_isSheet : GoodIn wsX9_sheet wsX9_isSheet := goodIn_r _ [5] (by decide +kernel) (by decide +kernel)
set_option maxRecDepth 20000 in
theorem gX9_sheet_X9_isSheet : GoodIn wsX9_sheet (va_wsS RX9 266 yX9_isSheet wsX9_isSheet) := goodIn_app (goodIn_of _ (by decide +kernel)) ggX9_sheet_X9_isSheet
set_option maxRecDepth 20000 in
theorem ggX9_sheet_X9_isLane : GoodIn wsX9_sheet wsX9_isLane := goodIn_r _ [8] (by decide +kernel) (by decide +kernel)
set_option maxRecDepth 20000 in
theorem gX9_sheet_X9_isLane : GoodIn wsX9_sheet (va_wsS RX9 269 yX9_isLane wsX9_isLane) := goodIn_app (goodIn_of _ (by decide +kernel)) ggX9_sheet_X9_isLane
set_option maxRecDepth 20000 in
theorem ggX9_sheet_X5_renew : GoodIn wsX9_sheet wsX5_renew := goodIn_r _ [13, 14, 15, 16, 17, 18, 19, 20, 30, 31, 32] (by decide +kernel) (by decide +kernel)
set_option maxRecDepth 20000 in
theorem gX9_sheet_X5_renew : GoodIn wsX9_sheet (wsV RX9 272 RX5 yX5_renew wsX5_renew) := goodIn_app (goodIn_of _ (by decide +kernel)) ggX9_sheet_X5_renew
theorem dX9_sheet_0 : decode cX9_sheet 0 = .ok (.iload_n 1, 1) := by decide +kernel
theorem dX9_sheet_1 : decode cX9_sheet 1 = .ok (.invokestatic 266, 3) := by decide +kernel
theorem dX9_sheet_4 : decode cX9_sheet 4 = .ok (.ifCond .eq 16, 3) := by decide +kernel
theorem dX9_sheet_7 : decode cX9_sheet 7 = .ok (.iload_n 2, 1) := by decide +kernel
theorem dX9_sheet_8 : decode cX9_sheet 8 = .ok (.invokestatic 269, 3) := by decide +kernel
theorem dX9_sheet_11 : decode cX9_sheet 11 = .ok (.ifCond .eq 9, 3) := by decide +kernel
theorem dX9_sheet_14 : decode cX9_sheet 14 = .ok (.iload_n 3, 1) := by decide +kernel
theorem dX9_sheet_15 : decode cX9_sheet 15 = .ok (.bipush 25, 2) := by decide +kernel
theorem dX9_sheet_17 : decode cX9_sheet 17 = .ok (.if_icmp .le 5, 3) := by decide +kernel
theorem dX9_sheet_20 : decode cX9_sheet 20 = .ok (.iconst (-1), 1) := by decide +kernel
theorem dX9_sheet_21 : decode cX9_sheet 21 = .ok (.ireturn, 1) := by decide +kernel
theorem dX9_sheet_22 : decode cX9_sheet 22 = .ok (.iload_n 3, 1) := by decide +kernel
theorem dX9_sheet_23 : decode cX9_sheet 23 = .ok (.ifCond .ge 6, 3) := by decide +kernel
theorem dX9_sheet_26 : decode cX9_sheet 26 = .ok (.bipush (-14), 2) := by decide +kernel
theorem dX9_sheet_28 : decode cX9_sheet 28 = .ok (.ireturn, 1) := by decide +kernel
theorem dX9_sheet_29 : decode cX9_sheet 29 = .ok (.aload_n 0, 1) := by decide +kernel
theorem dX9_sheet_30 : decode cX9_sheet 30 = .ok (.getfield 71, 3) := by decide +kernel
theorem dX9_sheet_33 : decode cX9_sheet 33 = .ok (.iload_n 1, 1) := by decide +kernel
theorem dX9_sheet_34 : decode cX9_sheet 34 = .ok (.aaload, 1) := by decide +kernel
theorem dX9_sheet_35 : decode cX9_sheet 35 = .ok (.iload_n 2, 1) := by decide +kernel
theorem dX9_sheet_36 : decode cX9_sheet 36 = .ok (.iload_n 3, 1) := by decide +kernel
theorem dX9_sheet_37 : decode cX9_sheet 37 = .ok (.invokevirtual 272, 3) := by decide +kernel
theorem dX9_sheet_40 : decode cX9_sheet 40 = .ok (.iload_n 3, 1) := by decide +kernel
theorem dX9_sheet_41 : decode cX9_sheet 41 = .ok (.ireturn, 1) := by decide +kernel
set_option maxRecDepth 20000 in
theorem ggX9_drop_X9_isSheet : GoodIn wsX9_drop wsX9_isSheet := goodIn_r _ [6] (by decide +kernel) (by decide +kernel)
set_option maxRecDepth 20000 in
theorem gX9_drop_X9_isSheet : GoodIn wsX9_drop (va_wsS RX9 266 yX9_isSheet wsX9_isSheet) := goodIn_app (goodIn_of _ (by decide +kernel)) ggX9_drop_X9_isSheet
set_option maxRecDepth 20000 in
theorem ggX9_drop_X5_holds : GoodIn wsX9_drop wsX5_holds := goodIn_r _ [11, 12, 27, 28, 29] (by decide +kernel) (by decide +kernel)
set_option maxRecDepth 20000 in
theorem gX9_drop_X5_holds : GoodIn wsX9_drop (wsV RX9 275 RX5 yX5_holds wsX5_holds) := goodIn_app (goodIn_of _ (by decide +kernel)) ggX9_drop_X5_holds
set_option maxRecDepth 20000 in
theorem ggX9_drop_X5_empty : GoodIn wsX9_drop wsX5_empty := goodIn_r _ [16, 12, 17, 27, 28, 29] (by decide +kernel) (by decide +kernel)
set_option maxRecDepth 20000 in
theorem gX9_drop_X5_empty : GoodIn wsX9_drop (wsV RX9 281 RX5 yX5_empty wsX5_empty) := goodIn_app (goodIn_of _ (by decide +kernel)) ggX9_drop_X5_empty
theorem dX9_drop_0 : decode cX9_drop 0 = .ok (.iload_n 1, 1) := by decide +kernel
theorem dX9_drop_1 : decode cX9_drop 1 = .ok (.invokestatic 266, 3) := by decide +kernel
theorem dX9_drop_4 : decode cX9_drop 4 = .ok (.ifCond .ne 5, 3) := by decide +kernel
theorem dX9_drop_7 : decode cX9_drop 7 = .ok (.iconst (-1), 1) := by decide +kernel
theorem dX9_drop_8 : decode cX9_drop 8 = .ok (.ireturn, 1) := by decide +kernel
theorem dX9_drop_9 : decode cX9_drop 9 = .ok (.aload_n 0, 1) := by decide +kernel
theorem dX9_drop_10 : decode cX9_drop 10 = .ok (.getfield 71, 3) := by decide +kernel
theorem dX9_drop_13 : decode cX9_drop 13 = .ok (.iload_n 1, 1) := by decide +kernel
theorem dX9_drop_14 : decode cX9_drop 14 = .ok (.aaload, 1) := by decide +kernel
theorem dX9_drop_15 : decode cX9_drop 15 = .ok (.invokevirtual 275, 3) := by decide +kernel
theorem dX9_drop_18 : decode cX9_drop 18 = .ok (.ifCond .ne 6, 3) := by decide +kernel
theorem dX9_drop_21 : decode cX9_drop 21 = .ok (.bipush (-11), 2) := by decide +kernel
theorem dX9_drop_23 : decode cX9_drop 23 = .ok (.ireturn, 1) := by decide +kernel
theorem dX9_drop_24 : decode cX9_drop 24 = .ok (.aload_n 0, 1) := by decide +kernel
theorem dX9_drop_25 : decode cX9_drop 25 = .ok (.getfield 71, 3) := by decide +kernel
theorem dX9_drop_28 : decode cX9_drop 28 = .ok (.iload_n 1, 1) := by decide +kernel
theorem dX9_drop_29 : decode cX9_drop 29 = .ok (.aaload, 1) := by decide +kernel
theorem dX9_drop_30 : decode cX9_drop 30 = .ok (.getfield 278, 3) := by decide +kernel
theorem dX9_drop_33 : decode cX9_drop 33 = .ok (.istore_n 2, 1) := by decide +kernel
theorem dX9_drop_34 : decode cX9_drop 34 = .ok (.aload_n 0, 1) := by decide +kernel
theorem dX9_drop_35 : decode cX9_drop 35 = .ok (.getfield 71, 3) := by decide +kernel
theorem dX9_drop_38 : decode cX9_drop 38 = .ok (.iload_n 1, 1) := by decide +kernel
theorem dX9_drop_39 : decode cX9_drop 39 = .ok (.aaload, 1) := by decide +kernel
theorem dX9_drop_40 : decode cX9_drop 40 = .ok (.invokevirtual 281, 3) := by decide +kernel
theorem dX9_drop_43 : decode cX9_drop 43 = .ok (.iload_n 2, 1) := by decide +kernel
theorem dX9_drop_44 : decode cX9_drop 44 = .ok (.ireturn, 1) := by decide +kernel
set_option maxRecDepth 20000 in
theorem ggX9_item_X9_refusal : GoodIn wsX9_item wsX9_refusal := goodIn_r _ [6, 1, 7, 8, 9, 10, 5, 11, 12, 13, 14, 15, 16, 17, 18, 19, 20, 26, 27, 28, 29, 30, 31, 32, 33, 34, 35, 36, 37] (by decide +kernel) (by decide +kernel)
set_option maxRecDepth 20000 in
theorem gX9_item_X9_refusal : GoodIn wsX9_item (wsV RX9 284 RX9 yX9_refusal wsX9_refusal) := goodIn_app (goodIn_of _ (by decide +kernel)) ggX9_item_X9_refusal
set_option maxRecDepth 20000 in
theorem ggX9_item_X5_put : GoodIn wsX9_item wsX5_put := goodIn_r _ [24, 25, 20, 35, 36, 37] (by decide +kernel) (by decide +kernel)
set_option maxRecDepth 20000 in
theorem gX9_item_X5_put : GoodIn wsX9_item (wsV RX9 288 RX5 yX5_put wsX5_put) := goodIn_app (goodIn_of _ (by decide +kernel)) ggX9_item_X5_put
theorem dX9_item_0 : decode cX9_item 0 = .ok (.aload_n 0, 1) := by decide +kernel
theorem dX9_item_1 : decode cX9_item 1 = .ok (.iload_n 1, 1) := by decide +kernel
theorem dX9_item_2 : decode cX9_item 2 = .ok (.iload_n 2, 1) := by decide +kernel
theorem dX9_item_3 : decode cX9_item 3 = .ok (.iload_n 3, 1) := by decide +kernel
theorem dX9_item_4 : decode cX9_item 4 = .ok (.iconst 1, 1) := by decide +kernel
theorem dX9_item_5 : decode cX9_item 5 = .ok (.invokevirtual 284, 3) := by decide +kernel
theorem dX9_item_8 : decode cX9_item 8 = .ok (.istore 5, 2) := by decide +kernel
theorem dX9_item_10 : decode cX9_item 10 = .ok (.iload 5, 2) := by decide +kernel
theorem dX9_item_12 : decode cX9_item 12 = .ok (.ifCond .eq 6, 3) := by decide +kernel
theorem dX9_item_15 : decode cX9_item 15 = .ok (.iload 5, 2) := by decide +kernel
theorem dX9_item_17 : decode cX9_item 17 = .ok (.ireturn, 1) := by decide +kernel
theorem dX9_item_18 : decode cX9_item 18 = .ok (.aload_n 0, 1) := by decide +kernel
theorem dX9_item_19 : decode cX9_item 19 = .ok (.getfield 71, 3) := by decide +kernel
theorem dX9_item_22 : decode cX9_item 22 = .ok (.iload_n 1, 1) := by decide +kernel
theorem dX9_item_23 : decode cX9_item 23 = .ok (.aaload, 1) := by decide +kernel
theorem dX9_item_24 : decode cX9_item 24 = .ok (.iload_n 3, 1) := by decide +kernel
theorem dX9_item_25 : decode cX9_item 25 = .ok (.iload 4, 2) := by decide +kernel
theorem dX9_item_27 : decode cX9_item 27 = .ok (.invokevirtual 288, 3) := by decide +kernel
theorem dX9_item_30 : decode cX9_item 30 = .ok (.iconst 1, 1) := by decide +kernel
theorem dX9_item_31 : decode cX9_item 31 = .ok (.ireturn, 1) := by decide +kernel
set_option maxRecDepth 20000 in
theorem ggX9_rows_X9_refusal : GoodIn wsX9_rows wsX9_refusal := goodIn_r _ [11, 4, 12, 13, 14, 15, 10, 16, 17, 18, 19, 20, 21, 22, 23, 24, 25, 54, 55, 56, 57, 58, 59, 60, 61, 62, 69, 70, 71] (by decide +kernel) (by decide +kernel)
set_option maxRecDepth 20000 in
theorem gX9_rows_X9_refusal : GoodIn wsX9_rows (wsV RX9 284 RX9 yX9_refusal wsX9_refusal) := goodIn_app (goodIn_of _ (by decide +kernel)) ggX9_rows_X9_refusal
set_option maxRecDepth 20000 in
theorem ggX9_rows_X3_takes : GoodIn wsX9_rows wsX3_takes := goodIn_r _ [30, 31, 32, 33, 10, 34, 63, 64, 65, 66, 67, 68] (by decide +kernel) (by decide +kernel)
set_option maxRecDepth 20000 in
theorem gX9_rows_X3_takes : GoodIn wsX9_rows (wsV RX9 293 RX3 yX3_takes wsX3_takes) := goodIn_app (goodIn_of _ (by decide +kernel)) ggX9_rows_X3_takes
set_option maxRecDepth 20000 in
theorem ggX9_rows_X3_copy : GoodIn wsX9_rows wsX3_copy := goodIn_r _ [38, 31, 32, 39, 40, 41, 29, 42, 43, 44, 45, 63, 64, 65, 66, 67, 68] (by decide +kernel) (by decide +kernel)
set_option maxRecDepth 20000 in
theorem gX9_rows_X3_copy : GoodIn wsX9_rows (wsV RX9 296 RX3 yX3_copy wsX3_copy) := goodIn_app (goodIn_of _ (by decide +kernel)) ggX9_rows_X3_copy
set_option maxRecDepth 20000 in
theorem ggX9_rows_X0_forget : GoodIn wsX9_rows wsX0_forget := goodIn_r _ [50, 51, 52, 53, 72, 73, 74, 75, 76, 77, 78, 79] (by decide +kernel) (by decide +kernel)
set_option maxRecDepth 20000 in
theorem gX9_rows_X0_forget : GoodIn wsX9_rows (wsV RX9 80 RX0 yX0_forget wsX0_forget) := goodIn_app (goodIn_of _ (by decide +kernel)) ggX9_rows_X0_forget
theorem dX9_rows_0 : decode cX9_rows 0 = .ok (.aload_n 0, 1) := by decide +kernel
theorem dX9_rows_1 : decode cX9_rows 1 = .ok (.iload_n 1, 1) := by decide +kernel
theorem dX9_rows_2 : decode cX9_rows 2 = .ok (.iload_n 2, 1) := by decide +kernel
theorem dX9_rows_3 : decode cX9_rows 3 = .ok (.iload_n 3, 1) := by decide +kernel
theorem dX9_rows_4 : decode cX9_rows 4 = .ok (.aload_n 0, 1) := by decide +kernel
theorem dX9_rows_5 : decode cX9_rows 5 = .ok (.getfield 12, 3) := by decide +kernel
theorem dX9_rows_8 : decode cX9_rows 8 = .ok (.getfield 147, 3) := by decide +kernel
theorem dX9_rows_11 : decode cX9_rows 11 = .ok (.aload_n 0, 1) := by decide +kernel
theorem dX9_rows_12 : decode cX9_rows 12 = .ok (.getfield 12, 3) := by decide +kernel
theorem dX9_rows_15 : decode cX9_rows 15 = .ok (.getfield 106, 3) := by decide +kernel
theorem dX9_rows_18 : decode cX9_rows 18 = .ok (.iconst 1, 1) := by decide +kernel
theorem dX9_rows_19 : decode cX9_rows 19 = .ok (.iadd, 1) := by decide +kernel
theorem dX9_rows_20 : decode cX9_rows 20 = .ok (.imul, 1) := by decide +kernel
theorem dX9_rows_21 : decode cX9_rows 21 = .ok (.invokevirtual 284, 3) := by decide +kernel
theorem dX9_rows_24 : decode cX9_rows 24 = .ok (.istore 4, 2) := by decide +kernel
theorem dX9_rows_26 : decode cX9_rows 26 = .ok (.iload 4, 2) := by decide +kernel
theorem dX9_rows_28 : decode cX9_rows 28 = .ok (.ifCond .eq 6, 3) := by decide +kernel
theorem dX9_rows_31 : decode cX9_rows 31 = .ok (.iload 4, 2) := by decide +kernel
theorem dX9_rows_33 : decode cX9_rows 33 = .ok (.ireturn, 1) := by decide +kernel
theorem dX9_rows_34 : decode cX9_rows 34 = .ok (.aload_n 0, 1) := by decide +kernel
theorem dX9_rows_35 : decode cX9_rows 35 = .ok (.getfield 12, 3) := by decide +kernel
theorem dX9_rows_38 : decode cX9_rows 38 = .ok (.aload_n 0, 1) := by decide +kernel
theorem dX9_rows_39 : decode cX9_rows 39 = .ok (.getfield 71, 3) := by decide +kernel
theorem dX9_rows_42 : decode cX9_rows 42 = .ok (.iload_n 1, 1) := by decide +kernel
theorem dX9_rows_43 : decode cX9_rows 43 = .ok (.aaload, 1) := by decide +kernel
theorem dX9_rows_44 : decode cX9_rows 44 = .ok (.getfield 290, 3) := by decide +kernel
theorem dX9_rows_47 : decode cX9_rows 47 = .ok (.iload_n 3, 1) := by decide +kernel
theorem dX9_rows_48 : decode cX9_rows 48 = .ok (.invokevirtual 293, 3) := by decide +kernel
theorem dX9_rows_51 : decode cX9_rows 51 = .ok (.ifCond .ne 6, 3) := by decide +kernel
theorem dX9_rows_54 : decode cX9_rows 54 = .ok (.bipush (-2), 2) := by decide +kernel
theorem dX9_rows_56 : decode cX9_rows 56 = .ok (.ireturn, 1) := by decide +kernel
theorem dX9_rows_57 : decode cX9_rows 57 = .ok (.aload_n 0, 1) := by decide +kernel
theorem dX9_rows_58 : decode cX9_rows 58 = .ok (.getfield 12, 3) := by decide +kernel
theorem dX9_rows_61 : decode cX9_rows 61 = .ok (.aload_n 0, 1) := by decide +kernel
theorem dX9_rows_62 : decode cX9_rows 62 = .ok (.getfield 71, 3) := by decide +kernel
theorem dX9_rows_65 : decode cX9_rows 65 = .ok (.iload_n 1, 1) := by decide +kernel
theorem dX9_rows_66 : decode cX9_rows 66 = .ok (.aaload, 1) := by decide +kernel
theorem dX9_rows_67 : decode cX9_rows 67 = .ok (.getfield 290, 3) := by decide +kernel
theorem dX9_rows_70 : decode cX9_rows 70 = .ok (.iload_n 3, 1) := by decide +kernel
theorem dX9_rows_71 : decode cX9_rows 71 = .ok (.invokevirtual 296, 3) := by decide +kernel
theorem dX9_rows_74 : decode cX9_rows 74 = .ok (.aload_n 0, 1) := by decide +kernel
theorem dX9_rows_75 : decode cX9_rows 75 = .ok (.getfield 21, 3) := by decide +kernel
theorem dX9_rows_78 : decode cX9_rows 78 = .ok (.invokevirtual 80, 3) := by decide +kernel
theorem dX9_rows_81 : decode cX9_rows 81 = .ok (.aload_n 0, 1) := by decide +kernel
theorem dX9_rows_82 : decode cX9_rows 82 = .ok (.getfield 12, 3) := by decide +kernel
theorem dX9_rows_85 : decode cX9_rows 85 = .ok (.getfield 147, 3) := by decide +kernel
theorem dX9_rows_88 : decode cX9_rows 88 = .ok (.ireturn, 1) := by decide +kernel
theorem dX9_within_0 : decode cX9_within 0 = .ok (.lload_n 0, 1) := by decide +kernel
theorem dX9_within_1 : decode cX9_within 1 = .ok (.iload_n 2, 1) := by decide +kernel
theorem dX9_within_2 : decode cX9_within 2 = .ok (.ineg, 1) := by decide +kernel
theorem dX9_within_3 : decode cX9_within 3 = .ok (.i2l, 1) := by decide +kernel
theorem dX9_within_4 : decode cX9_within 4 = .ok (.lcmp, 1) := by decide +kernel
theorem dX9_within_5 : decode cX9_within 5 = .ok (.ifCond .lt 14, 3) := by decide +kernel
theorem dX9_within_8 : decode cX9_within 8 = .ok (.lload_n 0, 1) := by decide +kernel
theorem dX9_within_9 : decode cX9_within 9 = .ok (.iload_n 2, 1) := by decide +kernel
theorem dX9_within_10 : decode cX9_within 10 = .ok (.i2l, 1) := by decide +kernel
theorem dX9_within_11 : decode cX9_within 11 = .ok (.lcmp, 1) := by decide +kernel
theorem dX9_within_12 : decode cX9_within 12 = .ok (.ifCond .gt 7, 3) := by decide +kernel
theorem dX9_within_15 : decode cX9_within 15 = .ok (.iconst 1, 1) := by decide +kernel
theorem dX9_within_16 : decode cX9_within 16 = .ok (.goto 4, 3) := by decide +kernel
theorem dX9_within_19 : decode cX9_within 19 = .ok (.iconst 0, 1) := by decide +kernel
theorem dX9_within_20 : decode cX9_within 20 = .ok (.ireturn, 1) := by decide +kernel
theorem dX9_isSheet_0 : decode cX9_isSheet 0 = .ok (.iload_n 0, 1) := by decide +kernel
theorem dX9_isSheet_1 : decode cX9_isSheet 1 = .ok (.ifCond .lt 12, 3) := by decide +kernel
theorem dX9_isSheet_4 : decode cX9_isSheet 4 = .ok (.iload_n 0, 1) := by decide +kernel
theorem dX9_isSheet_5 : decode cX9_isSheet 5 = .ok (.iconst 4, 1) := by decide +kernel
theorem dX9_isSheet_6 : decode cX9_isSheet 6 = .ok (.if_icmp .ge 7, 3) := by decide +kernel
theorem dX9_isSheet_9 : decode cX9_isSheet 9 = .ok (.iconst 1, 1) := by decide +kernel
theorem dX9_isSheet_10 : decode cX9_isSheet 10 = .ok (.goto 4, 3) := by decide +kernel
theorem dX9_isSheet_13 : decode cX9_isSheet 13 = .ok (.iconst 0, 1) := by decide +kernel
theorem dX9_isSheet_14 : decode cX9_isSheet 14 = .ok (.ireturn, 1) := by decide +kernel
theorem dX9_isLane_0 : decode cX9_isLane 0 = .ok (.iload_n 0, 1) := by decide +kernel
theorem dX9_isLane_1 : decode cX9_isLane 1 = .ok (.ifCond .lt 12, 3) := by decide +kernel
theorem dX9_isLane_4 : decode cX9_isLane 4 = .ok (.iload_n 0, 1) := by decide +kernel
theorem dX9_isLane_5 : decode cX9_isLane 5 = .ok (.iconst 3, 1) := by decide +kernel
theorem dX9_isLane_6 : decode cX9_isLane 6 = .ok (.if_icmp .ge 7, 3) := by decide +kernel
theorem dX9_isLane_9 : decode cX9_isLane 9 = .ok (.iconst 1, 1) := by decide +kernel
theorem dX9_isLane_10 : decode cX9_isLane 10 = .ok (.goto 4, 3) := by decide +kernel
theorem dX9_isLane_13 : decode cX9_isLane 13 = .ok (.iconst 0, 1) := by decide +kernel
theorem dX9_isLane_14 : decode cX9_isLane 14 = .ok (.ireturn, 1) := by decide +kernel
set_option maxRecDepth 20000 in
theorem ggX9_refusal_X9_isSheet : GoodIn wsX9_refusal wsX9_isSheet := goodIn_r _ [7] (by decide +kernel) (by decide +kernel)
set_option maxRecDepth 20000 in
theorem gX9_refusal_X9_isSheet : GoodIn wsX9_refusal (va_wsS RX9 266 yX9_isSheet wsX9_isSheet) := goodIn_app (goodIn_of _ (by decide +kernel)) ggX9_refusal_X9_isSheet
set_option maxRecDepth 20000 in
theorem ggX9_refusal_X9_isLane : GoodIn wsX9_refusal wsX9_isLane := goodIn_r _ [10] (by decide +kernel) (by decide +kernel)
set_option maxRecDepth 20000 in
theorem gX9_refusal_X9_isLane : GoodIn wsX9_refusal (va_wsS RX9 269 yX9_isLane wsX9_isLane) := goodIn_app (goodIn_of _ (by decide +kernel)) ggX9_refusal_X9_isLane
set_option maxRecDepth 20000 in
theorem ggX9_refusal_X5_holds : GoodIn wsX9_refusal wsX5_holds := goodIn_r _ [15, 16, 26, 27, 28] (by decide +kernel) (by decide +kernel)
set_option maxRecDepth 20000 in
theorem gX9_refusal_X5_holds : GoodIn wsX9_refusal (wsV RX9 275 RX5 yX5_holds wsX5_holds) := goodIn_app (goodIn_of _ (by decide +kernel)) ggX9_refusal_X5_holds
theorem dX9_refusal_0 : decode cX9_refusal 0 = .ok (.iload_n 1, 1) := by decide +kernel
theorem dX9_refusal_1 : decode cX9_refusal 1 = .ok (.invokestatic 266, 3) := by decide +kernel
theorem dX9_refusal_4 : decode cX9_refusal 4 = .ok (.ifCond .eq 10, 3) := by decide +kernel
theorem dX9_refusal_7 : decode cX9_refusal 7 = .ok (.iload_n 2, 1) := by decide +kernel
theorem dX9_refusal_8 : decode cX9_refusal 8 = .ok (.invokestatic 269, 3) := by decide +kernel
theorem dX9_refusal_11 : decode cX9_refusal 11 = .ok (.ifCond .ne 5, 3) := by decide +kernel
theorem dX9_refusal_14 : decode cX9_refusal 14 = .ok (.iconst (-1), 1) := by decide +kernel
theorem dX9_refusal_15 : decode cX9_refusal 15 = .ok (.ireturn, 1) := by decide +kernel
theorem dX9_refusal_16 : decode cX9_refusal 16 = .ok (.aload_n 0, 1) := by decide +kernel
theorem dX9_refusal_17 : decode cX9_refusal 17 = .ok (.getfield 71, 3) := by decide +kernel
theorem dX9_refusal_20 : decode cX9_refusal 20 = .ok (.iload_n 1, 1) := by decide +kernel
theorem dX9_refusal_21 : decode cX9_refusal 21 = .ok (.aaload, 1) := by decide +kernel
theorem dX9_refusal_22 : decode cX9_refusal 22 = .ok (.invokevirtual 275, 3) := by decide +kernel
theorem dX9_refusal_25 : decode cX9_refusal 25 = .ok (.ifCond .ne 6, 3) := by decide +kernel
theorem dX9_refusal_28 : decode cX9_refusal 28 = .ok (.bipush (-11), 2) := by decide +kernel
theorem dX9_refusal_30 : decode cX9_refusal 30 = .ok (.ireturn, 1) := by decide +kernel
theorem dX9_refusal_31 : decode cX9_refusal 31 = .ok (.aload_n 0, 1) := by decide +kernel
theorem dX9_refusal_32 : decode cX9_refusal 32 = .ok (.getfield 71, 3) := by decide +kernel
theorem dX9_refusal_35 : decode cX9_refusal 35 = .ok (.iload_n 1, 1) := by decide +kernel
theorem dX9_refusal_36 : decode cX9_refusal 36 = .ok (.aaload, 1) := by decide +kernel
theorem dX9_refusal_37 : decode cX9_refusal 37 = .ok (.getfield 300, 3) := by decide +kernel
theorem dX9_refusal_40 : decode cX9_refusal 40 = .ok (.iload_n 2, 1) := by decide +kernel
theorem dX9_refusal_41 : decode cX9_refusal 41 = .ok (.if_icmp .eq 6, 3) := by decide +kernel
theorem dX9_refusal_44 : decode cX9_refusal 44 = .ok (.bipush (-12), 2) := by decide +kernel
theorem dX9_refusal_46 : decode cX9_refusal 46 = .ok (.ireturn, 1) := by decide +kernel
theorem dX9_refusal_47 : decode cX9_refusal 47 = .ok (.iload_n 3, 1) := by decide +kernel
theorem dX9_refusal_48 : decode cX9_refusal 48 = .ok (.ifCond .lt 19, 3) := by decide +kernel
theorem dX9_refusal_51 : decode cX9_refusal 51 = .ok (.iload_n 3, 1) := by decide +kernel
theorem dX9_refusal_52 : decode cX9_refusal 52 = .ok (.aload_n 0, 1) := by decide +kernel
theorem dX9_refusal_53 : decode cX9_refusal 53 = .ok (.getfield 71, 3) := by decide +kernel
theorem dX9_refusal_56 : decode cX9_refusal 56 = .ok (.iload_n 1, 1) := by decide +kernel
theorem dX9_refusal_57 : decode cX9_refusal 57 = .ok (.aaload, 1) := by decide +kernel
theorem dX9_refusal_58 : decode cX9_refusal 58 = .ok (.getfield 278, 3) := by decide +kernel
theorem dX9_refusal_61 : decode cX9_refusal 61 = .ok (.iload 4, 2) := by decide +kernel
theorem dX9_refusal_63 : decode cX9_refusal 63 = .ok (.isub, 1) := by decide +kernel
theorem dX9_refusal_64 : decode cX9_refusal 64 = .ok (.if_icmp .le 8, 3) := by decide +kernel
theorem dX9_refusal_67 : decode cX9_refusal 67 = .ok (.bipush (-13), 2) := by decide +kernel
theorem dX9_refusal_69 : decode cX9_refusal 69 = .ok (.goto 4, 3) := by decide +kernel
theorem dX9_refusal_72 : decode cX9_refusal 72 = .ok (.iconst 0, 1) := by decide +kernel
theorem dX9_refusal_73 : decode cX9_refusal 73 = .ok (.ireturn, 1) := by decide +kernel
theorem dX9_product_0 : decode cX9_product 0 = .ok (.iconst 0, 1) := by decide +kernel
theorem dX9_product_1 : decode cX9_product 1 = .ok (.istore 4, 2) := by decide +kernel
theorem dX9_product_3 : decode cX9_product 3 = .ok (.iconst 0, 1) := by decide +kernel
theorem dX9_product_4 : decode cX9_product 4 = .ok (.istore 5, 2) := by decide +kernel
theorem dX9_product_6 : decode cX9_product 6 = .ok (.iload 5, 2) := by decide +kernel
theorem dX9_product_8 : decode cX9_product 8 = .ok (.iload_n 1, 1) := by decide +kernel
theorem dX9_product_9 : decode cX9_product 9 = .ok (.if_icmp .ge 27, 3) := by decide +kernel
theorem dX9_product_12 : decode cX9_product 12 = .ok (.iload 4, 2) := by decide +kernel
theorem dX9_product_14 : decode cX9_product 14 = .ok (.aload_n 0, 1) := by decide +kernel
theorem dX9_product_15 : decode cX9_product 15 = .ok (.iload 5, 2) := by decide +kernel
theorem dX9_product_17 : decode cX9_product 17 = .ok (.aaload, 1) := by decide +kernel
theorem dX9_product_18 : decode cX9_product 18 = .ok (.iload_n 2, 1) := by decide +kernel
theorem dX9_product_19 : decode cX9_product 19 = .ok (.iaload, 1) := by decide +kernel
theorem dX9_product_20 : decode cX9_product 20 = .ok (.aload_n 0, 1) := by decide +kernel
theorem dX9_product_21 : decode cX9_product 21 = .ok (.iload 5, 2) := by decide +kernel
theorem dX9_product_23 : decode cX9_product 23 = .ok (.aaload, 1) := by decide +kernel
theorem dX9_product_24 : decode cX9_product 24 = .ok (.iload_n 3, 1) := by decide +kernel
theorem dX9_product_25 : decode cX9_product 25 = .ok (.iaload, 1) := by decide +kernel
theorem dX9_product_26 : decode cX9_product 26 = .ok (.imul, 1) := by decide +kernel
theorem dX9_product_27 : decode cX9_product 27 = .ok (.iadd, 1) := by decide +kernel
theorem dX9_product_28 : decode cX9_product 28 = .ok (.istore 4, 2) := by decide +kernel
theorem dX9_product_30 : decode cX9_product 30 = .ok (.iinc 5 1, 3) := by decide +kernel
theorem dX9_product_33 : decode cX9_product 33 = .ok (.goto (-27), 3) := by decide +kernel
theorem dX9_product_36 : decode cX9_product 36 = .ok (.iload 4, 2) := by decide +kernel
theorem dX9_product_38 : decode cX9_product 38 = .ok (.ireturn, 1) := by decide +kernel
set_option maxRecDepth 20000 in
theorem ggX9_nearestLetter_X9_roundedUp : GoodIn wsX9_nearestLetter wsX9_roundedUp := goodIn_r _ [5, 6, 7, 8, 9] (by decide +kernel) (by decide +kernel)
set_option maxRecDepth 20000 in
theorem gX9_nearestLetter_X9_roundedUp : GoodIn wsX9_nearestLetter (va_wsS RX9 305 yX9_roundedUp wsX9_roundedUp) := goodIn_app (goodIn_of _ (by decide +kernel)) ggX9_nearestLetter_X9_roundedUp
set_option maxRecDepth 20000 in
theorem ggX9_nearestLetter_X9_held : GoodIn wsX9_nearestLetter wsX9_held := goodIn_r _ [12, 13, 14, 15, 16, 17, 18, 19] (by decide +kernel) (by decide +kernel)
set_option maxRecDepth 20000 in
theorem gX9_nearestLetter_X9_held : GoodIn wsX9_nearestLetter (va_wsS RX9 255 yX9_held wsX9_held) := goodIn_app (goodIn_of _ (by decide +kernel)) ggX9_nearestLetter_X9_held
theorem dX9_nearestLetter_0 : decode cX9_nearestLetter 0 = .ok (.lload_n 2, 1) := by decide +kernel
theorem dX9_nearestLetter_1 : decode cX9_nearestLetter 1 = .ok (.lconst 0, 1) := by decide +kernel
theorem dX9_nearestLetter_2 : decode cX9_nearestLetter 2 = .ok (.lcmp, 1) := by decide +kernel
theorem dX9_nearestLetter_3 : decode cX9_nearestLetter 3 = .ok (.ifCond .gt 5, 3) := by decide +kernel
theorem dX9_nearestLetter_6 : decode cX9_nearestLetter 6 = .ok (.iconst 0, 1) := by decide +kernel
theorem dX9_nearestLetter_7 : decode cX9_nearestLetter 7 = .ok (.ireturn, 1) := by decide +kernel
theorem dX9_nearestLetter_8 : decode cX9_nearestLetter 8 = .ok (.lload_n 0, 1) := by decide +kernel
theorem dX9_nearestLetter_9 : decode cX9_nearestLetter 9 = .ok (.iload 4, 2) := by decide +kernel
theorem dX9_nearestLetter_11 : decode cX9_nearestLetter 11 = .ok (.iconst 2, 1) := by decide +kernel
theorem dX9_nearestLetter_12 : decode cX9_nearestLetter 12 = .ok (.isub, 1) := by decide +kernel
theorem dX9_nearestLetter_13 : decode cX9_nearestLetter 13 = .ok (.i2l, 1) := by decide +kernel
theorem dX9_nearestLetter_14 : decode cX9_nearestLetter 14 = .ok (.lload_n 2, 1) := by decide +kernel
theorem dX9_nearestLetter_15 : decode cX9_nearestLetter 15 = .ok (.lmul, 1) := by decide +kernel
theorem dX9_nearestLetter_16 : decode cX9_nearestLetter 16 = .ok (.ladd, 1) := by decide +kernel
theorem dX9_nearestLetter_17 : decode cX9_nearestLetter 17 = .ok (.ldc2_w 303, 3) := by decide +kernel
theorem dX9_nearestLetter_20 : decode cX9_nearestLetter 20 = .ok (.lload_n 2, 1) := by decide +kernel
theorem dX9_nearestLetter_21 : decode cX9_nearestLetter 21 = .ok (.lmul, 1) := by decide +kernel
theorem dX9_nearestLetter_22 : decode cX9_nearestLetter 22 = .ok (.invokestatic 305, 3) := by decide +kernel
theorem dX9_nearestLetter_25 : decode cX9_nearestLetter 25 = .ok (.iload 4, 2) := by decide +kernel
theorem dX9_nearestLetter_27 : decode cX9_nearestLetter 27 = .ok (.invokestatic 255, 3) := by decide +kernel
theorem dX9_nearestLetter_30 : decode cX9_nearestLetter 30 = .ok (.ireturn, 1) := by decide +kernel
set_option maxRecDepth 20000 in
theorem ggX9_nearestHalf_X9_roundedUp : GoodIn wsX9_nearestHalf wsX9_roundedUp := goodIn_r _ [5, 6, 7, 8, 9] (by decide +kernel) (by decide +kernel)
set_option maxRecDepth 20000 in
theorem gX9_nearestHalf_X9_roundedUp : GoodIn wsX9_nearestHalf (va_wsS RX9 305 yX9_roundedUp wsX9_roundedUp) := goodIn_app (goodIn_of _ (by decide +kernel)) ggX9_nearestHalf_X9_roundedUp
theorem dX9_nearestHalf_0 : decode cX9_nearestHalf 0 = .ok (.lload_n 2, 1) := by decide +kernel
theorem dX9_nearestHalf_1 : decode cX9_nearestHalf 1 = .ok (.lconst 0, 1) := by decide +kernel
theorem dX9_nearestHalf_2 : decode cX9_nearestHalf 2 = .ok (.lcmp, 1) := by decide +kernel
theorem dX9_nearestHalf_3 : decode cX9_nearestHalf 3 = .ok (.ifCond .gt 7, 3) := by decide +kernel
theorem dX9_nearestHalf_6 : decode cX9_nearestHalf 6 = .ok (.lconst 0, 1) := by decide +kernel
theorem dX9_nearestHalf_7 : decode cX9_nearestHalf 7 = .ok (.goto 14, 3) := by decide +kernel
theorem dX9_nearestHalf_10 : decode cX9_nearestHalf 10 = .ok (.lload_n 0, 1) := by decide +kernel
theorem dX9_nearestHalf_11 : decode cX9_nearestHalf 11 = .ok (.lload_n 2, 1) := by decide +kernel
theorem dX9_nearestHalf_12 : decode cX9_nearestHalf 12 = .ok (.lsub, 1) := by decide +kernel
theorem dX9_nearestHalf_13 : decode cX9_nearestHalf 13 = .ok (.ldc2_w 303, 3) := by decide +kernel
theorem dX9_nearestHalf_16 : decode cX9_nearestHalf 16 = .ok (.lload_n 2, 1) := by decide +kernel
theorem dX9_nearestHalf_17 : decode cX9_nearestHalf 17 = .ok (.lmul, 1) := by decide +kernel
theorem dX9_nearestHalf_18 : decode cX9_nearestHalf 18 = .ok (.invokestatic 305, 3) := by decide +kernel
theorem dX9_nearestHalf_21 : decode cX9_nearestHalf 21 = .ok (.lreturn, 1) := by decide +kernel
set_option maxRecDepth 20000 in
theorem ggX9_roundedUp_J9_floorDiv_f86c9 : GoodIn wsX9_roundedUp wsJ9_floorDiv_f86c9 := goodIn_r _ [4] (by decide +kernel) (by decide +kernel)
set_option maxRecDepth 20000 in
theorem gX9_roundedUp_J9_floorDiv_f86c9 : GoodIn wsX9_roundedUp (va_wsS RX9 308 yJ9_floorDiv_f86c9 wsJ9_floorDiv_f86c9) := goodIn_app (goodIn_of _ (by decide +kernel)) ggX9_roundedUp_J9_floorDiv_f86c9
theorem dX9_roundedUp_0 : decode cX9_roundedUp 0 = .ok (.lload_n 2, 1) := by decide +kernel
theorem dX9_roundedUp_1 : decode cX9_roundedUp 1 = .ok (.lconst 0, 1) := by decide +kernel
theorem dX9_roundedUp_2 : decode cX9_roundedUp 2 = .ok (.lcmp, 1) := by decide +kernel
theorem dX9_roundedUp_3 : decode cX9_roundedUp 3 = .ok (.ifCond .gt 7, 3) := by decide +kernel
theorem dX9_roundedUp_6 : decode cX9_roundedUp 6 = .ok (.lconst 0, 1) := by decide +kernel
theorem dX9_roundedUp_7 : decode cX9_roundedUp 7 = .ok (.goto 10, 3) := by decide +kernel
theorem dX9_roundedUp_10 : decode cX9_roundedUp 10 = .ok (.lload_n 0, 1) := by decide +kernel
theorem dX9_roundedUp_11 : decode cX9_roundedUp 11 = .ok (.lneg, 1) := by decide +kernel
theorem dX9_roundedUp_12 : decode cX9_roundedUp 12 = .ok (.lload_n 2, 1) := by decide +kernel
theorem dX9_roundedUp_13 : decode cX9_roundedUp 13 = .ok (.invokestatic 308, 3) := by decide +kernel
theorem dX9_roundedUp_16 : decode cX9_roundedUp 16 = .ok (.lneg, 1) := by decide +kernel
theorem dX9_roundedUp_17 : decode cX9_roundedUp 17 = .ok (.lreturn, 1) := by decide +kernel
theorem dX9_held_0 : decode cX9_held 0 = .ok (.lconst 0, 1) := by decide +kernel
theorem dX9_held_1 : decode cX9_held 1 = .ok (.lload_n 0, 1) := by decide +kernel
theorem dX9_held_2 : decode cX9_held 2 = .ok (.iload_n 2, 1) := by decide +kernel
theorem dX9_held_3 : decode cX9_held 3 = .ok (.i2l, 1) := by decide +kernel
theorem dX9_held_4 : decode cX9_held 4 = .ok (.lconst 1, 1) := by decide +kernel
theorem dX9_held_5 : decode cX9_held 5 = .ok (.lsub, 1) := by decide +kernel
theorem dX9_held_6 : decode cX9_held 6 = .ok (.invokestatic 311, 3) := by decide +kernel
theorem dX9_held_9 : decode cX9_held 9 = .ok (.invokestatic 221, 3) := by decide +kernel
theorem dX9_held_12 : decode cX9_held 12 = .ok (.l2i, 1) := by decide +kernel
theorem dX9_held_13 : decode cX9_held 13 = .ok (.ireturn, 1) := by decide +kernel
theorem dX9_commonDivisor_0 : decode cX9_commonDivisor 0 = .ok (.lload_n 0, 1) := by decide +kernel
theorem dX9_commonDivisor_1 : decode cX9_commonDivisor 1 = .ok (.lstore 4, 2) := by decide +kernel
theorem dX9_commonDivisor_3 : decode cX9_commonDivisor 3 = .ok (.lload_n 2, 1) := by decide +kernel
theorem dX9_commonDivisor_4 : decode cX9_commonDivisor 4 = .ok (.lstore 6, 2) := by decide +kernel
theorem dX9_commonDivisor_6 : decode cX9_commonDivisor 6 = .ok (.iconst 0, 1) := by decide +kernel
theorem dX9_commonDivisor_7 : decode cX9_commonDivisor 7 = .ok (.istore 8, 2) := by decide +kernel
theorem dX9_commonDivisor_9 : decode cX9_commonDivisor 9 = .ok (.iload 8, 2) := by decide +kernel
theorem dX9_commonDivisor_11 : decode cX9_commonDivisor 11 = .ok (.sipush 200, 3) := by decide +kernel
theorem dX9_commonDivisor_14 : decode cX9_commonDivisor 14 = .ok (.if_icmp .ge 31, 3) := by decide +kernel
theorem dX9_commonDivisor_17 : decode cX9_commonDivisor 17 = .ok (.lload 6, 2) := by decide +kernel
theorem dX9_commonDivisor_19 : decode cX9_commonDivisor 19 = .ok (.lconst 0, 1) := by decide +kernel
theorem dX9_commonDivisor_20 : decode cX9_commonDivisor 20 = .ok (.lcmp, 1) := by decide +kernel
theorem dX9_commonDivisor_21 : decode cX9_commonDivisor 21 = .ok (.ifCond .eq 24, 3) := by decide +kernel
theorem dX9_commonDivisor_24 : decode cX9_commonDivisor 24 = .ok (.lload 4, 2) := by decide +kernel
theorem dX9_commonDivisor_26 : decode cX9_commonDivisor 26 = .ok (.lload 6, 2) := by decide +kernel
theorem dX9_commonDivisor_28 : decode cX9_commonDivisor 28 = .ok (.lrem, 1) := by decide +kernel
theorem dX9_commonDivisor_29 : decode cX9_commonDivisor 29 = .ok (.lstore 9, 2) := by decide +kernel
theorem dX9_commonDivisor_31 : decode cX9_commonDivisor 31 = .ok (.lload 6, 2) := by decide +kernel
theorem dX9_commonDivisor_33 : decode cX9_commonDivisor 33 = .ok (.lstore 4, 2) := by decide +kernel
theorem dX9_commonDivisor_35 : decode cX9_commonDivisor 35 = .ok (.lload 9, 2) := by decide +kernel
theorem dX9_commonDivisor_37 : decode cX9_commonDivisor 37 = .ok (.lstore 6, 2) := by decide +kernel
theorem dX9_commonDivisor_39 : decode cX9_commonDivisor 39 = .ok (.iinc 8 1, 3) := by decide +kernel
theorem dX9_commonDivisor_42 : decode cX9_commonDivisor 42 = .ok (.goto (-33), 3) := by decide +kernel
theorem dX9_commonDivisor_45 : decode cX9_commonDivisor 45 = .ok (.lload 4, 2) := by decide +kernel
theorem dX9_commonDivisor_47 : decode cX9_commonDivisor 47 = .ok (.lreturn, 1) := by decide +kernel
theorem dX9_mirror_0 : decode cX9_mirror 0 = .ok (.iconst 0, 1) := by decide +kernel
theorem dX9_mirror_1 : decode cX9_mirror 1 = .ok (.istore_n 2, 1) := by decide +kernel
theorem dX9_mirror_2 : decode cX9_mirror 2 = .ok (.iconst 0, 1) := by decide +kernel
theorem dX9_mirror_3 : decode cX9_mirror 3 = .ok (.istore_n 3, 1) := by decide +kernel
theorem dX9_mirror_4 : decode cX9_mirror 4 = .ok (.iload_n 3, 1) := by decide +kernel
theorem dX9_mirror_5 : decode cX9_mirror 5 = .ok (.iload_n 1, 1) := by decide +kernel
theorem dX9_mirror_6 : decode cX9_mirror 6 = .ok (.if_icmp .ge 19, 3) := by decide +kernel
theorem dX9_mirror_9 : decode cX9_mirror 9 = .ok (.iload_n 2, 1) := by decide +kernel
theorem dX9_mirror_10 : decode cX9_mirror 10 = .ok (.iconst 1, 1) := by decide +kernel
theorem dX9_mirror_11 : decode cX9_mirror 11 = .ok (.ishl, 1) := by decide +kernel
theorem dX9_mirror_12 : decode cX9_mirror 12 = .ok (.iload_n 0, 1) := by decide +kernel
theorem dX9_mirror_13 : decode cX9_mirror 13 = .ok (.iload_n 3, 1) := by decide +kernel
theorem dX9_mirror_14 : decode cX9_mirror 14 = .ok (.ishr, 1) := by decide +kernel
theorem dX9_mirror_15 : decode cX9_mirror 15 = .ok (.iconst 1, 1) := by decide +kernel
theorem dX9_mirror_16 : decode cX9_mirror 16 = .ok (.iand, 1) := by decide +kernel
theorem dX9_mirror_17 : decode cX9_mirror 17 = .ok (.ior, 1) := by decide +kernel
theorem dX9_mirror_18 : decode cX9_mirror 18 = .ok (.istore_n 2, 1) := by decide +kernel
theorem dX9_mirror_19 : decode cX9_mirror 19 = .ok (.iinc 3 1, 3) := by decide +kernel
theorem dX9_mirror_22 : decode cX9_mirror 22 = .ok (.goto (-18), 3) := by decide +kernel
theorem dX9_mirror_25 : decode cX9_mirror 25 = .ok (.iload_n 2, 1) := by decide +kernel
theorem dX9_mirror_26 : decode cX9_mirror 26 = .ok (.ireturn, 1) := by decide +kernel
