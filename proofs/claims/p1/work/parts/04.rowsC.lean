theorem dX10_in_0 : decode cX10_in 0 = .ok (.lload_n 0, 1) := by decide +kernel
theorem dX10_in_1 : decode cX10_in 1 = .ok (.lload_n 2, 1) := by decide +kernel
theorem dX10_in_2 : decode cX10_in 2 = .ok (.lcmp, 1) := by decide +kernel
theorem dX10_in_3 : decode cX10_in 3 = .ok (.ifCond .lt 14, 3) := by decide +kernel
theorem dX10_in_6 : decode cX10_in 6 = .ok (.lload_n 0, 1) := by decide +kernel
theorem dX10_in_7 : decode cX10_in 7 = .ok (.lload 4, 2) := by decide +kernel
theorem dX10_in_9 : decode cX10_in 9 = .ok (.lcmp, 1) := by decide +kernel
theorem dX10_in_10 : decode cX10_in 10 = .ok (.ifCond .gt 7, 3) := by decide +kernel
theorem dX10_in_13 : decode cX10_in 13 = .ok (.iconst 1, 1) := by decide +kernel
theorem dX10_in_14 : decode cX10_in 14 = .ok (.goto 4, 3) := by decide +kernel
theorem dX10_in_17 : decode cX10_in 17 = .ok (.iconst 0, 1) := by decide +kernel
theorem dX10_in_18 : decode cX10_in 18 = .ok (.ireturn, 1) := by decide +kernel
theorem dX10_init_0 : decode cX10_init 0 = .ok (.aload_n 0, 1) := by decide +kernel
theorem dX10_init_1 : decode cX10_init 1 = .ok (.invokespecial 1, 3) := by decide +kernel
theorem dX10_init_4 : decode cX10_init 4 = .ok (.aload_n 0, 1) := by decide +kernel
theorem dX10_init_5 : decode cX10_init 5 = .ok (.iconst 2, 1) := by decide +kernel
theorem dX10_init_6 : decode cX10_init 6 = .ok (.putfield 7, 3) := by decide +kernel
theorem dX10_init_9 : decode cX10_init 9 = .ok (.aload_n 0, 1) := by decide +kernel
theorem dX10_init_10 : decode cX10_init 10 = .ok (.iconst 2, 1) := by decide +kernel
theorem dX10_init_11 : decode cX10_init 11 = .ok (.putfield 13, 3) := by decide +kernel
theorem dX10_init_14 : decode cX10_init 14 = .ok (.aload_n 0, 1) := by decide +kernel
theorem dX10_init_15 : decode cX10_init 15 = .ok (.iconst 2, 1) := by decide +kernel
theorem dX10_init_16 : decode cX10_init 16 = .ok (.putfield 16, 3) := by decide +kernel
theorem dX10_init_19 : decode cX10_init 19 = .ok (.aload_n 0, 1) := by decide +kernel
theorem dX10_init_20 : decode cX10_init 20 = .ok (.bipush 25, 2) := by decide +kernel
theorem dX10_init_22 : decode cX10_init 22 = .ok (.newarray .int, 2) := by decide +kernel
theorem dX10_init_24 : decode cX10_init 24 = .ok (.putfield 19, 3) := by decide +kernel
theorem dX10_init_27 : decode cX10_init 27 = .ok (.aload_n 0, 1) := by decide +kernel
theorem dX10_init_28 : decode cX10_init 28 = .ok (.bipush 41, 2) := by decide +kernel
theorem dX10_init_30 : decode cX10_init 30 = .ok (.newarray .int, 2) := by decide +kernel
theorem dX10_init_32 : decode cX10_init 32 = .ok (.putfield 23, 3) := by decide +kernel
theorem dX10_init_35 : decode cX10_init 35 = .ok (.aload_n 0, 1) := by decide +kernel
theorem dX10_init_36 : decode cX10_init 36 = .ok (.bipush 41, 2) := by decide +kernel
theorem dX10_init_38 : decode cX10_init 38 = .ok (.newarray .int, 2) := by decide +kernel
theorem dX10_init_40 : decode cX10_init 40 = .ok (.putfield 26, 3) := by decide +kernel
theorem dX10_init_43 : decode cX10_init 43 = .ok (.aload_n 0, 1) := by decide +kernel
theorem dX10_init_44 : decode cX10_init 44 = .ok (.bipush 41, 2) := by decide +kernel
theorem dX10_init_46 : decode cX10_init 46 = .ok (.newarray .int, 2) := by decide +kernel
theorem dX10_init_48 : decode cX10_init 48 = .ok (.putfield 29, 3) := by decide +kernel
theorem dX10_init_51 : decode cX10_init 51 = .ok (.aload_n 0, 1) := by decide +kernel
theorem dX10_init_52 : decode cX10_init 52 = .ok (.bipush 90, 2) := by decide +kernel
theorem dX10_init_54 : decode cX10_init 54 = .ok (.newarray .int, 2) := by decide +kernel
theorem dX10_init_56 : decode cX10_init 56 = .ok (.putfield 32, 3) := by decide +kernel
theorem dX10_init_59 : decode cX10_init 59 = .ok (.aload_n 0, 1) := by decide +kernel
theorem dX10_init_60 : decode cX10_init 60 = .ok (.bipush 20, 2) := by decide +kernel
theorem dX10_init_62 : decode cX10_init 62 = .ok (.newarray .int, 2) := by decide +kernel
theorem dX10_init_64 : decode cX10_init 64 = .ok (.putfield 35, 3) := by decide +kernel
theorem dX10_init_67 : decode cX10_init 67 = .ok (.aload_n 0, 1) := by decide +kernel
theorem dX10_init_68 : decode cX10_init 68 = .ok (.sipush 256, 3) := by decide +kernel
theorem dX10_init_71 : decode cX10_init 71 = .ok (.newarray .int, 2) := by decide +kernel
theorem dX10_init_73 : decode cX10_init 73 = .ok (.putfield 38, 3) := by decide +kernel
theorem dX10_init_76 : decode cX10_init 76 = .ok (.aload_n 0, 1) := by decide +kernel
theorem dX10_init_77 : decode cX10_init 77 = .ok (.bipush 20, 2) := by decide +kernel
theorem dX10_init_79 : decode cX10_init 79 = .ok (.newarray .int, 2) := by decide +kernel
theorem dX10_init_81 : decode cX10_init 81 = .ok (.putfield 41, 3) := by decide +kernel
theorem dX10_init_84 : decode cX10_init 84 = .ok (.aload_n 0, 1) := by decide +kernel
theorem dX10_init_85 : decode cX10_init 85 = .ok (.bipush 16, 2) := by decide +kernel
theorem dX10_init_87 : decode cX10_init 87 = .ok (.newarray .int, 2) := by decide +kernel
theorem dX10_init_89 : decode cX10_init 89 = .ok (.putfield 44, 3) := by decide +kernel
theorem dX10_init_92 : decode cX10_init 92 = .ok (.aload_n 0, 1) := by decide +kernel
theorem dX10_init_93 : decode cX10_init 93 = .ok (.bipush 16, 2) := by decide +kernel
theorem dX10_init_95 : decode cX10_init 95 = .ok (.newarray .long, 2) := by decide +kernel
theorem dX10_init_97 : decode cX10_init 97 = .ok (.putfield 47, 3) := by decide +kernel
theorem dX10_init_100 : decode cX10_init 100 = .ok (.aload_n 0, 1) := by decide +kernel
theorem dX10_init_101 : decode cX10_init 101 = .ok (.iconst 5, 1) := by decide +kernel
theorem dX10_init_102 : decode cX10_init 102 = .ok (.newarray .int, 2) := by decide +kernel
theorem dX10_init_104 : decode cX10_init 104 = .ok (.putfield 51, 3) := by decide +kernel
theorem dX10_init_107 : decode cX10_init 107 = .ok (.aload_n 0, 1) := by decide +kernel
theorem dX10_init_108 : decode cX10_init 108 = .ok (.iconst 4, 1) := by decide +kernel
theorem dX10_init_109 : decode cX10_init 109 = .ok (.newarray .int, 2) := by decide +kernel
theorem dX10_init_111 : decode cX10_init 111 = .ok (.putfield 54, 3) := by decide +kernel
theorem dX10_init_114 : decode cX10_init 114 = .ok (.aload_n 0, 1) := by decide +kernel
theorem dX10_init_115 : decode cX10_init 115 = .ok (.iconst 4, 1) := by decide +kernel
theorem dX10_init_116 : decode cX10_init 116 = .ok (.newarray .long, 2) := by decide +kernel
theorem dX10_init_118 : decode cX10_init 118 = .ok (.putfield 57, 3) := by decide +kernel
theorem dX10_init_121 : decode cX10_init 121 = .ok (.aload_n 0, 1) := by decide +kernel
theorem dX10_init_122 : decode cX10_init 122 = .ok (.iconst 4, 1) := by decide +kernel
theorem dX10_init_123 : decode cX10_init 123 = .ok (.newarray .int, 2) := by decide +kernel
theorem dX10_init_125 : decode cX10_init 125 = .ok (.putfield 60, 3) := by decide +kernel
theorem dX10_init_128 : decode cX10_init 128 = .ok (.aload_n 0, 1) := by decide +kernel
theorem dX10_init_129 : decode cX10_init 129 = .ok (.iconst 4, 1) := by decide +kernel
theorem dX10_init_130 : decode cX10_init 130 = .ok (.newarray .int, 2) := by decide +kernel
theorem dX10_init_132 : decode cX10_init 132 = .ok (.putfield 63, 3) := by decide +kernel
theorem dX10_init_135 : decode cX10_init 135 = .ok (.aload_n 0, 1) := by decide +kernel
theorem dX10_init_136 : decode cX10_init 136 = .ok (.bipush 100, 2) := by decide +kernel
theorem dX10_init_138 : decode cX10_init 138 = .ok (.newarray .int, 2) := by decide +kernel
theorem dX10_init_140 : decode cX10_init 140 = .ok (.putfield 66, 3) := by decide +kernel
theorem dX10_init_143 : decode cX10_init 143 = .ok (.iconst 0, 1) := by decide +kernel
theorem dX10_init_144 : decode cX10_init 144 = .ok (.istore_n 1, 1) := by decide +kernel
theorem dX10_init_145 : decode cX10_init 145 = .ok (.iload_n 1, 1) := by decide +kernel
theorem dX10_init_146 : decode cX10_init 146 = .ok (.iconst 4, 1) := by decide +kernel
theorem dX10_init_147 : decode cX10_init 147 = .ok (.if_icmp .ge 16, 3) := by decide +kernel
theorem dX10_init_150 : decode cX10_init 150 = .ok (.aload_n 0, 1) := by decide +kernel
theorem dX10_init_151 : decode cX10_init 151 = .ok (.getfield 60, 3) := by decide +kernel
theorem dX10_init_154 : decode cX10_init 154 = .ok (.iload_n 1, 1) := by decide +kernel
theorem dX10_init_155 : decode cX10_init 155 = .ok (.iconst (-1), 1) := by decide +kernel
theorem dX10_init_156 : decode cX10_init 156 = .ok (.iastore, 1) := by decide +kernel
theorem dX10_init_157 : decode cX10_init 157 = .ok (.iinc 1 1, 3) := by decide +kernel
theorem dX10_init_160 : decode cX10_init 160 = .ok (.goto (-15), 3) := by decide +kernel
theorem dX10_init_163 : decode cX10_init 163 = .ok (.return_, 1) := by decide +kernel
theorem dX10_place_0 : decode cX10_place 0 = .ok (.iconst 5, 1) := by decide +kernel
theorem dX10_place_1 : decode cX10_place 1 = .ok (.iload_n 1, 1) := by decide +kernel
theorem dX10_place_2 : decode cX10_place 2 = .ok (.imul, 1) := by decide +kernel
theorem dX10_place_3 : decode cX10_place 3 = .ok (.iload_n 2, 1) := by decide +kernel
theorem dX10_place_4 : decode cX10_place 4 = .ok (.aload_n 0, 1) := by decide +kernel
theorem dX10_place_5 : decode cX10_place 5 = .ok (.getfield 13, 3) := by decide +kernel
theorem dX10_place_8 : decode cX10_place 8 = .ok (.if_icmp .ne 7, 3) := by decide +kernel
theorem dX10_place_11 : decode cX10_place 11 = .ok (.iconst 4, 1) := by decide +kernel
theorem dX10_place_12 : decode cX10_place 12 = .ok (.goto 4, 3) := by decide +kernel
theorem dX10_place_15 : decode cX10_place 15 = .ok (.iload_n 2, 1) := by decide +kernel
theorem dX10_place_16 : decode cX10_place 16 = .ok (.iadd, 1) := by decide +kernel
theorem dX10_place_17 : decode cX10_place 17 = .ok (.ireturn, 1) := by decide +kernel
theorem dX10_forget_0 : decode cX10_forget 0 = .ok (.aload_n 0, 1) := by decide +kernel
theorem dX10_forget_1 : decode cX10_forget 1 = .ok (.iconst 0, 1) := by decide +kernel
theorem dX10_forget_2 : decode cX10_forget 2 = .ok (.putfield 69, 3) := by decide +kernel
theorem dX10_forget_5 : decode cX10_forget 5 = .ok (.aload_n 0, 1) := by decide +kernel
theorem dX10_forget_6 : decode cX10_forget 6 = .ok (.iconst 0, 1) := by decide +kernel
theorem dX10_forget_7 : decode cX10_forget 7 = .ok (.putfield 72, 3) := by decide +kernel
theorem dX10_forget_10 : decode cX10_forget 10 = .ok (.return_, 1) := by decide +kernel
set_option maxRecDepth 20000 in
theorem ggX10_table_X10_in : GoodIn wsX10_table wsX10_in := goodIn_r _ [9] (by decide +kernel) (by decide +kernel)
set_option maxRecDepth 20000 in
theorem gX10_table_X10_in : GoodIn wsX10_table (va_wsS RX10 77 yX10_in wsX10_in) := goodIn_app (goodIn_of _ (by decide +kernel)) ggX10_table_X10_in
set_option maxRecDepth 20000 in
theorem ggX10_table_X10_forget : GoodIn wsX10_table wsX10_forget := goodIn_r _ [13, 14, 15, 16, 17, 18, 19, 20, 21, 22, 23, 24, 25, 26, 27, 28, 29, 30, 31, 32, 33, 34, 35, 36, 37, 38, 39, 40, 41, 42, 43] (by decide +kernel) (by decide +kernel)
set_option maxRecDepth 20000 in
theorem gX10_table_X10_forget : GoodIn wsX10_table (wsV RX10 83 RX10 yX10_forget wsX10_forget) := goodIn_app (goodIn_of _ (by decide +kernel)) ggX10_table_X10_forget
theorem dX10_table_0 : decode cX10_table 0 = .ok (.iload_n 1, 1) := by decide +kernel
theorem dX10_table_1 : decode cX10_table 1 = .ok (.i2l, 1) := by decide +kernel
theorem dX10_table_2 : decode cX10_table 2 = .ok (.lconst 1, 1) := by decide +kernel
theorem dX10_table_3 : decode cX10_table 3 = .ok (.ldc2_w 75, 3) := by decide +kernel
theorem dX10_table_6 : decode cX10_table 6 = .ok (.invokestatic 77, 3) := by decide +kernel
theorem dX10_table_9 : decode cX10_table 9 = .ok (.ifCond .eq 15, 3) := by decide +kernel
theorem dX10_table_12 : decode cX10_table 12 = .ok (.iload_n 2, 1) := by decide +kernel
theorem dX10_table_13 : decode cX10_table 13 = .ok (.i2l, 1) := by decide +kernel
theorem dX10_table_14 : decode cX10_table 14 = .ok (.lconst 1, 1) := by decide +kernel
theorem dX10_table_15 : decode cX10_table 15 = .ok (.ldc2_w 81, 3) := by decide +kernel
theorem dX10_table_18 : decode cX10_table 18 = .ok (.invokestatic 77, 3) := by decide +kernel
theorem dX10_table_21 : decode cX10_table 21 = .ok (.ifCond .ne 5, 3) := by decide +kernel
theorem dX10_table_24 : decode cX10_table 24 = .ok (.iconst (-1), 1) := by decide +kernel
theorem dX10_table_25 : decode cX10_table 25 = .ok (.ireturn, 1) := by decide +kernel
theorem dX10_table_26 : decode cX10_table 26 = .ok (.aload_n 0, 1) := by decide +kernel
theorem dX10_table_27 : decode cX10_table 27 = .ok (.iload_n 1, 1) := by decide +kernel
theorem dX10_table_28 : decode cX10_table 28 = .ok (.putfield 7, 3) := by decide +kernel
theorem dX10_table_31 : decode cX10_table 31 = .ok (.aload_n 0, 1) := by decide +kernel
theorem dX10_table_32 : decode cX10_table 32 = .ok (.iload_n 2, 1) := by decide +kernel
theorem dX10_table_33 : decode cX10_table 33 = .ok (.putfield 13, 3) := by decide +kernel
theorem dX10_table_36 : decode cX10_table 36 = .ok (.iconst 0, 1) := by decide +kernel
theorem dX10_table_37 : decode cX10_table 37 = .ok (.istore_n 3, 1) := by decide +kernel
theorem dX10_table_38 : decode cX10_table 38 = .ok (.iload_n 3, 1) := by decide +kernel
theorem dX10_table_39 : decode cX10_table 39 = .ok (.bipush 25, 2) := by decide +kernel
theorem dX10_table_41 : decode cX10_table 41 = .ok (.if_icmp .ge 16, 3) := by decide +kernel
theorem dX10_table_44 : decode cX10_table 44 = .ok (.aload_n 0, 1) := by decide +kernel
theorem dX10_table_45 : decode cX10_table 45 = .ok (.getfield 19, 3) := by decide +kernel
theorem dX10_table_48 : decode cX10_table 48 = .ok (.iload_n 3, 1) := by decide +kernel
theorem dX10_table_49 : decode cX10_table 49 = .ok (.iconst 0, 1) := by decide +kernel
theorem dX10_table_50 : decode cX10_table 50 = .ok (.iastore, 1) := by decide +kernel
theorem dX10_table_51 : decode cX10_table 51 = .ok (.iinc 3 1, 3) := by decide +kernel
theorem dX10_table_54 : decode cX10_table 54 = .ok (.goto (-16), 3) := by decide +kernel
theorem dX10_table_57 : decode cX10_table 57 = .ok (.aload_n 0, 1) := by decide +kernel
theorem dX10_table_58 : decode cX10_table 58 = .ok (.invokevirtual 83, 3) := by decide +kernel
theorem dX10_table_61 : decode cX10_table 61 = .ok (.iconst 1, 1) := by decide +kernel
theorem dX10_table_62 : decode cX10_table 62 = .ok (.ireturn, 1) := by decide +kernel
set_option maxRecDepth 20000 in
theorem ggX10_letters_X10_forget : GoodIn wsX10_letters wsX10_forget := goodIn_r _ [6, 7, 8, 9, 10, 11, 12, 13, 14, 15, 16, 17, 18, 19, 20, 21, 22, 23, 24, 25, 26, 27, 28, 29, 30, 31, 32, 33, 34, 35, 36] (by decide +kernel) (by decide +kernel)
set_option maxRecDepth 20000 in
theorem gX10_letters_X10_forget : GoodIn wsX10_letters (wsV RX10 83 RX10 yX10_forget wsX10_forget) := goodIn_app (goodIn_of _ (by decide +kernel)) ggX10_letters_X10_forget
theorem dX10_letters_0 : decode cX10_letters 0 = .ok (.iload_n 1, 1) := by decide +kernel
theorem dX10_letters_1 : decode cX10_letters 1 = .ok (.iconst 2, 1) := by decide +kernel
theorem dX10_letters_2 : decode cX10_letters 2 = .ok (.if_icmp .eq 10, 3) := by decide +kernel
theorem dX10_letters_5 : decode cX10_letters 5 = .ok (.iload_n 1, 1) := by decide +kernel
theorem dX10_letters_6 : decode cX10_letters 6 = .ok (.iconst 4, 1) := by decide +kernel
theorem dX10_letters_7 : decode cX10_letters 7 = .ok (.if_icmp .eq 5, 3) := by decide +kernel
theorem dX10_letters_10 : decode cX10_letters 10 = .ok (.iconst (-1), 1) := by decide +kernel
theorem dX10_letters_11 : decode cX10_letters 11 = .ok (.ireturn, 1) := by decide +kernel
theorem dX10_letters_12 : decode cX10_letters 12 = .ok (.aload_n 0, 1) := by decide +kernel
theorem dX10_letters_13 : decode cX10_letters 13 = .ok (.getfield 16, 3) := by decide +kernel
theorem dX10_letters_16 : decode cX10_letters 16 = .ok (.istore_n 2, 1) := by decide +kernel
theorem dX10_letters_17 : decode cX10_letters 17 = .ok (.aload_n 0, 1) := by decide +kernel
theorem dX10_letters_18 : decode cX10_letters 18 = .ok (.iload_n 1, 1) := by decide +kernel
theorem dX10_letters_19 : decode cX10_letters 19 = .ok (.putfield 16, 3) := by decide +kernel
theorem dX10_letters_22 : decode cX10_letters 22 = .ok (.aload_n 0, 1) := by decide +kernel
theorem dX10_letters_23 : decode cX10_letters 23 = .ok (.invokevirtual 83, 3) := by decide +kernel
theorem dX10_letters_26 : decode cX10_letters 26 = .ok (.iload_n 2, 1) := by decide +kernel
theorem dX10_letters_27 : decode cX10_letters 27 = .ok (.ireturn, 1) := by decide +kernel
set_option maxRecDepth 20000 in
theorem ggX10_isRow_X10_in : GoodIn wsX10_isRow wsX10_in := goodIn_r _ [5] (by decide +kernel) (by decide +kernel)
set_option maxRecDepth 20000 in
theorem gX10_isRow_X10_in : GoodIn wsX10_isRow (va_wsS RX10 77 yX10_in wsX10_in) := goodIn_app (goodIn_of _ (by decide +kernel)) ggX10_isRow_X10_in
theorem dX10_isRow_0 : decode cX10_isRow 0 = .ok (.iload_n 1, 1) := by decide +kernel
theorem dX10_isRow_1 : decode cX10_isRow 1 = .ok (.i2l, 1) := by decide +kernel
theorem dX10_isRow_2 : decode cX10_isRow 2 = .ok (.lconst 0, 1) := by decide +kernel
theorem dX10_isRow_3 : decode cX10_isRow 3 = .ok (.aload_n 0, 1) := by decide +kernel
theorem dX10_isRow_4 : decode cX10_isRow 4 = .ok (.getfield 7, 3) := by decide +kernel
theorem dX10_isRow_7 : decode cX10_isRow 7 = .ok (.iconst 1, 1) := by decide +kernel
theorem dX10_isRow_8 : decode cX10_isRow 8 = .ok (.isub, 1) := by decide +kernel
theorem dX10_isRow_9 : decode cX10_isRow 9 = .ok (.i2l, 1) := by decide +kernel
theorem dX10_isRow_10 : decode cX10_isRow 10 = .ok (.invokestatic 77, 3) := by decide +kernel
theorem dX10_isRow_13 : decode cX10_isRow 13 = .ok (.ireturn, 1) := by decide +kernel
set_option maxRecDepth 20000 in
theorem ggX10_isColumn_X10_in : GoodIn wsX10_isColumn wsX10_in := goodIn_r _ [5] (by decide +kernel) (by decide +kernel)
set_option maxRecDepth 20000 in
theorem gX10_isColumn_X10_in : GoodIn wsX10_isColumn (va_wsS RX10 77 yX10_in wsX10_in) := goodIn_app (goodIn_of _ (by decide +kernel)) ggX10_isColumn_X10_in
theorem dX10_isColumn_0 : decode cX10_isColumn 0 = .ok (.iload_n 1, 1) := by decide +kernel
theorem dX10_isColumn_1 : decode cX10_isColumn 1 = .ok (.i2l, 1) := by decide +kernel
theorem dX10_isColumn_2 : decode cX10_isColumn 2 = .ok (.lconst 0, 1) := by decide +kernel
theorem dX10_isColumn_3 : decode cX10_isColumn 3 = .ok (.aload_n 0, 1) := by decide +kernel
theorem dX10_isColumn_4 : decode cX10_isColumn 4 = .ok (.getfield 13, 3) := by decide +kernel
theorem dX10_isColumn_7 : decode cX10_isColumn 7 = .ok (.iconst 1, 1) := by decide +kernel
theorem dX10_isColumn_8 : decode cX10_isColumn 8 = .ok (.isub, 1) := by decide +kernel
theorem dX10_isColumn_9 : decode cX10_isColumn 9 = .ok (.i2l, 1) := by decide +kernel
theorem dX10_isColumn_10 : decode cX10_isColumn 10 = .ok (.invokestatic 77, 3) := by decide +kernel
theorem dX10_isColumn_13 : decode cX10_isColumn 13 = .ok (.ireturn, 1) := by decide +kernel
theorem dX10_act_0 : decode cX10_act 0 = .ok (.aload_n 0, 1) := by decide +kernel
theorem dX10_act_1 : decode cX10_act 1 = .ok (.getfield 69, 3) := by decide +kernel
theorem dX10_act_4 : decode cX10_act 4 = .ok (.bipush 40, 2) := by decide +kernel
theorem dX10_act_6 : decode cX10_act 6 = .ok (.if_icmp .ne 65, 3) := by decide +kernel
theorem dX10_act_9 : decode cX10_act 9 = .ok (.iconst 0, 1) := by decide +kernel
theorem dX10_act_10 : decode cX10_act 10 = .ok (.istore_n 3, 1) := by decide +kernel
theorem dX10_act_11 : decode cX10_act 11 = .ok (.iload_n 3, 1) := by decide +kernel
theorem dX10_act_12 : decode cX10_act 12 = .ok (.bipush 39, 2) := by decide +kernel
theorem dX10_act_14 : decode cX10_act 14 = .ok (.if_icmp .ge 51, 3) := by decide +kernel
theorem dX10_act_17 : decode cX10_act 17 = .ok (.aload_n 0, 1) := by decide +kernel
theorem dX10_act_18 : decode cX10_act 18 = .ok (.getfield 23, 3) := by decide +kernel
theorem dX10_act_21 : decode cX10_act 21 = .ok (.iload_n 3, 1) := by decide +kernel
theorem dX10_act_22 : decode cX10_act 22 = .ok (.aload_n 0, 1) := by decide +kernel
theorem dX10_act_23 : decode cX10_act 23 = .ok (.getfield 23, 3) := by decide +kernel
theorem dX10_act_26 : decode cX10_act 26 = .ok (.iload_n 3, 1) := by decide +kernel
theorem dX10_act_27 : decode cX10_act 27 = .ok (.iconst 1, 1) := by decide +kernel
theorem dX10_act_28 : decode cX10_act 28 = .ok (.iadd, 1) := by decide +kernel
theorem dX10_act_29 : decode cX10_act 29 = .ok (.iaload, 1) := by decide +kernel
theorem dX10_act_30 : decode cX10_act 30 = .ok (.iastore, 1) := by decide +kernel
theorem dX10_act_31 : decode cX10_act 31 = .ok (.aload_n 0, 1) := by decide +kernel
theorem dX10_act_32 : decode cX10_act 32 = .ok (.getfield 26, 3) := by decide +kernel
theorem dX10_act_35 : decode cX10_act 35 = .ok (.iload_n 3, 1) := by decide +kernel
theorem dX10_act_36 : decode cX10_act 36 = .ok (.aload_n 0, 1) := by decide +kernel
theorem dX10_act_37 : decode cX10_act 37 = .ok (.getfield 26, 3) := by decide +kernel
theorem dX10_act_40 : decode cX10_act 40 = .ok (.iload_n 3, 1) := by decide +kernel
theorem dX10_act_41 : decode cX10_act 41 = .ok (.iconst 1, 1) := by decide +kernel
theorem dX10_act_42 : decode cX10_act 42 = .ok (.iadd, 1) := by decide +kernel
theorem dX10_act_43 : decode cX10_act 43 = .ok (.iaload, 1) := by decide +kernel
theorem dX10_act_44 : decode cX10_act 44 = .ok (.iastore, 1) := by decide +kernel
theorem dX10_act_45 : decode cX10_act 45 = .ok (.aload_n 0, 1) := by decide +kernel
theorem dX10_act_46 : decode cX10_act 46 = .ok (.getfield 29, 3) := by decide +kernel
theorem dX10_act_49 : decode cX10_act 49 = .ok (.iload_n 3, 1) := by decide +kernel
theorem dX10_act_50 : decode cX10_act 50 = .ok (.aload_n 0, 1) := by decide +kernel
theorem dX10_act_51 : decode cX10_act 51 = .ok (.getfield 29, 3) := by decide +kernel
theorem dX10_act_54 : decode cX10_act 54 = .ok (.iload_n 3, 1) := by decide +kernel
theorem dX10_act_55 : decode cX10_act 55 = .ok (.iconst 1, 1) := by decide +kernel
theorem dX10_act_56 : decode cX10_act 56 = .ok (.iadd, 1) := by decide +kernel
theorem dX10_act_57 : decode cX10_act 57 = .ok (.iaload, 1) := by decide +kernel
theorem dX10_act_58 : decode cX10_act 58 = .ok (.iastore, 1) := by decide +kernel
theorem dX10_act_59 : decode cX10_act 59 = .ok (.iinc 3 1, 3) := by decide +kernel
theorem dX10_act_62 : decode cX10_act 62 = .ok (.goto (-51), 3) := by decide +kernel
theorem dX10_act_65 : decode cX10_act 65 = .ok (.aload_n 0, 1) := by decide +kernel
theorem dX10_act_66 : decode cX10_act 66 = .ok (.bipush 39, 2) := by decide +kernel
theorem dX10_act_68 : decode cX10_act 68 = .ok (.putfield 69, 3) := by decide +kernel
theorem dX10_act_71 : decode cX10_act 71 = .ok (.aload_n 0, 1) := by decide +kernel
theorem dX10_act_72 : decode cX10_act 72 = .ok (.getfield 19, 3) := by decide +kernel
theorem dX10_act_75 : decode cX10_act 75 = .ok (.iload_n 1, 1) := by decide +kernel
theorem dX10_act_76 : decode cX10_act 76 = .ok (.iaload, 1) := by decide +kernel
theorem dX10_act_77 : decode cX10_act 77 = .ok (.istore_n 3, 1) := by decide +kernel
theorem dX10_act_78 : decode cX10_act 78 = .ok (.aload_n 0, 1) := by decide +kernel
theorem dX10_act_79 : decode cX10_act 79 = .ok (.getfield 23, 3) := by decide +kernel
theorem dX10_act_82 : decode cX10_act 82 = .ok (.aload_n 0, 1) := by decide +kernel
theorem dX10_act_83 : decode cX10_act 83 = .ok (.getfield 69, 3) := by decide +kernel
theorem dX10_act_86 : decode cX10_act 86 = .ok (.iload_n 1, 1) := by decide +kernel
theorem dX10_act_87 : decode cX10_act 87 = .ok (.iastore, 1) := by decide +kernel
theorem dX10_act_88 : decode cX10_act 88 = .ok (.aload_n 0, 1) := by decide +kernel
theorem dX10_act_89 : decode cX10_act 89 = .ok (.getfield 26, 3) := by decide +kernel
theorem dX10_act_92 : decode cX10_act 92 = .ok (.aload_n 0, 1) := by decide +kernel
theorem dX10_act_93 : decode cX10_act 93 = .ok (.getfield 69, 3) := by decide +kernel
theorem dX10_act_96 : decode cX10_act 96 = .ok (.iload_n 3, 1) := by decide +kernel
theorem dX10_act_97 : decode cX10_act 97 = .ok (.iastore, 1) := by decide +kernel
theorem dX10_act_98 : decode cX10_act 98 = .ok (.aload_n 0, 1) := by decide +kernel
theorem dX10_act_99 : decode cX10_act 99 = .ok (.getfield 29, 3) := by decide +kernel
theorem dX10_act_102 : decode cX10_act 102 = .ok (.aload_n 0, 1) := by decide +kernel
theorem dX10_act_103 : decode cX10_act 103 = .ok (.getfield 69, 3) := by decide +kernel
theorem dX10_act_106 : decode cX10_act 106 = .ok (.iload_n 2, 1) := by decide +kernel
theorem dX10_act_107 : decode cX10_act 107 = .ok (.iastore, 1) := by decide +kernel
theorem dX10_act_108 : decode cX10_act 108 = .ok (.aload_n 0, 1) := by decide +kernel
theorem dX10_act_109 : decode cX10_act 109 = .ok (.dup, 1) := by decide +kernel
theorem dX10_act_110 : decode cX10_act 110 = .ok (.getfield 69, 3) := by decide +kernel
theorem dX10_act_113 : decode cX10_act 113 = .ok (.iconst 1, 1) := by decide +kernel
theorem dX10_act_114 : decode cX10_act 114 = .ok (.iadd, 1) := by decide +kernel
theorem dX10_act_115 : decode cX10_act 115 = .ok (.putfield 69, 3) := by decide +kernel
theorem dX10_act_118 : decode cX10_act 118 = .ok (.aload_n 0, 1) := by decide +kernel
theorem dX10_act_119 : decode cX10_act 119 = .ok (.iconst 0, 1) := by decide +kernel
theorem dX10_act_120 : decode cX10_act 120 = .ok (.putfield 72, 3) := by decide +kernel
theorem dX10_act_123 : decode cX10_act 123 = .ok (.aload_n 0, 1) := by decide +kernel
theorem dX10_act_124 : decode cX10_act 124 = .ok (.getfield 19, 3) := by decide +kernel
theorem dX10_act_127 : decode cX10_act 127 = .ok (.iload_n 1, 1) := by decide +kernel
theorem dX10_act_128 : decode cX10_act 128 = .ok (.iload_n 2, 1) := by decide +kernel
theorem dX10_act_129 : decode cX10_act 129 = .ok (.iastore, 1) := by decide +kernel
theorem dX10_act_130 : decode cX10_act 130 = .ok (.iload_n 3, 1) := by decide +kernel
theorem dX10_act_131 : decode cX10_act 131 = .ok (.ireturn, 1) := by decide +kernel
set_option maxRecDepth 20000 in
theorem ggX10_set_X10_isRow : GoodIn wsX10_set wsX10_isRow := goodIn_r _ [7, 8, 9, 10, 6, 11, 31, 32, 33, 34, 35, 36, 37, 38, 39, 40, 41, 42, 43, 44, 45, 46, 47, 48, 49, 50, 51, 52, 53, 54, 55, 56, 57, 58] (by decide +kernel) (by decide +kernel)
set_option maxRecDepth 20000 in
theorem gX10_set_X10_isRow : GoodIn wsX10_set (wsV RX10 86 RX10 yX10_isRow wsX10_isRow) := goodIn_app (goodIn_of _ (by decide +kernel)) ggX10_set_X10_isRow
set_option maxRecDepth 20000 in
theorem ggX10_set_X10_isColumn : GoodIn wsX10_set wsX10_isColumn := goodIn_r _ [15, 16, 9, 10, 6, 11, 31, 32, 33, 34, 35, 36, 37, 38, 39, 40, 41, 42, 43, 44, 45, 46, 47, 48, 49, 50, 51, 52, 53, 54, 55, 56, 57, 58] (by decide +kernel) (by decide +kernel)
set_option maxRecDepth 20000 in
theorem gX10_set_X10_isColumn : GoodIn wsX10_set (wsV RX10 90 RX10 yX10_isColumn wsX10_isColumn) := goodIn_app (goodIn_of _ (by decide +kernel)) ggX10_set_X10_isColumn
set_option maxRecDepth 20000 in
theorem ggX10_set_X10_in : GoodIn wsX10_set wsX10_in := goodIn_r _ [11] (by decide +kernel) (by decide +kernel)
set_option maxRecDepth 20000 in
theorem gX10_set_X10_in : GoodIn wsX10_set (va_wsS RX10 77 yX10_in wsX10_in) := goodIn_app (goodIn_of _ (by decide +kernel)) ggX10_set_X10_in
set_option maxRecDepth 20000 in
theorem ggX10_set_X10_place : GoodIn wsX10_set wsX10_place := goodIn_r _ [20, 16, 31, 32, 33, 34, 35, 36, 37, 38, 39, 40, 41, 42, 43, 44, 45, 46, 47, 48, 49, 50, 51, 52, 53, 54, 55, 56, 57, 58] (by decide +kernel) (by decide +kernel)
set_option maxRecDepth 20000 in
theorem gX10_set_X10_place : GoodIn wsX10_set (wsV RX10 97 RX10 yX10_place wsX10_place) := goodIn_app (goodIn_of _ (by decide +kernel)) ggX10_set_X10_place
set_option maxRecDepth 20000 in
theorem ggX10_set_X10_act : GoodIn wsX10_set wsX10_act := goodIn_r _ [24, 25, 26, 27, 28, 29, 30, 31, 32, 33, 34, 35, 36, 37, 38, 39, 40, 41, 42, 43, 44, 45, 46, 47, 48, 49, 50, 51, 52, 53, 54, 55, 56, 57, 58] (by decide +kernel) (by decide +kernel)
set_option maxRecDepth 20000 in
theorem gX10_set_X10_act : GoodIn wsX10_set (wsV RX10 101 RX10 yX10_act wsX10_act) := goodIn_app (goodIn_of _ (by decide +kernel)) ggX10_set_X10_act
theorem dX10_set_0 : decode cX10_set 0 = .ok (.aload_n 0, 1) := by decide +kernel
theorem dX10_set_1 : decode cX10_set 1 = .ok (.iload_n 1, 1) := by decide +kernel
theorem dX10_set_2 : decode cX10_set 2 = .ok (.invokevirtual 86, 3) := by decide +kernel
theorem dX10_set_5 : decode cX10_set 5 = .ok (.ifCond .eq 25, 3) := by decide +kernel
theorem dX10_set_8 : decode cX10_set 8 = .ok (.aload_n 0, 1) := by decide +kernel
theorem dX10_set_9 : decode cX10_set 9 = .ok (.iload_n 2, 1) := by decide +kernel
theorem dX10_set_10 : decode cX10_set 10 = .ok (.invokevirtual 90, 3) := by decide +kernel
theorem dX10_set_13 : decode cX10_set 13 = .ok (.ifCond .eq 17, 3) := by decide +kernel
theorem dX10_set_16 : decode cX10_set 16 = .ok (.iload_n 3, 1) := by decide +kernel
theorem dX10_set_17 : decode cX10_set 17 = .ok (.i2l, 1) := by decide +kernel
theorem dX10_set_18 : decode cX10_set 18 = .ok (.ldc2_w 93, 3) := by decide +kernel
theorem dX10_set_21 : decode cX10_set 21 = .ok (.ldc2_w 95, 3) := by decide +kernel
theorem dX10_set_24 : decode cX10_set 24 = .ok (.invokestatic 77, 3) := by decide +kernel
theorem dX10_set_27 : decode cX10_set 27 = .ok (.ifCond .ne 6, 3) := by decide +kernel
theorem dX10_set_30 : decode cX10_set 30 = .ok (.bipush (-101), 2) := by decide +kernel
theorem dX10_set_32 : decode cX10_set 32 = .ok (.ireturn, 1) := by decide +kernel
theorem dX10_set_33 : decode cX10_set 33 = .ok (.aload_n 0, 1) := by decide +kernel
theorem dX10_set_34 : decode cX10_set 34 = .ok (.aload_n 0, 1) := by decide +kernel
theorem dX10_set_35 : decode cX10_set 35 = .ok (.iload_n 1, 1) := by decide +kernel
theorem dX10_set_36 : decode cX10_set 36 = .ok (.iload_n 2, 1) := by decide +kernel
theorem dX10_set_37 : decode cX10_set 37 = .ok (.invokevirtual 97, 3) := by decide +kernel
theorem dX10_set_40 : decode cX10_set 40 = .ok (.iload_n 3, 1) := by decide +kernel
theorem dX10_set_41 : decode cX10_set 41 = .ok (.invokevirtual 101, 3) := by decide +kernel
theorem dX10_set_44 : decode cX10_set 44 = .ok (.ireturn, 1) := by decide +kernel
set_option maxRecDepth 20000 in
theorem ggX10_hear_X10_isRow : GoodIn wsX10_hear wsX10_isRow := goodIn_r _ [8, 9, 10, 11, 7, 12, 27, 28, 29, 30, 31, 32, 33, 34, 35, 36, 37, 38, 39, 40, 41, 42, 43, 44, 45, 46, 47, 48, 49, 50, 51, 52, 53, 54] (by decide +kernel) (by decide +kernel)
set_option maxRecDepth 20000 in
theorem gX10_hear_X10_isRow : GoodIn wsX10_hear (wsV RX10 86 RX10 yX10_isRow wsX10_isRow) := goodIn_app (goodIn_of _ (by decide +kernel)) ggX10_hear_X10_isRow
set_option maxRecDepth 20000 in
theorem ggX10_hear_X10_in : GoodIn wsX10_hear wsX10_in := goodIn_r _ [12] (by decide +kernel) (by decide +kernel)
set_option maxRecDepth 20000 in
theorem gX10_hear_X10_in : GoodIn wsX10_hear (va_wsS RX10 77 yX10_in wsX10_in) := goodIn_app (goodIn_of _ (by decide +kernel)) ggX10_hear_X10_in
set_option maxRecDepth 20000 in
theorem ggX10_hear_X10_place : GoodIn wsX10_hear wsX10_place := goodIn_r _ [16, 3, 27, 28, 29, 30, 31, 32, 33, 34, 35, 36, 37, 38, 39, 40, 41, 42, 43, 44, 45, 46, 47, 48, 49, 50, 51, 52, 53, 54] (by decide +kernel) (by decide +kernel)
set_option maxRecDepth 20000 in
theorem gX10_hear_X10_place : GoodIn wsX10_hear (wsV RX10 97 RX10 yX10_place wsX10_place) := goodIn_app (goodIn_of _ (by decide +kernel)) ggX10_hear_X10_place
set_option maxRecDepth 20000 in
theorem ggX10_hear_X10_act : GoodIn wsX10_hear wsX10_act := goodIn_r _ [20, 21, 22, 23, 24, 25, 26, 27, 28, 29, 30, 31, 32, 33, 34, 35, 36, 37, 38, 39, 40, 41, 42, 43, 44, 45, 46, 47, 48, 49, 50, 51, 52, 53, 54] (by decide +kernel) (by decide +kernel)
set_option maxRecDepth 20000 in
theorem gX10_hear_X10_act : GoodIn wsX10_hear (wsV RX10 101 RX10 yX10_act wsX10_act) := goodIn_app (goodIn_of _ (by decide +kernel)) ggX10_hear_X10_act
theorem dX10_hear_0 : decode cX10_hear 0 = .ok (.aload_n 0, 1) := by decide +kernel
theorem dX10_hear_1 : decode cX10_hear 1 = .ok (.iload_n 1, 1) := by decide +kernel
theorem dX10_hear_2 : decode cX10_hear 2 = .ok (.invokevirtual 86, 3) := by decide +kernel
theorem dX10_hear_5 : decode cX10_hear 5 = .ok (.ifCond .eq 17, 3) := by decide +kernel
theorem dX10_hear_8 : decode cX10_hear 8 = .ok (.iload_n 2, 1) := by decide +kernel
theorem dX10_hear_9 : decode cX10_hear 9 = .ok (.i2l, 1) := by decide +kernel
theorem dX10_hear_10 : decode cX10_hear 10 = .ok (.ldc2_w 104, 3) := by decide +kernel
theorem dX10_hear_13 : decode cX10_hear 13 = .ok (.ldc2_w 106, 3) := by decide +kernel
theorem dX10_hear_16 : decode cX10_hear 16 = .ok (.invokestatic 77, 3) := by decide +kernel
theorem dX10_hear_19 : decode cX10_hear 19 = .ok (.ifCond .ne 7, 3) := by decide +kernel
theorem dX10_hear_22 : decode cX10_hear 22 = .ok (.sipush (-10001), 3) := by decide +kernel
theorem dX10_hear_25 : decode cX10_hear 25 = .ok (.ireturn, 1) := by decide +kernel
theorem dX10_hear_26 : decode cX10_hear 26 = .ok (.aload_n 0, 1) := by decide +kernel
theorem dX10_hear_27 : decode cX10_hear 27 = .ok (.aload_n 0, 1) := by decide +kernel
theorem dX10_hear_28 : decode cX10_hear 28 = .ok (.iload_n 1, 1) := by decide +kernel
theorem dX10_hear_29 : decode cX10_hear 29 = .ok (.aload_n 0, 1) := by decide +kernel
theorem dX10_hear_30 : decode cX10_hear 30 = .ok (.getfield 13, 3) := by decide +kernel
theorem dX10_hear_33 : decode cX10_hear 33 = .ok (.invokevirtual 97, 3) := by decide +kernel
theorem dX10_hear_36 : decode cX10_hear 36 = .ok (.iload_n 2, 1) := by decide +kernel
theorem dX10_hear_37 : decode cX10_hear 37 = .ok (.invokevirtual 101, 3) := by decide +kernel
theorem dX10_hear_40 : decode cX10_hear 40 = .ok (.ireturn, 1) := by decide +kernel
theorem dX10_undo_0 : decode cX10_undo 0 = .ok (.aload_n 0, 1) := by decide +kernel
theorem dX10_undo_1 : decode cX10_undo 1 = .ok (.getfield 69, 3) := by decide +kernel
theorem dX10_undo_4 : decode cX10_undo 4 = .ok (.ifCond .ne 6, 3) := by decide +kernel
theorem dX10_undo_7 : decode cX10_undo 7 = .ok (.bipush (-2), 2) := by decide +kernel
theorem dX10_undo_9 : decode cX10_undo 9 = .ok (.ireturn, 1) := by decide +kernel
theorem dX10_undo_10 : decode cX10_undo 10 = .ok (.aload_n 0, 1) := by decide +kernel
theorem dX10_undo_11 : decode cX10_undo 11 = .ok (.dup, 1) := by decide +kernel
theorem dX10_undo_12 : decode cX10_undo 12 = .ok (.getfield 69, 3) := by decide +kernel
theorem dX10_undo_15 : decode cX10_undo 15 = .ok (.iconst 1, 1) := by decide +kernel
theorem dX10_undo_16 : decode cX10_undo 16 = .ok (.isub, 1) := by decide +kernel
theorem dX10_undo_17 : decode cX10_undo 17 = .ok (.putfield 69, 3) := by decide +kernel
theorem dX10_undo_20 : decode cX10_undo 20 = .ok (.aload_n 0, 1) := by decide +kernel
theorem dX10_undo_21 : decode cX10_undo 21 = .ok (.dup, 1) := by decide +kernel
theorem dX10_undo_22 : decode cX10_undo 22 = .ok (.getfield 72, 3) := by decide +kernel
theorem dX10_undo_25 : decode cX10_undo 25 = .ok (.iconst 1, 1) := by decide +kernel
theorem dX10_undo_26 : decode cX10_undo 26 = .ok (.iadd, 1) := by decide +kernel
theorem dX10_undo_27 : decode cX10_undo 27 = .ok (.putfield 72, 3) := by decide +kernel
theorem dX10_undo_30 : decode cX10_undo 30 = .ok (.aload_n 0, 1) := by decide +kernel
theorem dX10_undo_31 : decode cX10_undo 31 = .ok (.getfield 19, 3) := by decide +kernel
theorem dX10_undo_34 : decode cX10_undo 34 = .ok (.aload_n 0, 1) := by decide +kernel
theorem dX10_undo_35 : decode cX10_undo 35 = .ok (.getfield 23, 3) := by decide +kernel
theorem dX10_undo_38 : decode cX10_undo 38 = .ok (.aload_n 0, 1) := by decide +kernel
theorem dX10_undo_39 : decode cX10_undo 39 = .ok (.getfield 69, 3) := by decide +kernel
theorem dX10_undo_42 : decode cX10_undo 42 = .ok (.iaload, 1) := by decide +kernel
theorem dX10_undo_43 : decode cX10_undo 43 = .ok (.aload_n 0, 1) := by decide +kernel
theorem dX10_undo_44 : decode cX10_undo 44 = .ok (.getfield 26, 3) := by decide +kernel
theorem dX10_undo_47 : decode cX10_undo 47 = .ok (.aload_n 0, 1) := by decide +kernel
theorem dX10_undo_48 : decode cX10_undo 48 = .ok (.getfield 69, 3) := by decide +kernel
theorem dX10_undo_51 : decode cX10_undo 51 = .ok (.iaload, 1) := by decide +kernel
theorem dX10_undo_52 : decode cX10_undo 52 = .ok (.iastore, 1) := by decide +kernel
theorem dX10_undo_53 : decode cX10_undo 53 = .ok (.aload_n 0, 1) := by decide +kernel
theorem dX10_undo_54 : decode cX10_undo 54 = .ok (.getfield 69, 3) := by decide +kernel
theorem dX10_undo_57 : decode cX10_undo 57 = .ok (.ireturn, 1) := by decide +kernel
theorem dX10_redo_0 : decode cX10_redo 0 = .ok (.aload_n 0, 1) := by decide +kernel
theorem dX10_redo_1 : decode cX10_redo 1 = .ok (.getfield 72, 3) := by decide +kernel
theorem dX10_redo_4 : decode cX10_redo 4 = .ok (.ifCond .ne 6, 3) := by decide +kernel
theorem dX10_redo_7 : decode cX10_redo 7 = .ok (.bipush (-2), 2) := by decide +kernel
theorem dX10_redo_9 : decode cX10_redo 9 = .ok (.ireturn, 1) := by decide +kernel
theorem dX10_redo_10 : decode cX10_redo 10 = .ok (.aload_n 0, 1) := by decide +kernel
theorem dX10_redo_11 : decode cX10_redo 11 = .ok (.getfield 19, 3) := by decide +kernel
theorem dX10_redo_14 : decode cX10_redo 14 = .ok (.aload_n 0, 1) := by decide +kernel
theorem dX10_redo_15 : decode cX10_redo 15 = .ok (.getfield 23, 3) := by decide +kernel
theorem dX10_redo_18 : decode cX10_redo 18 = .ok (.aload_n 0, 1) := by decide +kernel
theorem dX10_redo_19 : decode cX10_redo 19 = .ok (.getfield 69, 3) := by decide +kernel
theorem dX10_redo_22 : decode cX10_redo 22 = .ok (.iaload, 1) := by decide +kernel
theorem dX10_redo_23 : decode cX10_redo 23 = .ok (.aload_n 0, 1) := by decide +kernel
theorem dX10_redo_24 : decode cX10_redo 24 = .ok (.getfield 29, 3) := by decide +kernel
theorem dX10_redo_27 : decode cX10_redo 27 = .ok (.aload_n 0, 1) := by decide +kernel
theorem dX10_redo_28 : decode cX10_redo 28 = .ok (.getfield 69, 3) := by decide +kernel
theorem dX10_redo_31 : decode cX10_redo 31 = .ok (.iaload, 1) := by decide +kernel
theorem dX10_redo_32 : decode cX10_redo 32 = .ok (.iastore, 1) := by decide +kernel
theorem dX10_redo_33 : decode cX10_redo 33 = .ok (.aload_n 0, 1) := by decide +kernel
theorem dX10_redo_34 : decode cX10_redo 34 = .ok (.dup, 1) := by decide +kernel
theorem dX10_redo_35 : decode cX10_redo 35 = .ok (.getfield 69, 3) := by decide +kernel
theorem dX10_redo_38 : decode cX10_redo 38 = .ok (.iconst 1, 1) := by decide +kernel
theorem dX10_redo_39 : decode cX10_redo 39 = .ok (.iadd, 1) := by decide +kernel
theorem dX10_redo_40 : decode cX10_redo 40 = .ok (.putfield 69, 3) := by decide +kernel
theorem dX10_redo_43 : decode cX10_redo 43 = .ok (.aload_n 0, 1) := by decide +kernel
theorem dX10_redo_44 : decode cX10_redo 44 = .ok (.dup, 1) := by decide +kernel
theorem dX10_redo_45 : decode cX10_redo 45 = .ok (.getfield 72, 3) := by decide +kernel
theorem dX10_redo_48 : decode cX10_redo 48 = .ok (.iconst 1, 1) := by decide +kernel
theorem dX10_redo_49 : decode cX10_redo 49 = .ok (.isub, 1) := by decide +kernel
theorem dX10_redo_50 : decode cX10_redo 50 = .ok (.putfield 72, 3) := by decide +kernel
theorem dX10_redo_53 : decode cX10_redo 53 = .ok (.aload_n 0, 1) := by decide +kernel
theorem dX10_redo_54 : decode cX10_redo 54 = .ok (.getfield 72, 3) := by decide +kernel
theorem dX10_redo_57 : decode cX10_redo 57 = .ok (.ireturn, 1) := by decide +kernel
set_option maxRecDepth 20000 in
theorem ggX10_told_X10_isRow : GoodIn wsX10_told wsX10_isRow := goodIn_r _ [7, 8, 9, 10, 6, 11, 16, 17, 18, 19, 20, 21, 22, 23, 24, 25, 26, 27, 28, 29, 30, 31, 32, 33, 34, 35, 36, 37, 38, 39, 40, 41, 42, 43] (by decide +kernel) (by decide +kernel)
set_option maxRecDepth 20000 in
theorem gX10_told_X10_isRow : GoodIn wsX10_told (wsV RX10 86 RX10 yX10_isRow wsX10_isRow) := goodIn_app (goodIn_of _ (by decide +kernel)) ggX10_told_X10_isRow
set_option maxRecDepth 20000 in
theorem ggX10_told_X10_in : GoodIn wsX10_told wsX10_in := goodIn_r _ [11] (by decide +kernel) (by decide +kernel)
set_option maxRecDepth 20000 in
theorem gX10_told_X10_in : GoodIn wsX10_told (va_wsS RX10 77 yX10_in wsX10_in) := goodIn_app (goodIn_of _ (by decide +kernel)) ggX10_told_X10_in
set_option maxRecDepth 20000 in
theorem ggX10_told_X10_place : GoodIn wsX10_told wsX10_place := goodIn_r _ [15, 1, 16, 17, 18, 19, 20, 21, 22, 23, 24, 25, 26, 27, 28, 29, 30, 31, 32, 33, 34, 35, 36, 37, 38, 39, 40, 41, 42, 43] (by decide +kernel) (by decide +kernel)
set_option maxRecDepth 20000 in
theorem gX10_told_X10_place : GoodIn wsX10_told (wsV RX10 97 RX10 yX10_place wsX10_place) := goodIn_app (goodIn_of _ (by decide +kernel)) ggX10_told_X10_place
theorem dX10_told_0 : decode cX10_told 0 = .ok (.aload_n 0, 1) := by decide +kernel
theorem dX10_told_1 : decode cX10_told 1 = .ok (.iload_n 1, 1) := by decide +kernel
theorem dX10_told_2 : decode cX10_told 2 = .ok (.invokevirtual 86, 3) := by decide +kernel
theorem dX10_told_5 : decode cX10_told 5 = .ok (.ifCond .eq 31, 3) := by decide +kernel
theorem dX10_told_8 : decode cX10_told 8 = .ok (.iload_n 2, 1) := by decide +kernel
theorem dX10_told_9 : decode cX10_told 9 = .ok (.i2l, 1) := by decide +kernel
theorem dX10_told_10 : decode cX10_told 10 = .ok (.lconst 0, 1) := by decide +kernel
theorem dX10_told_11 : decode cX10_told 11 = .ok (.aload_n 0, 1) := by decide +kernel
theorem dX10_told_12 : decode cX10_told 12 = .ok (.getfield 13, 3) := by decide +kernel
theorem dX10_told_15 : decode cX10_told 15 = .ok (.i2l, 1) := by decide +kernel
theorem dX10_told_16 : decode cX10_told 16 = .ok (.invokestatic 77, 3) := by decide +kernel
theorem dX10_told_19 : decode cX10_told 19 = .ok (.ifCond .eq 17, 3) := by decide +kernel
theorem dX10_told_22 : decode cX10_told 22 = .ok (.aload_n 0, 1) := by decide +kernel
theorem dX10_told_23 : decode cX10_told 23 = .ok (.getfield 19, 3) := by decide +kernel
theorem dX10_told_26 : decode cX10_told 26 = .ok (.aload_n 0, 1) := by decide +kernel
theorem dX10_told_27 : decode cX10_told 27 = .ok (.iload_n 1, 1) := by decide +kernel
theorem dX10_told_28 : decode cX10_told 28 = .ok (.iload_n 2, 1) := by decide +kernel
theorem dX10_told_29 : decode cX10_told 29 = .ok (.invokevirtual 97, 3) := by decide +kernel
theorem dX10_told_32 : decode cX10_told 32 = .ok (.iaload, 1) := by decide +kernel
theorem dX10_told_33 : decode cX10_told 33 = .ok (.goto 6, 3) := by decide +kernel
theorem dX10_told_36 : decode cX10_told 36 = .ok (.sipush (-10001), 3) := by decide +kernel
theorem dX10_told_39 : decode cX10_told 39 = .ok (.ireturn, 1) := by decide +kernel
set_option maxRecDepth 20000 in
theorem ggX10_type_X10_in : GoodIn wsX10_type wsX10_in := goodIn_r _ [10] (by decide +kernel) (by decide +kernel)
set_option maxRecDepth 20000 in
theorem gX10_type_X10_in : GoodIn wsX10_type (va_wsS RX10 77 yX10_in wsX10_in) := goodIn_app (goodIn_of _ (by decide +kernel)) ggX10_type_X10_in
theorem dX10_type_0 : decode cX10_type 0 = .ok (.iload_n 3, 1) := by decide +kernel
theorem dX10_type_1 : decode cX10_type 1 = .ok (.i2l, 1) := by decide +kernel
theorem dX10_type_2 : decode cX10_type 2 = .ok (.lconst 1, 1) := by decide +kernel
theorem dX10_type_3 : decode cX10_type 3 = .ok (.ldc2_w 108, 3) := by decide +kernel
theorem dX10_type_6 : decode cX10_type 6 = .ok (.invokestatic 77, 3) := by decide +kernel
theorem dX10_type_9 : decode cX10_type 9 = .ok (.ifCond .ne 5, 3) := by decide +kernel
theorem dX10_type_12 : decode cX10_type 12 = .ok (.iconst (-1), 1) := by decide +kernel
theorem dX10_type_13 : decode cX10_type 13 = .ok (.ireturn, 1) := by decide +kernel
theorem dX10_type_14 : decode cX10_type 14 = .ok (.iconst 0, 1) := by decide +kernel
theorem dX10_type_15 : decode cX10_type 15 = .ok (.istore 4, 2) := by decide +kernel
theorem dX10_type_17 : decode cX10_type 17 = .ok (.iload 4, 2) := by decide +kernel
theorem dX10_type_19 : decode cX10_type 19 = .ok (.iload_n 3, 1) := by decide +kernel
theorem dX10_type_20 : decode cX10_type 20 = .ok (.if_icmp .ge 34, 3) := by decide +kernel
theorem dX10_type_23 : decode cX10_type 23 = .ok (.lload_n 1, 1) := by decide +kernel
theorem dX10_type_24 : decode cX10_type 24 = .ok (.bipush 8, 2) := by decide +kernel
theorem dX10_type_26 : decode cX10_type 26 = .ok (.iload 4, 2) := by decide +kernel
theorem dX10_type_28 : decode cX10_type 28 = .ok (.imul, 1) := by decide +kernel
theorem dX10_type_29 : decode cX10_type 29 = .ok (.lshr, 1) := by decide +kernel
theorem dX10_type_30 : decode cX10_type 30 = .ok (.ldc2_w 110, 3) := by decide +kernel
theorem dX10_type_33 : decode cX10_type 33 = .ok (.land, 1) := by decide +kernel
theorem dX10_type_34 : decode cX10_type 34 = .ok (.ldc2_w 112, 3) := by decide +kernel
theorem dX10_type_37 : decode cX10_type 37 = .ok (.ldc2_w 114, 3) := by decide +kernel
theorem dX10_type_40 : decode cX10_type 40 = .ok (.invokestatic 77, 3) := by decide +kernel
theorem dX10_type_43 : decode cX10_type 43 = .ok (.ifCond .ne 5, 3) := by decide +kernel
theorem dX10_type_46 : decode cX10_type 46 = .ok (.iconst (-1), 1) := by decide +kernel
theorem dX10_type_47 : decode cX10_type 47 = .ok (.ireturn, 1) := by decide +kernel
theorem dX10_type_48 : decode cX10_type 48 = .ok (.iinc 4 1, 3) := by decide +kernel
theorem dX10_type_51 : decode cX10_type 51 = .ok (.goto (-34), 3) := by decide +kernel
theorem dX10_type_54 : decode cX10_type 54 = .ok (.aload_n 0, 1) := by decide +kernel
theorem dX10_type_55 : decode cX10_type 55 = .ok (.getfield 116, 3) := by decide +kernel
theorem dX10_type_58 : decode cX10_type 58 = .ok (.iload_n 3, 1) := by decide +kernel
theorem dX10_type_59 : decode cX10_type 59 = .ok (.iadd, 1) := by decide +kernel
theorem dX10_type_60 : decode cX10_type 60 = .ok (.bipush 90, 2) := by decide +kernel
theorem dX10_type_62 : decode cX10_type 62 = .ok (.if_icmp .le 6, 3) := by decide +kernel
theorem dX10_type_65 : decode cX10_type 65 = .ok (.bipush (-3), 2) := by decide +kernel
theorem dX10_type_67 : decode cX10_type 67 = .ok (.ireturn, 1) := by decide +kernel
theorem dX10_type_68 : decode cX10_type 68 = .ok (.iload_n 3, 1) := by decide +kernel
theorem dX10_type_69 : decode cX10_type 69 = .ok (.iconst 1, 1) := by decide +kernel
theorem dX10_type_70 : decode cX10_type 70 = .ok (.isub, 1) := by decide +kernel
theorem dX10_type_71 : decode cX10_type 71 = .ok (.istore 4, 2) := by decide +kernel
theorem dX10_type_73 : decode cX10_type 73 = .ok (.iload 4, 2) := by decide +kernel
theorem dX10_type_75 : decode cX10_type 75 = .ok (.ifCond .lt 40, 3) := by decide +kernel
theorem dX10_type_78 : decode cX10_type 78 = .ok (.aload_n 0, 1) := by decide +kernel
theorem dX10_type_79 : decode cX10_type 79 = .ok (.getfield 32, 3) := by decide +kernel
theorem dX10_type_82 : decode cX10_type 82 = .ok (.aload_n 0, 1) := by decide +kernel
theorem dX10_type_83 : decode cX10_type 83 = .ok (.getfield 116, 3) := by decide +kernel
theorem dX10_type_86 : decode cX10_type 86 = .ok (.lload_n 1, 1) := by decide +kernel
theorem dX10_type_87 : decode cX10_type 87 = .ok (.bipush 8, 2) := by decide +kernel
theorem dX10_type_89 : decode cX10_type 89 = .ok (.iload 4, 2) := by decide +kernel
theorem dX10_type_91 : decode cX10_type 91 = .ok (.imul, 1) := by decide +kernel
theorem dX10_type_92 : decode cX10_type 92 = .ok (.lshr, 1) := by decide +kernel
theorem dX10_type_93 : decode cX10_type 93 = .ok (.ldc2_w 110, 3) := by decide +kernel
theorem dX10_type_96 : decode cX10_type 96 = .ok (.land, 1) := by decide +kernel
theorem dX10_type_97 : decode cX10_type 97 = .ok (.l2i, 1) := by decide +kernel
theorem dX10_type_98 : decode cX10_type 98 = .ok (.iastore, 1) := by decide +kernel
theorem dX10_type_99 : decode cX10_type 99 = .ok (.aload_n 0, 1) := by decide +kernel
theorem dX10_type_100 : decode cX10_type 100 = .ok (.dup, 1) := by decide +kernel
theorem dX10_type_101 : decode cX10_type 101 = .ok (.getfield 116, 3) := by decide +kernel
theorem dX10_type_104 : decode cX10_type 104 = .ok (.iconst 1, 1) := by decide +kernel
theorem dX10_type_105 : decode cX10_type 105 = .ok (.iadd, 1) := by decide +kernel
theorem dX10_type_106 : decode cX10_type 106 = .ok (.putfield 116, 3) := by decide +kernel
theorem dX10_type_109 : decode cX10_type 109 = .ok (.iinc 4 (-1), 3) := by decide +kernel
theorem dX10_type_112 : decode cX10_type 112 = .ok (.goto (-39), 3) := by decide +kernel
theorem dX10_type_115 : decode cX10_type 115 = .ok (.aload_n 0, 1) := by decide +kernel
theorem dX10_type_116 : decode cX10_type 116 = .ok (.getfield 116, 3) := by decide +kernel
theorem dX10_type_119 : decode cX10_type 119 = .ok (.ireturn, 1) := by decide +kernel
theorem dX10_next_0 : decode cX10_next 0 = .ok (.aload_n 0, 1) := by decide +kernel
theorem dX10_next_1 : decode cX10_next 1 = .ok (.getfield 119, 3) := by decide +kernel
theorem dX10_next_4 : decode cX10_next 4 = .ok (.aload_n 0, 1) := by decide +kernel
theorem dX10_next_5 : decode cX10_next 5 = .ok (.getfield 116, 3) := by decide +kernel
theorem dX10_next_8 : decode cX10_next 8 = .ok (.if_icmp .ge 30, 3) := by decide +kernel
theorem dX10_next_11 : decode cX10_next 11 = .ok (.aload_n 0, 1) := by decide +kernel
theorem dX10_next_12 : decode cX10_next 12 = .ok (.getfield 32, 3) := by decide +kernel
theorem dX10_next_15 : decode cX10_next 15 = .ok (.aload_n 0, 1) := by decide +kernel
theorem dX10_next_16 : decode cX10_next 16 = .ok (.getfield 119, 3) := by decide +kernel
theorem dX10_next_19 : decode cX10_next 19 = .ok (.iaload, 1) := by decide +kernel
theorem dX10_next_20 : decode cX10_next 20 = .ok (.bipush 32, 2) := by decide +kernel
theorem dX10_next_22 : decode cX10_next 22 = .ok (.if_icmp .ne 16, 3) := by decide +kernel
theorem dX10_next_25 : decode cX10_next 25 = .ok (.aload_n 0, 1) := by decide +kernel
theorem dX10_next_26 : decode cX10_next 26 = .ok (.dup, 1) := by decide +kernel
theorem dX10_next_27 : decode cX10_next 27 = .ok (.getfield 119, 3) := by decide +kernel
theorem dX10_next_30 : decode cX10_next 30 = .ok (.iconst 1, 1) := by decide +kernel
theorem dX10_next_31 : decode cX10_next 31 = .ok (.iadd, 1) := by decide +kernel
theorem dX10_next_32 : decode cX10_next 32 = .ok (.putfield 119, 3) := by decide +kernel
theorem dX10_next_35 : decode cX10_next 35 = .ok (.goto (-35), 3) := by decide +kernel
theorem dX10_next_38 : decode cX10_next 38 = .ok (.aload_n 0, 1) := by decide +kernel
theorem dX10_next_39 : decode cX10_next 39 = .ok (.getfield 119, 3) := by decide +kernel
theorem dX10_next_42 : decode cX10_next 42 = .ok (.aload_n 0, 1) := by decide +kernel
theorem dX10_next_43 : decode cX10_next 43 = .ok (.getfield 116, 3) := by decide +kernel
theorem dX10_next_46 : decode cX10_next 46 = .ok (.if_icmp .ge 15, 3) := by decide +kernel
theorem dX10_next_49 : decode cX10_next 49 = .ok (.aload_n 0, 1) := by decide +kernel
theorem dX10_next_50 : decode cX10_next 50 = .ok (.getfield 32, 3) := by decide +kernel
theorem dX10_next_53 : decode cX10_next 53 = .ok (.aload_n 0, 1) := by decide +kernel
theorem dX10_next_54 : decode cX10_next 54 = .ok (.getfield 119, 3) := by decide +kernel
theorem dX10_next_57 : decode cX10_next 57 = .ok (.iaload, 1) := by decide +kernel
theorem dX10_next_58 : decode cX10_next 58 = .ok (.goto 4, 3) := by decide +kernel
theorem dX10_next_61 : decode cX10_next 61 = .ok (.iconst 0, 1) := by decide +kernel
theorem dX10_next_62 : decode cX10_next 62 = .ok (.ireturn, 1) := by decide +kernel
theorem dX10_fails_0 : decode cX10_fails 0 = .ok (.aload_n 0, 1) := by decide +kernel
theorem dX10_fails_1 : decode cX10_fails 1 = .ok (.aload_n 0, 1) := by decide +kernel
theorem dX10_fails_2 : decode cX10_fails 2 = .ok (.getfield 122, 3) := by decide +kernel
theorem dX10_fails_5 : decode cX10_fails 5 = .ok (.ifCond .ge 7, 3) := by decide +kernel
theorem dX10_fails_8 : decode cX10_fails 8 = .ok (.iload_n 1, 1) := by decide +kernel
theorem dX10_fails_9 : decode cX10_fails 9 = .ok (.goto 7, 3) := by decide +kernel
theorem dX10_fails_12 : decode cX10_fails 12 = .ok (.aload_n 0, 1) := by decide +kernel
theorem dX10_fails_13 : decode cX10_fails 13 = .ok (.getfield 122, 3) := by decide +kernel
theorem dX10_fails_16 : decode cX10_fails 16 = .ok (.putfield 122, 3) := by decide +kernel
theorem dX10_fails_19 : decode cX10_fails 19 = .ok (.return_, 1) := by decide +kernel
set_option maxRecDepth 20000 in
theorem ggX10_number_X10_next : GoodIn wsX10_number wsX10_next := goodIn_r _ [10, 1, 4, 5, 19, 20, 21, 22, 23, 24, 25, 26, 27, 28, 29, 30, 31, 32, 33, 34, 35, 36, 37, 38, 39, 40, 41, 42, 43, 44, 45, 46] (by decide +kernel) (by decide +kernel)
set_option maxRecDepth 20000 in
theorem gX10_number_X10_next : GoodIn wsX10_number (wsV RX10 125 RX10 yX10_next wsX10_next) := goodIn_app (goodIn_of _ (by decide +kernel)) ggX10_number_X10_next
set_option maxRecDepth 20000 in
theorem ggX10_number_X10_in : GoodIn wsX10_number wsX10_in := goodIn_r _ [13] (by decide +kernel) (by decide +kernel)
set_option maxRecDepth 20000 in
theorem gX10_number_X10_in : GoodIn wsX10_number (va_wsS RX10 77 yX10_in wsX10_in) := goodIn_app (goodIn_of _ (by decide +kernel)) ggX10_number_X10_in
set_option maxRecDepth 20000 in
theorem ggX10_number_X10_fails : GoodIn wsX10_number wsX10_fails := goodIn_r _ [17, 18, 19, 20, 21, 22, 23, 24, 25, 26, 27, 28, 29, 30, 31, 32, 33, 34, 35, 36, 37, 38, 39, 40, 41, 42, 43, 44, 45, 46] (by decide +kernel) (by decide +kernel)
set_option maxRecDepth 20000 in
theorem gX10_number_X10_fails : GoodIn wsX10_number (wsV RX10 133 RX10 yX10_fails wsX10_fails) := goodIn_app (goodIn_of _ (by decide +kernel)) ggX10_number_X10_fails
theorem dX10_number_0 : decode cX10_number 0 = .ok (.aload_n 0, 1) := by decide +kernel
theorem dX10_number_1 : decode cX10_number 1 = .ok (.invokevirtual 125, 3) := by decide +kernel
theorem dX10_number_4 : decode cX10_number 4 = .ok (.bipush 45, 2) := by decide +kernel
theorem dX10_number_6 : decode cX10_number 6 = .ok (.if_icmp .ne 7, 3) := by decide +kernel
theorem dX10_number_9 : decode cX10_number 9 = .ok (.iconst 1, 1) := by decide +kernel
theorem dX10_number_10 : decode cX10_number 10 = .ok (.goto 4, 3) := by decide +kernel
theorem dX10_number_13 : decode cX10_number 13 = .ok (.iconst 0, 1) := by decide +kernel
theorem dX10_number_14 : decode cX10_number 14 = .ok (.istore_n 1, 1) := by decide +kernel
theorem dX10_number_15 : decode cX10_number 15 = .ok (.aload_n 0, 1) := by decide +kernel
theorem dX10_number_16 : decode cX10_number 16 = .ok (.dup, 1) := by decide +kernel
theorem dX10_number_17 : decode cX10_number 17 = .ok (.getfield 119, 3) := by decide +kernel
theorem dX10_number_20 : decode cX10_number 20 = .ok (.iload_n 1, 1) := by decide +kernel
theorem dX10_number_21 : decode cX10_number 21 = .ok (.ifCond .eq 7, 3) := by decide +kernel
theorem dX10_number_24 : decode cX10_number 24 = .ok (.iconst 1, 1) := by decide +kernel
theorem dX10_number_25 : decode cX10_number 25 = .ok (.goto 4, 3) := by decide +kernel
theorem dX10_number_28 : decode cX10_number 28 = .ok (.iconst 0, 1) := by decide +kernel
theorem dX10_number_29 : decode cX10_number 29 = .ok (.iadd, 1) := by decide +kernel
theorem dX10_number_30 : decode cX10_number 30 = .ok (.putfield 119, 3) := by decide +kernel
theorem dX10_number_33 : decode cX10_number 33 = .ok (.aload_n 0, 1) := by decide +kernel
theorem dX10_number_34 : decode cX10_number 34 = .ok (.invokevirtual 125, 3) := by decide +kernel
theorem dX10_number_37 : decode cX10_number 37 = .ok (.i2l, 1) := by decide +kernel
theorem dX10_number_38 : decode cX10_number 38 = .ok (.ldc2_w 129, 3) := by decide +kernel
theorem dX10_number_41 : decode cX10_number 41 = .ok (.ldc2_w 131, 3) := by decide +kernel
theorem dX10_number_44 : decode cX10_number 44 = .ok (.invokestatic 77, 3) := by decide +kernel
theorem dX10_number_47 : decode cX10_number 47 = .ok (.ifCond .ne 13, 3) := by decide +kernel
theorem dX10_number_50 : decode cX10_number 50 = .ok (.aload_n 0, 1) := by decide +kernel
theorem dX10_number_51 : decode cX10_number 51 = .ok (.aload_n 0, 1) := by decide +kernel
theorem dX10_number_52 : decode cX10_number 52 = .ok (.getfield 119, 3) := by decide +kernel
theorem dX10_number_55 : decode cX10_number 55 = .ok (.invokevirtual 133, 3) := by decide +kernel
theorem dX10_number_58 : decode cX10_number 58 = .ok (.iconst 0, 1) := by decide +kernel
theorem dX10_number_59 : decode cX10_number 59 = .ok (.ireturn, 1) := by decide +kernel
theorem dX10_number_60 : decode cX10_number 60 = .ok (.aload_n 0, 1) := by decide +kernel
theorem dX10_number_61 : decode cX10_number 61 = .ok (.getfield 119, 3) := by decide +kernel
theorem dX10_number_64 : decode cX10_number 64 = .ok (.istore_n 2, 1) := by decide +kernel
theorem dX10_number_65 : decode cX10_number 65 = .ok (.iconst 0, 1) := by decide +kernel
theorem dX10_number_66 : decode cX10_number 66 = .ok (.istore_n 3, 1) := by decide +kernel
theorem dX10_number_67 : decode cX10_number 67 = .ok (.aload_n 0, 1) := by decide +kernel
theorem dX10_number_68 : decode cX10_number 68 = .ok (.getfield 119, 3) := by decide +kernel
theorem dX10_number_71 : decode cX10_number 71 = .ok (.aload_n 0, 1) := by decide +kernel
theorem dX10_number_72 : decode cX10_number 72 = .ok (.getfield 116, 3) := by decide +kernel
theorem dX10_number_75 : decode cX10_number 75 = .ok (.if_icmp .ge 66, 3) := by decide +kernel
theorem dX10_number_78 : decode cX10_number 78 = .ok (.aload_n 0, 1) := by decide +kernel
theorem dX10_number_79 : decode cX10_number 79 = .ok (.getfield 32, 3) := by decide +kernel
theorem dX10_number_82 : decode cX10_number 82 = .ok (.aload_n 0, 1) := by decide +kernel
theorem dX10_number_83 : decode cX10_number 83 = .ok (.getfield 119, 3) := by decide +kernel
theorem dX10_number_86 : decode cX10_number 86 = .ok (.iaload, 1) := by decide +kernel
theorem dX10_number_87 : decode cX10_number 87 = .ok (.i2l, 1) := by decide +kernel
theorem dX10_number_88 : decode cX10_number 88 = .ok (.ldc2_w 129, 3) := by decide +kernel
theorem dX10_number_91 : decode cX10_number 91 = .ok (.ldc2_w 131, 3) := by decide +kernel
theorem dX10_number_94 : decode cX10_number 94 = .ok (.invokestatic 77, 3) := by decide +kernel
theorem dX10_number_97 : decode cX10_number 97 = .ok (.ifCond .eq 44, 3) := by decide +kernel
theorem dX10_number_100 : decode cX10_number 100 = .ok (.iload_n 3, 1) := by decide +kernel
theorem dX10_number_101 : decode cX10_number 101 = .ok (.bipush 9, 2) := by decide +kernel
theorem dX10_number_103 : decode cX10_number 103 = .ok (.if_icmp .le 7, 3) := by decide +kernel
theorem dX10_number_106 : decode cX10_number 106 = .ok (.iload_n 3, 1) := by decide +kernel
theorem dX10_number_107 : decode cX10_number 107 = .ok (.goto 20, 3) := by decide +kernel
theorem dX10_number_110 : decode cX10_number 110 = .ok (.bipush 10, 2) := by decide +kernel
theorem dX10_number_112 : decode cX10_number 112 = .ok (.iload_n 3, 1) := by decide +kernel
theorem dX10_number_113 : decode cX10_number 113 = .ok (.imul, 1) := by decide +kernel
theorem dX10_number_114 : decode cX10_number 114 = .ok (.aload_n 0, 1) := by decide +kernel
theorem dX10_number_115 : decode cX10_number 115 = .ok (.getfield 32, 3) := by decide +kernel
theorem dX10_number_118 : decode cX10_number 118 = .ok (.aload_n 0, 1) := by decide +kernel
theorem dX10_number_119 : decode cX10_number 119 = .ok (.getfield 119, 3) := by decide +kernel
theorem dX10_number_122 : decode cX10_number 122 = .ok (.iaload, 1) := by decide +kernel
theorem dX10_number_123 : decode cX10_number 123 = .ok (.iadd, 1) := by decide +kernel
theorem dX10_number_124 : decode cX10_number 124 = .ok (.bipush 48, 2) := by decide +kernel
theorem dX10_number_126 : decode cX10_number 126 = .ok (.isub, 1) := by decide +kernel
theorem dX10_number_127 : decode cX10_number 127 = .ok (.istore_n 3, 1) := by decide +kernel
theorem dX10_number_128 : decode cX10_number 128 = .ok (.aload_n 0, 1) := by decide +kernel
theorem dX10_number_129 : decode cX10_number 129 = .ok (.dup, 1) := by decide +kernel
theorem dX10_number_130 : decode cX10_number 130 = .ok (.getfield 119, 3) := by decide +kernel
theorem dX10_number_133 : decode cX10_number 133 = .ok (.iconst 1, 1) := by decide +kernel
theorem dX10_number_134 : decode cX10_number 134 = .ok (.iadd, 1) := by decide +kernel
theorem dX10_number_135 : decode cX10_number 135 = .ok (.putfield 119, 3) := by decide +kernel
theorem dX10_number_138 : decode cX10_number 138 = .ok (.goto (-71), 3) := by decide +kernel
theorem dX10_number_141 : decode cX10_number 141 = .ok (.iload_n 3, 1) := by decide +kernel
theorem dX10_number_142 : decode cX10_number 142 = .ok (.bipush 9, 2) := by decide +kernel
theorem dX10_number_144 : decode cX10_number 144 = .ok (.if_icmp .le 8, 3) := by decide +kernel
theorem dX10_number_147 : decode cX10_number 147 = .ok (.aload_n 0, 1) := by decide +kernel
theorem dX10_number_148 : decode cX10_number 148 = .ok (.iload_n 2, 1) := by decide +kernel
theorem dX10_number_149 : decode cX10_number 149 = .ok (.invokevirtual 133, 3) := by decide +kernel
theorem dX10_number_152 : decode cX10_number 152 = .ok (.iload_n 1, 1) := by decide +kernel
theorem dX10_number_153 : decode cX10_number 153 = .ok (.ifCond .eq 8, 3) := by decide +kernel
theorem dX10_number_156 : decode cX10_number 156 = .ok (.iload_n 3, 1) := by decide +kernel
theorem dX10_number_157 : decode cX10_number 157 = .ok (.ineg, 1) := by decide +kernel
theorem dX10_number_158 : decode cX10_number 158 = .ok (.goto 4, 3) := by decide +kernel
theorem dX10_number_161 : decode cX10_number 161 = .ok (.iload_n 3, 1) := by decide +kernel
theorem dX10_number_162 : decode cX10_number 162 = .ok (.ireturn, 1) := by decide +kernel
set_option maxRecDepth 20000 in
theorem ggX10_row_X10_number : GoodIn wsX10_row wsX10_number := goodIn_r _ [9, 4, 10, 11, 12, 13, 14, 15, 16, 8, 17, 18, 19, 20, 21, 22, 23, 24, 3, 25, 26, 27, 28, 29, 30, 31, 32, 33, 34, 35, 36, 37, 38, 39, 40, 41, 42, 43, 44, 45, 46, 47, 48, 49, 50, 51, 52] (by decide +kernel) (by decide +kernel)
set_option maxRecDepth 20000 in
theorem gX10_row_X10_number : GoodIn wsX10_row (wsV RX10 140 RX10 yX10_number wsX10_number) := goodIn_app (goodIn_of _ (by decide +kernel)) ggX10_row_X10_number
set_option maxRecDepth 20000 in
theorem ggX10_row_X10_next : GoodIn wsX10_row wsX10_next := goodIn_r _ [17, 4, 12, 13, 25, 26, 27, 28, 29, 30, 31, 32, 33, 34, 35, 36, 37, 38, 39, 40, 41, 42, 43, 44, 45, 46, 47, 48, 49, 50, 51, 52] (by decide +kernel) (by decide +kernel)
set_option maxRecDepth 20000 in
theorem gX10_row_X10_next : GoodIn wsX10_row (wsV RX10 125 RX10 yX10_next wsX10_next) := goodIn_app (goodIn_of _ (by decide +kernel)) ggX10_row_X10_next
theorem dX10_row_0 : decode cX10_row 0 = .ok (.iconst 0, 1) := by decide +kernel
theorem dX10_row_1 : decode cX10_row 1 = .ok (.istore_n 2, 1) := by decide +kernel
theorem dX10_row_2 : decode cX10_row 2 = .ok (.iconst 1, 1) := by decide +kernel
theorem dX10_row_3 : decode cX10_row 3 = .ok (.istore_n 3, 1) := by decide +kernel
theorem dX10_row_4 : decode cX10_row 4 = .ok (.iload_n 3, 1) := by decide +kernel
theorem dX10_row_5 : decode cX10_row 5 = .ok (.ifCond .eq 71, 3) := by decide +kernel
theorem dX10_row_8 : decode cX10_row 8 = .ok (.aload_n 0, 1) := by decide +kernel
theorem dX10_row_9 : decode cX10_row 9 = .ok (.getfield 35, 3) := by decide +kernel
theorem dX10_row_12 : decode cX10_row 12 = .ok (.iconst 4, 1) := by decide +kernel
theorem dX10_row_13 : decode cX10_row 13 = .ok (.aload_n 0, 1) := by decide +kernel
theorem dX10_row_14 : decode cX10_row 14 = .ok (.getfield 137, 3) := by decide +kernel
theorem dX10_row_17 : decode cX10_row 17 = .ok (.imul, 1) := by decide +kernel
theorem dX10_row_18 : decode cX10_row 18 = .ok (.iload_n 2, 1) := by decide +kernel
theorem dX10_row_19 : decode cX10_row 19 = .ok (.iadd, 1) := by decide +kernel
theorem dX10_row_20 : decode cX10_row 20 = .ok (.aload_n 0, 1) := by decide +kernel
theorem dX10_row_21 : decode cX10_row 21 = .ok (.invokevirtual 140, 3) := by decide +kernel
theorem dX10_row_24 : decode cX10_row 24 = .ok (.iastore, 1) := by decide +kernel
theorem dX10_row_25 : decode cX10_row 25 = .ok (.iinc 2 1, 3) := by decide +kernel
theorem dX10_row_28 : decode cX10_row 28 = .ok (.aload_n 0, 1) := by decide +kernel
theorem dX10_row_29 : decode cX10_row 29 = .ok (.getfield 122, 3) := by decide +kernel
theorem dX10_row_32 : decode cX10_row 32 = .ok (.ifCond .ge 21, 3) := by decide +kernel
theorem dX10_row_35 : decode cX10_row 35 = .ok (.aload_n 0, 1) := by decide +kernel
theorem dX10_row_36 : decode cX10_row 36 = .ok (.invokevirtual 125, 3) := by decide +kernel
theorem dX10_row_39 : decode cX10_row 39 = .ok (.bipush 44, 2) := by decide +kernel
theorem dX10_row_41 : decode cX10_row 41 = .ok (.if_icmp .ne 12, 3) := by decide +kernel
theorem dX10_row_44 : decode cX10_row 44 = .ok (.iload_n 2, 1) := by decide +kernel
theorem dX10_row_45 : decode cX10_row 45 = .ok (.iload_n 1, 1) := by decide +kernel
theorem dX10_row_46 : decode cX10_row 46 = .ok (.if_icmp .ge 7, 3) := by decide +kernel
theorem dX10_row_49 : decode cX10_row 49 = .ok (.iconst 1, 1) := by decide +kernel
theorem dX10_row_50 : decode cX10_row 50 = .ok (.goto 4, 3) := by decide +kernel
theorem dX10_row_53 : decode cX10_row 53 = .ok (.iconst 0, 1) := by decide +kernel
theorem dX10_row_54 : decode cX10_row 54 = .ok (.istore_n 3, 1) := by decide +kernel
theorem dX10_row_55 : decode cX10_row 55 = .ok (.aload_n 0, 1) := by decide +kernel
theorem dX10_row_56 : decode cX10_row 56 = .ok (.dup, 1) := by decide +kernel
theorem dX10_row_57 : decode cX10_row 57 = .ok (.getfield 119, 3) := by decide +kernel
theorem dX10_row_60 : decode cX10_row 60 = .ok (.iload_n 3, 1) := by decide +kernel
theorem dX10_row_61 : decode cX10_row 61 = .ok (.ifCond .eq 7, 3) := by decide +kernel
theorem dX10_row_64 : decode cX10_row 64 = .ok (.iconst 1, 1) := by decide +kernel
theorem dX10_row_65 : decode cX10_row 65 = .ok (.goto 4, 3) := by decide +kernel
theorem dX10_row_68 : decode cX10_row 68 = .ok (.iconst 0, 1) := by decide +kernel
theorem dX10_row_69 : decode cX10_row 69 = .ok (.iadd, 1) := by decide +kernel
theorem dX10_row_70 : decode cX10_row 70 = .ok (.putfield 119, 3) := by decide +kernel
theorem dX10_row_73 : decode cX10_row 73 = .ok (.goto (-69), 3) := by decide +kernel
theorem dX10_row_76 : decode cX10_row 76 = .ok (.iload_n 2, 1) := by decide +kernel
theorem dX10_row_77 : decode cX10_row 77 = .ok (.ireturn, 1) := by decide +kernel
set_option maxRecDepth 20000 in
theorem ggX10_read_X10_row : GoodIn wsX10_read wsX10_row := goodIn_r _ [14, 9, 3, 2, 1, 15, 16, 17, 13, 18, 19, 20, 5, 21, 22, 23, 24, 25, 26, 27, 28, 29, 30, 31, 32, 49, 50, 51, 52, 53, 54, 55, 56, 57, 58, 59, 60, 61, 62, 63, 64, 65, 66, 67, 68, 69, 70, 71, 72, 73, 74, 75, 76] (by decide +kernel) (by decide +kernel)
set_option maxRecDepth 20000 in
theorem gX10_read_X10_row : GoodIn wsX10_read (wsV RX10 146 RX10 yX10_row wsX10_row) := goodIn_app (goodIn_of _ (by decide +kernel)) ggX10_read_X10_row
set_option maxRecDepth 20000 in
theorem ggX10_read_X10_fails : GoodIn wsX10_read wsX10_fails := goodIn_r _ [32, 2, 49, 50, 51, 52, 53, 54, 55, 56, 57, 58, 59, 60, 61, 62, 63, 64, 65, 66, 67, 68, 69, 70, 71, 72, 73, 74, 75, 76] (by decide +kernel) (by decide +kernel)
set_option maxRecDepth 20000 in
theorem gX10_read_X10_fails : GoodIn wsX10_read (wsV RX10 133 RX10 yX10_fails wsX10_fails) := goodIn_app (goodIn_of _ (by decide +kernel)) ggX10_read_X10_fails
set_option maxRecDepth 20000 in
theorem ggX10_read_X10_next : GoodIn wsX10_read wsX10_next := goodIn_r _ [25, 1, 5, 21, 49, 50, 51, 52, 53, 54, 55, 56, 57, 58, 59, 60, 61, 62, 63, 64, 65, 66, 67, 68, 69, 70, 71, 72, 73, 74, 75, 76] (by decide +kernel) (by decide +kernel)
set_option maxRecDepth 20000 in
theorem gX10_read_X10_next : GoodIn wsX10_read (wsV RX10 125 RX10 yX10_next wsX10_next) := goodIn_app (goodIn_of _ (by decide +kernel)) ggX10_read_X10_next
set_option maxRecDepth 20000 in
theorem ggX10_read_X10_table : GoodIn wsX10_read wsX10_table := goodIn_r _ [36, 37, 38, 6, 7, 8, 26, 27, 13, 28, 39, 40, 41, 42, 43, 44, 49, 50, 51, 52, 53, 54, 55, 56, 57, 58, 59, 60, 61, 62, 63, 64, 65, 66, 67, 68, 69, 70, 71, 72, 73, 74, 75, 76] (by decide +kernel) (by decide +kernel)
set_option maxRecDepth 20000 in
theorem gX10_read_X10_table : GoodIn wsX10_read (wsV RX10 150 RX10 yX10_table wsX10_table) := goodIn_app (goodIn_of _ (by decide +kernel)) ggX10_read_X10_table
set_option maxRecDepth 20000 in
theorem ggX10_read_X10_place : GoodIn wsX10_read wsX10_place := goodIn_r _ [48, 7, 49, 50, 51, 52, 53, 54, 55, 56, 57, 58, 59, 60, 61, 62, 63, 64, 65, 66, 67, 68, 69, 70, 71, 72, 73, 74, 75, 76] (by decide +kernel) (by decide +kernel)
set_option maxRecDepth 20000 in
theorem gX10_read_X10_place : GoodIn wsX10_read (wsV RX10 97 RX10 yX10_place wsX10_place) := goodIn_app (goodIn_of _ (by decide +kernel)) ggX10_read_X10_place
theorem dX10_read_0 : decode cX10_read 0 = .ok (.aload_n 0, 1) := by decide +kernel
theorem dX10_read_1 : decode cX10_read 1 = .ok (.iconst 0, 1) := by decide +kernel
theorem dX10_read_2 : decode cX10_read 2 = .ok (.putfield 119, 3) := by decide +kernel
theorem dX10_read_5 : decode cX10_read 5 = .ok (.aload_n 0, 1) := by decide +kernel
theorem dX10_read_6 : decode cX10_read 6 = .ok (.iconst (-1), 1) := by decide +kernel
theorem dX10_read_7 : decode cX10_read 7 = .ok (.putfield 122, 3) := by decide +kernel
theorem dX10_read_10 : decode cX10_read 10 = .ok (.aload_n 0, 1) := by decide +kernel
theorem dX10_read_11 : decode cX10_read 11 = .ok (.iconst 0, 1) := by decide +kernel
theorem dX10_read_12 : decode cX10_read 12 = .ok (.putfield 137, 3) := by decide +kernel
theorem dX10_read_15 : decode cX10_read 15 = .ok (.iconst 1, 1) := by decide +kernel
theorem dX10_read_16 : decode cX10_read 16 = .ok (.istore_n 1, 1) := by decide +kernel
theorem dX10_read_17 : decode cX10_read 17 = .ok (.iload_n 1, 1) := by decide +kernel
theorem dX10_read_18 : decode cX10_read 18 = .ok (.ifCond .eq 126, 3) := by decide +kernel
theorem dX10_read_21 : decode cX10_read 21 = .ok (.aload_n 0, 1) := by decide +kernel
theorem dX10_read_22 : decode cX10_read 22 = .ok (.aload_n 0, 1) := by decide +kernel
theorem dX10_read_23 : decode cX10_read 23 = .ok (.getfield 137, 3) := by decide +kernel
theorem dX10_read_26 : decode cX10_read 26 = .ok (.ifCond .ne 7, 3) := by decide +kernel
theorem dX10_read_29 : decode cX10_read 29 = .ok (.iconst 4, 1) := by decide +kernel
theorem dX10_read_30 : decode cX10_read 30 = .ok (.goto 7, 3) := by decide +kernel
theorem dX10_read_33 : decode cX10_read 33 = .ok (.aload_n 0, 1) := by decide +kernel
theorem dX10_read_34 : decode cX10_read 34 = .ok (.getfield 143, 3) := by decide +kernel
theorem dX10_read_37 : decode cX10_read 37 = .ok (.invokevirtual 146, 3) := by decide +kernel
theorem dX10_read_40 : decode cX10_read 40 = .ok (.istore_n 2, 1) := by decide +kernel
theorem dX10_read_41 : decode cX10_read 41 = .ok (.aload_n 0, 1) := by decide +kernel
theorem dX10_read_42 : decode cX10_read 42 = .ok (.aload_n 0, 1) := by decide +kernel
theorem dX10_read_43 : decode cX10_read 43 = .ok (.getfield 137, 3) := by decide +kernel
theorem dX10_read_46 : decode cX10_read 46 = .ok (.ifCond .ne 7, 3) := by decide +kernel
theorem dX10_read_49 : decode cX10_read 49 = .ok (.iload_n 2, 1) := by decide +kernel
theorem dX10_read_50 : decode cX10_read 50 = .ok (.goto 7, 3) := by decide +kernel
theorem dX10_read_53 : decode cX10_read 53 = .ok (.aload_n 0, 1) := by decide +kernel
theorem dX10_read_54 : decode cX10_read 54 = .ok (.getfield 143, 3) := by decide +kernel
theorem dX10_read_57 : decode cX10_read 57 = .ok (.putfield 143, 3) := by decide +kernel
theorem dX10_read_60 : decode cX10_read 60 = .ok (.aload_n 0, 1) := by decide +kernel
theorem dX10_read_61 : decode cX10_read 61 = .ok (.getfield 122, 3) := by decide +kernel
theorem dX10_read_64 : decode cX10_read 64 = .ok (.ifCond .ge 19, 3) := by decide +kernel
theorem dX10_read_67 : decode cX10_read 67 = .ok (.iload_n 2, 1) := by decide +kernel
theorem dX10_read_68 : decode cX10_read 68 = .ok (.aload_n 0, 1) := by decide +kernel
theorem dX10_read_69 : decode cX10_read 69 = .ok (.getfield 143, 3) := by decide +kernel
theorem dX10_read_72 : decode cX10_read 72 = .ok (.if_icmp .ge 11, 3) := by decide +kernel
theorem dX10_read_75 : decode cX10_read 75 = .ok (.aload_n 0, 1) := by decide +kernel
theorem dX10_read_76 : decode cX10_read 76 = .ok (.aload_n 0, 1) := by decide +kernel
theorem dX10_read_77 : decode cX10_read 77 = .ok (.getfield 119, 3) := by decide +kernel
theorem dX10_read_80 : decode cX10_read 80 = .ok (.invokevirtual 133, 3) := by decide +kernel
theorem dX10_read_83 : decode cX10_read 83 = .ok (.aload_n 0, 1) := by decide +kernel
theorem dX10_read_84 : decode cX10_read 84 = .ok (.dup, 1) := by decide +kernel
theorem dX10_read_85 : decode cX10_read 85 = .ok (.getfield 137, 3) := by decide +kernel
theorem dX10_read_88 : decode cX10_read 88 = .ok (.iconst 1, 1) := by decide +kernel
theorem dX10_read_89 : decode cX10_read 89 = .ok (.iadd, 1) := by decide +kernel
theorem dX10_read_90 : decode cX10_read 90 = .ok (.putfield 137, 3) := by decide +kernel
theorem dX10_read_93 : decode cX10_read 93 = .ok (.aload_n 0, 1) := by decide +kernel
theorem dX10_read_94 : decode cX10_read 94 = .ok (.getfield 122, 3) := by decide +kernel
theorem dX10_read_97 : decode cX10_read 97 = .ok (.ifCond .ge 24, 3) := by decide +kernel
theorem dX10_read_100 : decode cX10_read 100 = .ok (.aload_n 0, 1) := by decide +kernel
theorem dX10_read_101 : decode cX10_read 101 = .ok (.invokevirtual 125, 3) := by decide +kernel
theorem dX10_read_104 : decode cX10_read 104 = .ok (.bipush 59, 2) := by decide +kernel
theorem dX10_read_106 : decode cX10_read 106 = .ok (.if_icmp .ne 15, 3) := by decide +kernel
theorem dX10_read_109 : decode cX10_read 109 = .ok (.aload_n 0, 1) := by decide +kernel
theorem dX10_read_110 : decode cX10_read 110 = .ok (.getfield 137, 3) := by decide +kernel
theorem dX10_read_113 : decode cX10_read 113 = .ok (.iconst 5, 1) := by decide +kernel
theorem dX10_read_114 : decode cX10_read 114 = .ok (.if_icmp .ge 7, 3) := by decide +kernel
theorem dX10_read_117 : decode cX10_read 117 = .ok (.iconst 1, 1) := by decide +kernel
theorem dX10_read_118 : decode cX10_read 118 = .ok (.goto 4, 3) := by decide +kernel
theorem dX10_read_121 : decode cX10_read 121 = .ok (.iconst 0, 1) := by decide +kernel
theorem dX10_read_122 : decode cX10_read 122 = .ok (.istore_n 1, 1) := by decide +kernel
theorem dX10_read_123 : decode cX10_read 123 = .ok (.aload_n 0, 1) := by decide +kernel
theorem dX10_read_124 : decode cX10_read 124 = .ok (.dup, 1) := by decide +kernel
theorem dX10_read_125 : decode cX10_read 125 = .ok (.getfield 119, 3) := by decide +kernel
theorem dX10_read_128 : decode cX10_read 128 = .ok (.iload_n 1, 1) := by decide +kernel
theorem dX10_read_129 : decode cX10_read 129 = .ok (.ifCond .eq 7, 3) := by decide +kernel
theorem dX10_read_132 : decode cX10_read 132 = .ok (.iconst 1, 1) := by decide +kernel
theorem dX10_read_133 : decode cX10_read 133 = .ok (.goto 4, 3) := by decide +kernel
theorem dX10_read_136 : decode cX10_read 136 = .ok (.iconst 0, 1) := by decide +kernel
theorem dX10_read_137 : decode cX10_read 137 = .ok (.iadd, 1) := by decide +kernel
theorem dX10_read_138 : decode cX10_read 138 = .ok (.putfield 119, 3) := by decide +kernel
theorem dX10_read_141 : decode cX10_read 141 = .ok (.goto (-124), 3) := by decide +kernel
theorem dX10_read_144 : decode cX10_read 144 = .ok (.aload_n 0, 1) := by decide +kernel
theorem dX10_read_145 : decode cX10_read 145 = .ok (.getfield 122, 3) := by decide +kernel
theorem dX10_read_148 : decode cX10_read 148 = .ok (.ifCond .ge 18, 3) := by decide +kernel
theorem dX10_read_151 : decode cX10_read 151 = .ok (.aload_n 0, 1) := by decide +kernel
theorem dX10_read_152 : decode cX10_read 152 = .ok (.invokevirtual 125, 3) := by decide +kernel
theorem dX10_read_155 : decode cX10_read 155 = .ok (.ifCond .eq 11, 3) := by decide +kernel
theorem dX10_read_158 : decode cX10_read 158 = .ok (.aload_n 0, 1) := by decide +kernel
theorem dX10_read_159 : decode cX10_read 159 = .ok (.aload_n 0, 1) := by decide +kernel
theorem dX10_read_160 : decode cX10_read 160 = .ok (.getfield 119, 3) := by decide +kernel
theorem dX10_read_163 : decode cX10_read 163 = .ok (.invokevirtual 133, 3) := by decide +kernel
theorem dX10_read_166 : decode cX10_read 166 = .ok (.aload_n 0, 1) := by decide +kernel
theorem dX10_read_167 : decode cX10_read 167 = .ok (.iconst 0, 1) := by decide +kernel
theorem dX10_read_168 : decode cX10_read 168 = .ok (.putfield 116, 3) := by decide +kernel
theorem dX10_read_171 : decode cX10_read 171 = .ok (.aload_n 0, 1) := by decide +kernel
theorem dX10_read_172 : decode cX10_read 172 = .ok (.getfield 122, 3) := by decide +kernel
theorem dX10_read_175 : decode cX10_read 175 = .ok (.ifCond .lt 11, 3) := by decide +kernel
theorem dX10_read_178 : decode cX10_read 178 = .ok (.bipush (-20), 2) := by decide +kernel
theorem dX10_read_180 : decode cX10_read 180 = .ok (.aload_n 0, 1) := by decide +kernel
theorem dX10_read_181 : decode cX10_read 181 = .ok (.getfield 122, 3) := by decide +kernel
theorem dX10_read_184 : decode cX10_read 184 = .ok (.isub, 1) := by decide +kernel
theorem dX10_read_185 : decode cX10_read 185 = .ok (.ireturn, 1) := by decide +kernel
theorem dX10_read_186 : decode cX10_read 186 = .ok (.aload_n 0, 1) := by decide +kernel
theorem dX10_read_187 : decode cX10_read 187 = .ok (.aload_n 0, 1) := by decide +kernel
theorem dX10_read_188 : decode cX10_read 188 = .ok (.getfield 137, 3) := by decide +kernel
theorem dX10_read_191 : decode cX10_read 191 = .ok (.aload_n 0, 1) := by decide +kernel
theorem dX10_read_192 : decode cX10_read 192 = .ok (.getfield 143, 3) := by decide +kernel
theorem dX10_read_195 : decode cX10_read 195 = .ok (.invokevirtual 150, 3) := by decide +kernel
theorem dX10_read_198 : decode cX10_read 198 = .ok (.istore_n 2, 1) := by decide +kernel
theorem dX10_read_199 : decode cX10_read 199 = .ok (.iconst 0, 1) := by decide +kernel
theorem dX10_read_200 : decode cX10_read 200 = .ok (.istore_n 3, 1) := by decide +kernel
theorem dX10_read_201 : decode cX10_read 201 = .ok (.iload_n 3, 1) := by decide +kernel
theorem dX10_read_202 : decode cX10_read 202 = .ok (.aload_n 0, 1) := by decide +kernel
theorem dX10_read_203 : decode cX10_read 203 = .ok (.getfield 7, 3) := by decide +kernel
theorem dX10_read_206 : decode cX10_read 206 = .ok (.if_icmp .ge 50, 3) := by decide +kernel
theorem dX10_read_209 : decode cX10_read 209 = .ok (.iconst 0, 1) := by decide +kernel
theorem dX10_read_210 : decode cX10_read 210 = .ok (.istore 4, 2) := by decide +kernel
theorem dX10_read_212 : decode cX10_read 212 = .ok (.iload 4, 2) := by decide +kernel
theorem dX10_read_214 : decode cX10_read 214 = .ok (.aload_n 0, 1) := by decide +kernel
theorem dX10_read_215 : decode cX10_read 215 = .ok (.getfield 13, 3) := by decide +kernel
theorem dX10_read_218 : decode cX10_read 218 = .ok (.if_icmp .ge 32, 3) := by decide +kernel
theorem dX10_read_221 : decode cX10_read 221 = .ok (.aload_n 0, 1) := by decide +kernel
theorem dX10_read_222 : decode cX10_read 222 = .ok (.getfield 19, 3) := by decide +kernel
theorem dX10_read_225 : decode cX10_read 225 = .ok (.aload_n 0, 1) := by decide +kernel
theorem dX10_read_226 : decode cX10_read 226 = .ok (.iload_n 3, 1) := by decide +kernel
theorem dX10_read_227 : decode cX10_read 227 = .ok (.iload 4, 2) := by decide +kernel
theorem dX10_read_229 : decode cX10_read 229 = .ok (.invokevirtual 97, 3) := by decide +kernel
theorem dX10_read_232 : decode cX10_read 232 = .ok (.aload_n 0, 1) := by decide +kernel
theorem dX10_read_233 : decode cX10_read 233 = .ok (.getfield 35, 3) := by decide +kernel
theorem dX10_read_236 : decode cX10_read 236 = .ok (.iconst 4, 1) := by decide +kernel
theorem dX10_read_237 : decode cX10_read 237 = .ok (.iload_n 3, 1) := by decide +kernel
theorem dX10_read_238 : decode cX10_read 238 = .ok (.imul, 1) := by decide +kernel
theorem dX10_read_239 : decode cX10_read 239 = .ok (.iload 4, 2) := by decide +kernel
theorem dX10_read_241 : decode cX10_read 241 = .ok (.iadd, 1) := by decide +kernel
theorem dX10_read_242 : decode cX10_read 242 = .ok (.iaload, 1) := by decide +kernel
theorem dX10_read_243 : decode cX10_read 243 = .ok (.iastore, 1) := by decide +kernel
theorem dX10_read_244 : decode cX10_read 244 = .ok (.iinc 4 1, 3) := by decide +kernel
theorem dX10_read_247 : decode cX10_read 247 = .ok (.goto (-35), 3) := by decide +kernel
theorem dX10_read_250 : decode cX10_read 250 = .ok (.iinc 3 1, 3) := by decide +kernel
theorem dX10_read_253 : decode cX10_read 253 = .ok (.goto (-52), 3) := by decide +kernel
theorem dX10_read_256 : decode cX10_read 256 = .ok (.aload_n 0, 1) := by decide +kernel
theorem dX10_read_257 : decode cX10_read 257 = .ok (.getfield 7, 3) := by decide +kernel
theorem dX10_read_260 : decode cX10_read 260 = .ok (.ireturn, 1) := by decide +kernel
theorem dX10_words_0 : decode cX10_words 0 = .ok (.iconst 1, 1) := by decide +kernel
theorem dX10_words_1 : decode cX10_words 1 = .ok (.istore_n 1, 1) := by decide +kernel
theorem dX10_words_2 : decode cX10_words 2 = .ok (.iconst 0, 1) := by decide +kernel
theorem dX10_words_3 : decode cX10_words 3 = .ok (.istore_n 2, 1) := by decide +kernel
theorem dX10_words_4 : decode cX10_words 4 = .ok (.iload_n 2, 1) := by decide +kernel
theorem dX10_words_5 : decode cX10_words 5 = .ok (.aload_n 0, 1) := by decide +kernel
theorem dX10_words_6 : decode cX10_words 6 = .ok (.getfield 13, 3) := by decide +kernel
theorem dX10_words_9 : decode cX10_words 9 = .ok (.if_icmp .ge 16, 3) := by decide +kernel
theorem dX10_words_12 : decode cX10_words 12 = .ok (.iload_n 1, 1) := by decide +kernel
theorem dX10_words_13 : decode cX10_words 13 = .ok (.aload_n 0, 1) := by decide +kernel
theorem dX10_words_14 : decode cX10_words 14 = .ok (.getfield 16, 3) := by decide +kernel
theorem dX10_words_17 : decode cX10_words 17 = .ok (.imul, 1) := by decide +kernel
theorem dX10_words_18 : decode cX10_words 18 = .ok (.istore_n 1, 1) := by decide +kernel
theorem dX10_words_19 : decode cX10_words 19 = .ok (.iinc 2 1, 3) := by decide +kernel
theorem dX10_words_22 : decode cX10_words 22 = .ok (.goto (-18), 3) := by decide +kernel
theorem dX10_words_25 : decode cX10_words 25 = .ok (.iload_n 1, 1) := by decide +kernel
theorem dX10_words_26 : decode cX10_words 26 = .ok (.ireturn, 1) := by decide +kernel
set_option maxRecDepth 20000 in
theorem ggX10_isWord_X10_words : GoodIn wsX10_isWord wsX10_words := goodIn_r _ [5, 6, 7, 11, 12, 13, 14, 15, 16, 17, 18, 19, 20, 21, 22, 23, 24, 25, 26, 27, 28, 29, 30, 31, 32, 33, 34, 35, 36, 37, 38] (by decide +kernel) (by decide +kernel)
set_option maxRecDepth 20000 in
theorem gX10_isWord_X10_words : GoodIn wsX10_isWord (wsV RX10 153 RX10 yX10_words wsX10_words) := goodIn_app (goodIn_of _ (by decide +kernel)) ggX10_isWord_X10_words
set_option maxRecDepth 20000 in
theorem ggX10_isWord_X10_in : GoodIn wsX10_isWord wsX10_in := goodIn_r _ [10] (by decide +kernel) (by decide +kernel)
set_option maxRecDepth 20000 in
theorem gX10_isWord_X10_in : GoodIn wsX10_isWord (va_wsS RX10 77 yX10_in wsX10_in) := goodIn_app (goodIn_of _ (by decide +kernel)) ggX10_isWord_X10_in
theorem dX10_isWord_0 : decode cX10_isWord 0 = .ok (.iload_n 1, 1) := by decide +kernel
theorem dX10_isWord_1 : decode cX10_isWord 1 = .ok (.i2l, 1) := by decide +kernel
theorem dX10_isWord_2 : decode cX10_isWord 2 = .ok (.lconst 0, 1) := by decide +kernel
theorem dX10_isWord_3 : decode cX10_isWord 3 = .ok (.aload_n 0, 1) := by decide +kernel
theorem dX10_isWord_4 : decode cX10_isWord 4 = .ok (.invokevirtual 153, 3) := by decide +kernel
theorem dX10_isWord_7 : decode cX10_isWord 7 = .ok (.iconst 1, 1) := by decide +kernel
theorem dX10_isWord_8 : decode cX10_isWord 8 = .ok (.isub, 1) := by decide +kernel
theorem dX10_isWord_9 : decode cX10_isWord 9 = .ok (.i2l, 1) := by decide +kernel
theorem dX10_isWord_10 : decode cX10_isWord 10 = .ok (.invokestatic 77, 3) := by decide +kernel
theorem dX10_isWord_13 : decode cX10_isWord 13 = .ok (.ireturn, 1) := by decide +kernel
theorem dX10_letter_0 : decode cX10_letter 0 = .ok (.iload_n 1, 1) := by decide +kernel
theorem dX10_letter_1 : decode cX10_letter 1 = .ok (.istore_n 3, 1) := by decide +kernel
theorem dX10_letter_2 : decode cX10_letter 2 = .ok (.aload_n 0, 1) := by decide +kernel
theorem dX10_letter_3 : decode cX10_letter 3 = .ok (.getfield 13, 3) := by decide +kernel
theorem dX10_letter_6 : decode cX10_letter 6 = .ok (.iconst 1, 1) := by decide +kernel
theorem dX10_letter_7 : decode cX10_letter 7 = .ok (.isub, 1) := by decide +kernel
theorem dX10_letter_8 : decode cX10_letter 8 = .ok (.istore 4, 2) := by decide +kernel
theorem dX10_letter_10 : decode cX10_letter 10 = .ok (.iload 4, 2) := by decide +kernel
theorem dX10_letter_12 : decode cX10_letter 12 = .ok (.iload_n 2, 1) := by decide +kernel
theorem dX10_letter_13 : decode cX10_letter 13 = .ok (.if_icmp .le 16, 3) := by decide +kernel
theorem dX10_letter_16 : decode cX10_letter 16 = .ok (.iload_n 3, 1) := by decide +kernel
theorem dX10_letter_17 : decode cX10_letter 17 = .ok (.aload_n 0, 1) := by decide +kernel
theorem dX10_letter_18 : decode cX10_letter 18 = .ok (.getfield 16, 3) := by decide +kernel
theorem dX10_letter_21 : decode cX10_letter 21 = .ok (.idiv, 1) := by decide +kernel
theorem dX10_letter_22 : decode cX10_letter 22 = .ok (.istore_n 3, 1) := by decide +kernel
theorem dX10_letter_23 : decode cX10_letter 23 = .ok (.iinc 4 (-1), 3) := by decide +kernel
theorem dX10_letter_26 : decode cX10_letter 26 = .ok (.goto (-16), 3) := by decide +kernel
theorem dX10_letter_29 : decode cX10_letter 29 = .ok (.iconst 2, 1) := by decide +kernel
theorem dX10_letter_30 : decode cX10_letter 30 = .ok (.iload_n 3, 1) := by decide +kernel
theorem dX10_letter_31 : decode cX10_letter 31 = .ok (.aload_n 0, 1) := by decide +kernel
theorem dX10_letter_32 : decode cX10_letter 32 = .ok (.getfield 16, 3) := by decide +kernel
theorem dX10_letter_35 : decode cX10_letter 35 = .ok (.irem, 1) := by decide +kernel
theorem dX10_letter_36 : decode cX10_letter 36 = .ok (.imul, 1) := by decide +kernel
theorem dX10_letter_37 : decode cX10_letter 37 = .ok (.aload_n 0, 1) := by decide +kernel
theorem dX10_letter_38 : decode cX10_letter 38 = .ok (.getfield 16, 3) := by decide +kernel
theorem dX10_letter_41 : decode cX10_letter 41 = .ok (.isub, 1) := by decide +kernel
theorem dX10_letter_42 : decode cX10_letter 42 = .ok (.iconst 1, 1) := by decide +kernel
theorem dX10_letter_43 : decode cX10_letter 43 = .ok (.iadd, 1) := by decide +kernel
theorem dX10_letter_44 : decode cX10_letter 44 = .ok (.ireturn, 1) := by decide +kernel
theorem dX10_numberOf_0 : decode cX10_numberOf 0 = .ok (.iconst 0, 1) := by decide +kernel
theorem dX10_numberOf_1 : decode cX10_numberOf 1 = .ok (.istore_n 2, 1) := by decide +kernel
theorem dX10_numberOf_2 : decode cX10_numberOf 2 = .ok (.iconst 0, 1) := by decide +kernel
theorem dX10_numberOf_3 : decode cX10_numberOf 3 = .ok (.istore_n 3, 1) := by decide +kernel
theorem dX10_numberOf_4 : decode cX10_numberOf 4 = .ok (.iload_n 3, 1) := by decide +kernel
theorem dX10_numberOf_5 : decode cX10_numberOf 5 = .ok (.aload_n 0, 1) := by decide +kernel
theorem dX10_numberOf_6 : decode cX10_numberOf 6 = .ok (.getfield 13, 3) := by decide +kernel
theorem dX10_numberOf_9 : decode cX10_numberOf 9 = .ok (.if_icmp .ge 29, 3) := by decide +kernel
theorem dX10_numberOf_12 : decode cX10_numberOf 12 = .ok (.iload_n 2, 1) := by decide +kernel
theorem dX10_numberOf_13 : decode cX10_numberOf 13 = .ok (.aload_n 0, 1) := by decide +kernel
theorem dX10_numberOf_14 : decode cX10_numberOf 14 = .ok (.getfield 16, 3) := by decide +kernel
theorem dX10_numberOf_17 : decode cX10_numberOf 17 = .ok (.imul, 1) := by decide +kernel
theorem dX10_numberOf_18 : decode cX10_numberOf 18 = .ok (.aload_n 1, 1) := by decide +kernel
theorem dX10_numberOf_19 : decode cX10_numberOf 19 = .ok (.iload_n 3, 1) := by decide +kernel
theorem dX10_numberOf_20 : decode cX10_numberOf 20 = .ok (.iaload, 1) := by decide +kernel
theorem dX10_numberOf_21 : decode cX10_numberOf 21 = .ok (.aload_n 0, 1) := by decide +kernel
theorem dX10_numberOf_22 : decode cX10_numberOf 22 = .ok (.getfield 16, 3) := by decide +kernel
theorem dX10_numberOf_25 : decode cX10_numberOf 25 = .ok (.iadd, 1) := by decide +kernel
theorem dX10_numberOf_26 : decode cX10_numberOf 26 = .ok (.iconst 1, 1) := by decide +kernel
theorem dX10_numberOf_27 : decode cX10_numberOf 27 = .ok (.isub, 1) := by decide +kernel
theorem dX10_numberOf_28 : decode cX10_numberOf 28 = .ok (.iconst 2, 1) := by decide +kernel
theorem dX10_numberOf_29 : decode cX10_numberOf 29 = .ok (.idiv, 1) := by decide +kernel
theorem dX10_numberOf_30 : decode cX10_numberOf 30 = .ok (.iadd, 1) := by decide +kernel
theorem dX10_numberOf_31 : decode cX10_numberOf 31 = .ok (.istore_n 2, 1) := by decide +kernel
theorem dX10_numberOf_32 : decode cX10_numberOf 32 = .ok (.iinc 3 1, 3) := by decide +kernel
theorem dX10_numberOf_35 : decode cX10_numberOf 35 = .ok (.goto (-31), 3) := by decide +kernel
theorem dX10_numberOf_38 : decode cX10_numberOf 38 = .ok (.iload_n 2, 1) := by decide +kernel
theorem dX10_numberOf_39 : decode cX10_numberOf 39 = .ok (.ireturn, 1) := by decide +kernel
set_option maxRecDepth 20000 in
theorem ggX10_offOf_X10_letter : GoodIn wsX10_offOf wsX10_letter := goodIn_r _ [8, 3, 9, 10, 11, 12, 13, 14, 15, 16, 17, 18, 19, 20, 21, 22, 23, 24, 25, 26, 27, 28, 29, 30, 31, 32, 33, 34, 35, 36, 37] (by decide +kernel) (by decide +kernel)
set_option maxRecDepth 20000 in
theorem gX10_offOf_X10_letter : GoodIn wsX10_offOf (wsV RX10 156 RX10 yX10_letter wsX10_letter) := goodIn_app (goodIn_of _ (by decide +kernel)) ggX10_offOf_X10_letter
theorem dX10_offOf_0 : decode cX10_offOf 0 = .ok (.iconst 0, 1) := by decide +kernel
theorem dX10_offOf_1 : decode cX10_offOf 1 = .ok (.istore_n 2, 1) := by decide +kernel
theorem dX10_offOf_2 : decode cX10_offOf 2 = .ok (.iconst 0, 1) := by decide +kernel
theorem dX10_offOf_3 : decode cX10_offOf 3 = .ok (.istore_n 3, 1) := by decide +kernel
theorem dX10_offOf_4 : decode cX10_offOf 4 = .ok (.iload_n 3, 1) := by decide +kernel
theorem dX10_offOf_5 : decode cX10_offOf 5 = .ok (.aload_n 0, 1) := by decide +kernel
theorem dX10_offOf_6 : decode cX10_offOf 6 = .ok (.getfield 7, 3) := by decide +kernel
theorem dX10_offOf_9 : decode cX10_offOf 9 = .ok (.if_icmp .ge 71, 3) := by decide +kernel
theorem dX10_offOf_12 : decode cX10_offOf 12 = .ok (.aload_n 0, 1) := by decide +kernel
theorem dX10_offOf_13 : decode cX10_offOf 13 = .ok (.getfield 19, 3) := by decide +kernel
theorem dX10_offOf_16 : decode cX10_offOf 16 = .ok (.iconst 5, 1) := by decide +kernel
theorem dX10_offOf_17 : decode cX10_offOf 17 = .ok (.iload_n 3, 1) := by decide +kernel
theorem dX10_offOf_18 : decode cX10_offOf 18 = .ok (.imul, 1) := by decide +kernel
theorem dX10_offOf_19 : decode cX10_offOf 19 = .ok (.iconst 4, 1) := by decide +kernel
theorem dX10_offOf_20 : decode cX10_offOf 20 = .ok (.iadd, 1) := by decide +kernel
theorem dX10_offOf_21 : decode cX10_offOf 21 = .ok (.iaload, 1) := by decide +kernel
theorem dX10_offOf_22 : decode cX10_offOf 22 = .ok (.istore 4, 2) := by decide +kernel
theorem dX10_offOf_24 : decode cX10_offOf 24 = .ok (.iconst 0, 1) := by decide +kernel
theorem dX10_offOf_25 : decode cX10_offOf 25 = .ok (.istore 5, 2) := by decide +kernel
theorem dX10_offOf_27 : decode cX10_offOf 27 = .ok (.iload 5, 2) := by decide +kernel
theorem dX10_offOf_29 : decode cX10_offOf 29 = .ok (.aload_n 0, 1) := by decide +kernel
theorem dX10_offOf_30 : decode cX10_offOf 30 = .ok (.getfield 13, 3) := by decide +kernel
theorem dX10_offOf_33 : decode cX10_offOf 33 = .ok (.if_icmp .ge 33, 3) := by decide +kernel
theorem dX10_offOf_36 : decode cX10_offOf 36 = .ok (.iload 4, 2) := by decide +kernel
theorem dX10_offOf_38 : decode cX10_offOf 38 = .ok (.aload_n 0, 1) := by decide +kernel
theorem dX10_offOf_39 : decode cX10_offOf 39 = .ok (.getfield 19, 3) := by decide +kernel
theorem dX10_offOf_42 : decode cX10_offOf 42 = .ok (.iconst 5, 1) := by decide +kernel
theorem dX10_offOf_43 : decode cX10_offOf 43 = .ok (.iload_n 3, 1) := by decide +kernel
theorem dX10_offOf_44 : decode cX10_offOf 44 = .ok (.imul, 1) := by decide +kernel
theorem dX10_offOf_45 : decode cX10_offOf 45 = .ok (.iload 5, 2) := by decide +kernel
theorem dX10_offOf_47 : decode cX10_offOf 47 = .ok (.iadd, 1) := by decide +kernel
theorem dX10_offOf_48 : decode cX10_offOf 48 = .ok (.iaload, 1) := by decide +kernel
theorem dX10_offOf_49 : decode cX10_offOf 49 = .ok (.aload_n 0, 1) := by decide +kernel
theorem dX10_offOf_50 : decode cX10_offOf 50 = .ok (.iload_n 1, 1) := by decide +kernel
theorem dX10_offOf_51 : decode cX10_offOf 51 = .ok (.iload 5, 2) := by decide +kernel
theorem dX10_offOf_53 : decode cX10_offOf 53 = .ok (.invokevirtual 156, 3) := by decide +kernel
theorem dX10_offOf_56 : decode cX10_offOf 56 = .ok (.imul, 1) := by decide +kernel
theorem dX10_offOf_57 : decode cX10_offOf 57 = .ok (.isub, 1) := by decide +kernel
theorem dX10_offOf_58 : decode cX10_offOf 58 = .ok (.istore 4, 2) := by decide +kernel
theorem dX10_offOf_60 : decode cX10_offOf 60 = .ok (.iinc 5 1, 3) := by decide +kernel
theorem dX10_offOf_63 : decode cX10_offOf 63 = .ok (.goto (-36), 3) := by decide +kernel
theorem dX10_offOf_66 : decode cX10_offOf 66 = .ok (.iload_n 2, 1) := by decide +kernel
theorem dX10_offOf_67 : decode cX10_offOf 67 = .ok (.iload 4, 2) := by decide +kernel
theorem dX10_offOf_69 : decode cX10_offOf 69 = .ok (.iload 4, 2) := by decide +kernel
theorem dX10_offOf_71 : decode cX10_offOf 71 = .ok (.imul, 1) := by decide +kernel
theorem dX10_offOf_72 : decode cX10_offOf 72 = .ok (.iadd, 1) := by decide +kernel
theorem dX10_offOf_73 : decode cX10_offOf 73 = .ok (.istore_n 2, 1) := by decide +kernel
theorem dX10_offOf_74 : decode cX10_offOf 74 = .ok (.iinc 3 1, 3) := by decide +kernel
theorem dX10_offOf_77 : decode cX10_offOf 77 = .ok (.goto (-73), 3) := by decide +kernel
theorem dX10_offOf_80 : decode cX10_offOf 80 = .ok (.iload_n 2, 1) := by decide +kernel
theorem dX10_offOf_81 : decode cX10_offOf 81 = .ok (.ireturn, 1) := by decide +kernel
set_option maxRecDepth 20000 in
theorem ggX10_off_X10_isWord : GoodIn wsX10_off wsX10_isWord := goodIn_r _ [5, 6, 7, 8, 4, 9, 10, 11, 12, 13, 14, 25, 26, 27, 28, 29, 30, 31, 32, 33, 34, 35, 36, 37, 38, 39, 40, 41, 42, 43, 44, 45, 46, 47, 48, 49, 50, 51, 52] (by decide +kernel) (by decide +kernel)
set_option maxRecDepth 20000 in
theorem gX10_off_X10_isWord : GoodIn wsX10_off (wsV RX10 159 RX10 yX10_isWord wsX10_isWord) := goodIn_app (goodIn_of _ (by decide +kernel)) ggX10_off_X10_isWord
set_option maxRecDepth 20000 in
theorem ggX10_off_X10_offOf : GoodIn wsX10_off wsX10_offOf := goodIn_r _ [18, 19, 20, 10, 21, 22, 23, 4, 24, 11, 25, 26, 27, 28, 29, 30, 31, 32, 33, 34, 35, 36, 37, 38, 39, 40, 41, 42, 43, 44, 45, 46, 47, 48, 49, 50, 51, 52] (by decide +kernel) (by decide +kernel)
set_option maxRecDepth 20000 in
theorem gX10_off_X10_offOf : GoodIn wsX10_off (wsV RX10 162 RX10 yX10_offOf wsX10_offOf) := goodIn_app (goodIn_of _ (by decide +kernel)) ggX10_off_X10_offOf
theorem dX10_off_0 : decode cX10_off 0 = .ok (.aload_n 0, 1) := by decide +kernel
theorem dX10_off_1 : decode cX10_off 1 = .ok (.iload_n 1, 1) := by decide +kernel
theorem dX10_off_2 : decode cX10_off 2 = .ok (.invokevirtual 159, 3) := by decide +kernel
theorem dX10_off_5 : decode cX10_off 5 = .ok (.ifCond .eq 11, 3) := by decide +kernel
theorem dX10_off_8 : decode cX10_off 8 = .ok (.aload_n 0, 1) := by decide +kernel
theorem dX10_off_9 : decode cX10_off 9 = .ok (.iload_n 1, 1) := by decide +kernel
theorem dX10_off_10 : decode cX10_off 10 = .ok (.invokevirtual 162, 3) := by decide +kernel
theorem dX10_off_13 : decode cX10_off 13 = .ok (.goto 4, 3) := by decide +kernel
theorem dX10_off_16 : decode cX10_off 16 = .ok (.iconst (-1), 1) := by decide +kernel
theorem dX10_off_17 : decode cX10_off 17 = .ok (.ireturn, 1) := by decide +kernel
set_option maxRecDepth 20000 in
theorem ggX10_offAll_X10_words : GoodIn wsX10_offAll wsX10_words := goodIn_r _ [6, 7, 8, 19, 20, 21, 22, 23, 24, 25, 26, 27, 28, 29, 30, 31, 32, 33, 34, 35, 36, 37, 38, 39, 40, 41, 42, 43, 44, 45, 46] (by decide +kernel) (by decide +kernel)
set_option maxRecDepth 20000 in
theorem gX10_offAll_X10_words : GoodIn wsX10_offAll (wsV RX10 153 RX10 yX10_words wsX10_words) := goodIn_app (goodIn_of _ (by decide +kernel)) ggX10_offAll_X10_words
set_option maxRecDepth 20000 in
theorem ggX10_offAll_X10_offOf : GoodIn wsX10_offAll wsX10_offOf := goodIn_r _ [12, 13, 14, 7, 15, 16, 17, 5, 18, 8, 19, 20, 21, 22, 23, 24, 25, 26, 27, 28, 29, 30, 31, 32, 33, 34, 35, 36, 37, 38, 39, 40, 41, 42, 43, 44, 45, 46] (by decide +kernel) (by decide +kernel)
set_option maxRecDepth 20000 in
theorem gX10_offAll_X10_offOf : GoodIn wsX10_offAll (wsV RX10 162 RX10 yX10_offOf wsX10_offOf) := goodIn_app (goodIn_of _ (by decide +kernel)) ggX10_offAll_X10_offOf
theorem dX10_offAll_0 : decode cX10_offAll 0 = .ok (.iconst 0, 1) := by decide +kernel
theorem dX10_offAll_1 : decode cX10_offAll 1 = .ok (.istore_n 1, 1) := by decide +kernel
theorem dX10_offAll_2 : decode cX10_offAll 2 = .ok (.iload_n 1, 1) := by decide +kernel
theorem dX10_offAll_3 : decode cX10_offAll 3 = .ok (.aload_n 0, 1) := by decide +kernel
theorem dX10_offAll_4 : decode cX10_offAll 4 = .ok (.invokevirtual 153, 3) := by decide +kernel
theorem dX10_offAll_7 : decode cX10_offAll 7 = .ok (.if_icmp .ge 20, 3) := by decide +kernel
theorem dX10_offAll_10 : decode cX10_offAll 10 = .ok (.aload_n 0, 1) := by decide +kernel
theorem dX10_offAll_11 : decode cX10_offAll 11 = .ok (.getfield 38, 3) := by decide +kernel
theorem dX10_offAll_14 : decode cX10_offAll 14 = .ok (.iload_n 1, 1) := by decide +kernel
theorem dX10_offAll_15 : decode cX10_offAll 15 = .ok (.aload_n 0, 1) := by decide +kernel
theorem dX10_offAll_16 : decode cX10_offAll 16 = .ok (.iload_n 1, 1) := by decide +kernel
theorem dX10_offAll_17 : decode cX10_offAll 17 = .ok (.invokevirtual 162, 3) := by decide +kernel
theorem dX10_offAll_20 : decode cX10_offAll 20 = .ok (.iastore, 1) := by decide +kernel
theorem dX10_offAll_21 : decode cX10_offAll 21 = .ok (.iinc 1 1, 3) := by decide +kernel
theorem dX10_offAll_24 : decode cX10_offAll 24 = .ok (.goto (-22), 3) := by decide +kernel
theorem dX10_offAll_27 : decode cX10_offAll 27 = .ok (.return_, 1) := by decide +kernel
set_option maxRecDepth 20000 in
theorem ggX10_nearest_X10_isWord : GoodIn wsX10_nearest wsX10_isWord := goodIn_r _ [6, 7, 8, 9, 5, 10, 11, 12, 13, 14, 15, 30, 31, 32, 33, 34, 35, 36, 37, 38, 39, 40, 41, 42, 43, 44, 45, 46, 47, 48, 49, 50, 51, 52, 53, 54, 55, 56, 57] (by decide +kernel) (by decide +kernel)
set_option maxRecDepth 20000 in
theorem gX10_nearest_X10_isWord : GoodIn wsX10_nearest (wsV RX10 159 RX10 yX10_isWord wsX10_isWord) := goodIn_app (goodIn_of _ (by decide +kernel)) ggX10_nearest_X10_isWord
set_option maxRecDepth 20000 in
theorem ggX10_nearest_X10_offAll : GoodIn wsX10_nearest wsX10_offAll := goodIn_r _ [19, 1, 7, 8, 9, 5, 10, 11, 12, 20, 21, 22, 23, 24, 25, 26, 27, 28, 29, 30, 31, 32, 33, 34, 35, 36, 37, 38, 39, 40, 41, 42, 43, 44, 45, 46, 47, 48, 49, 50, 51, 52, 53, 54, 55, 56, 57] (by decide +kernel) (by decide +kernel)
set_option maxRecDepth 20000 in
theorem gX10_nearest_X10_offAll : GoodIn wsX10_nearest (wsV RX10 165 RX10 yX10_offAll wsX10_offAll) := goodIn_app (goodIn_of _ (by decide +kernel)) ggX10_nearest_X10_offAll
set_option maxRecDepth 20000 in
theorem ggX10_nearest_X10_words : GoodIn wsX10_nearest wsX10_words := goodIn_r _ [10, 11, 12, 30, 31, 32, 33, 34, 35, 36, 37, 38, 39, 40, 41, 42, 43, 44, 45, 46, 47, 48, 49, 50, 51, 52, 53, 54, 55, 56, 57] (by decide +kernel) (by decide +kernel)
set_option maxRecDepth 20000 in
theorem gX10_nearest_X10_words : GoodIn wsX10_nearest (wsV RX10 153 RX10 yX10_words wsX10_words) := goodIn_app (goodIn_of _ (by decide +kernel)) ggX10_nearest_X10_words
theorem dX10_nearest_0 : decode cX10_nearest 0 = .ok (.aload_n 0, 1) := by decide +kernel
theorem dX10_nearest_1 : decode cX10_nearest 1 = .ok (.iload_n 1, 1) := by decide +kernel
theorem dX10_nearest_2 : decode cX10_nearest 2 = .ok (.invokevirtual 159, 3) := by decide +kernel
theorem dX10_nearest_5 : decode cX10_nearest 5 = .ok (.ifCond .ne 5, 3) := by decide +kernel
theorem dX10_nearest_8 : decode cX10_nearest 8 = .ok (.iconst (-1), 1) := by decide +kernel
theorem dX10_nearest_9 : decode cX10_nearest 9 = .ok (.ireturn, 1) := by decide +kernel
theorem dX10_nearest_10 : decode cX10_nearest 10 = .ok (.aload_n 0, 1) := by decide +kernel
theorem dX10_nearest_11 : decode cX10_nearest 11 = .ok (.invokevirtual 165, 3) := by decide +kernel
theorem dX10_nearest_14 : decode cX10_nearest 14 = .ok (.iconst (-1), 1) := by decide +kernel
theorem dX10_nearest_15 : decode cX10_nearest 15 = .ok (.istore_n 2, 1) := by decide +kernel
theorem dX10_nearest_16 : decode cX10_nearest 16 = .ok (.iconst 0, 1) := by decide +kernel
theorem dX10_nearest_17 : decode cX10_nearest 17 = .ok (.istore_n 3, 1) := by decide +kernel
theorem dX10_nearest_18 : decode cX10_nearest 18 = .ok (.iload_n 3, 1) := by decide +kernel
theorem dX10_nearest_19 : decode cX10_nearest 19 = .ok (.aload_n 0, 1) := by decide +kernel
theorem dX10_nearest_20 : decode cX10_nearest 20 = .ok (.invokevirtual 153, 3) := by decide +kernel
theorem dX10_nearest_23 : decode cX10_nearest 23 = .ok (.if_icmp .ge 90, 3) := by decide +kernel
theorem dX10_nearest_26 : decode cX10_nearest 26 = .ok (.iconst 0, 1) := by decide +kernel
theorem dX10_nearest_27 : decode cX10_nearest 27 = .ok (.istore 4, 2) := by decide +kernel
theorem dX10_nearest_29 : decode cX10_nearest 29 = .ok (.iconst 0, 1) := by decide +kernel
theorem dX10_nearest_30 : decode cX10_nearest 30 = .ok (.istore 5, 2) := by decide +kernel
theorem dX10_nearest_32 : decode cX10_nearest 32 = .ok (.iload 5, 2) := by decide +kernel
theorem dX10_nearest_34 : decode cX10_nearest 34 = .ok (.aload_n 0, 1) := by decide +kernel
theorem dX10_nearest_35 : decode cX10_nearest 35 = .ok (.invokevirtual 153, 3) := by decide +kernel
theorem dX10_nearest_38 : decode cX10_nearest 38 = .ok (.if_icmp .ge 57, 3) := by decide +kernel
theorem dX10_nearest_41 : decode cX10_nearest 41 = .ok (.iload 4, 2) := by decide +kernel
theorem dX10_nearest_43 : decode cX10_nearest 43 = .ok (.aload_n 0, 1) := by decide +kernel
theorem dX10_nearest_44 : decode cX10_nearest 44 = .ok (.getfield 38, 3) := by decide +kernel
theorem dX10_nearest_47 : decode cX10_nearest 47 = .ok (.iload 5, 2) := by decide +kernel
theorem dX10_nearest_49 : decode cX10_nearest 49 = .ok (.iaload, 1) := by decide +kernel
theorem dX10_nearest_50 : decode cX10_nearest 50 = .ok (.aload_n 0, 1) := by decide +kernel
theorem dX10_nearest_51 : decode cX10_nearest 51 = .ok (.getfield 38, 3) := by decide +kernel
theorem dX10_nearest_54 : decode cX10_nearest 54 = .ok (.iload_n 3, 1) := by decide +kernel
theorem dX10_nearest_55 : decode cX10_nearest 55 = .ok (.iaload, 1) := by decide +kernel
theorem dX10_nearest_56 : decode cX10_nearest 56 = .ok (.if_icmp .lt 25, 3) := by decide +kernel
theorem dX10_nearest_59 : decode cX10_nearest 59 = .ok (.aload_n 0, 1) := by decide +kernel
theorem dX10_nearest_60 : decode cX10_nearest 60 = .ok (.getfield 38, 3) := by decide +kernel
theorem dX10_nearest_63 : decode cX10_nearest 63 = .ok (.iload 5, 2) := by decide +kernel
theorem dX10_nearest_65 : decode cX10_nearest 65 = .ok (.iaload, 1) := by decide +kernel
theorem dX10_nearest_66 : decode cX10_nearest 66 = .ok (.aload_n 0, 1) := by decide +kernel
theorem dX10_nearest_67 : decode cX10_nearest 67 = .ok (.getfield 38, 3) := by decide +kernel
theorem dX10_nearest_70 : decode cX10_nearest 70 = .ok (.iload_n 3, 1) := by decide +kernel
theorem dX10_nearest_71 : decode cX10_nearest 71 = .ok (.iaload, 1) := by decide +kernel
theorem dX10_nearest_72 : decode cX10_nearest 72 = .ok (.if_icmp .ne 13, 3) := by decide +kernel
theorem dX10_nearest_75 : decode cX10_nearest 75 = .ok (.iload 5, 2) := by decide +kernel
theorem dX10_nearest_77 : decode cX10_nearest 77 = .ok (.iload_n 3, 1) := by decide +kernel
theorem dX10_nearest_78 : decode cX10_nearest 78 = .ok (.if_icmp .ge 7, 3) := by decide +kernel
theorem dX10_nearest_81 : decode cX10_nearest 81 = .ok (.iconst 1, 1) := by decide +kernel
theorem dX10_nearest_82 : decode cX10_nearest 82 = .ok (.goto 4, 3) := by decide +kernel
theorem dX10_nearest_85 : decode cX10_nearest 85 = .ok (.iconst 0, 1) := by decide +kernel
theorem dX10_nearest_86 : decode cX10_nearest 86 = .ok (.iadd, 1) := by decide +kernel
theorem dX10_nearest_87 : decode cX10_nearest 87 = .ok (.istore 4, 2) := by decide +kernel
theorem dX10_nearest_89 : decode cX10_nearest 89 = .ok (.iinc 5 1, 3) := by decide +kernel
theorem dX10_nearest_92 : decode cX10_nearest 92 = .ok (.goto (-60), 3) := by decide +kernel
theorem dX10_nearest_95 : decode cX10_nearest 95 = .ok (.iload 4, 2) := by decide +kernel
theorem dX10_nearest_97 : decode cX10_nearest 97 = .ok (.iload_n 1, 1) := by decide +kernel
theorem dX10_nearest_98 : decode cX10_nearest 98 = .ok (.if_icmp .ne 7, 3) := by decide +kernel
theorem dX10_nearest_101 : decode cX10_nearest 101 = .ok (.iload_n 3, 1) := by decide +kernel
theorem dX10_nearest_102 : decode cX10_nearest 102 = .ok (.goto 4, 3) := by decide +kernel
theorem dX10_nearest_105 : decode cX10_nearest 105 = .ok (.iload_n 2, 1) := by decide +kernel
theorem dX10_nearest_106 : decode cX10_nearest 106 = .ok (.istore_n 2, 1) := by decide +kernel
theorem dX10_nearest_107 : decode cX10_nearest 107 = .ok (.iinc 3 1, 3) := by decide +kernel
theorem dX10_nearest_110 : decode cX10_nearest 110 = .ok (.goto (-92), 3) := by decide +kernel
theorem dX10_nearest_113 : decode cX10_nearest 113 = .ok (.iload_n 2, 1) := by decide +kernel
theorem dX10_nearest_114 : decode cX10_nearest 114 = .ok (.ireturn, 1) := by decide +kernel
theorem dX10_bit_0 : decode cX10_bit 0 = .ok (.iload_n 2, 1) := by decide +kernel
theorem dX10_bit_1 : decode cX10_bit 1 = .ok (.ifCond .ne 13, 3) := by decide +kernel
theorem dX10_bit_4 : decode cX10_bit 4 = .ok (.iload_n 1, 1) := by decide +kernel
theorem dX10_bit_5 : decode cX10_bit 5 = .ok (.ifCond .le 7, 3) := by decide +kernel
theorem dX10_bit_8 : decode cX10_bit 8 = .ok (.iconst 1, 1) := by decide +kernel
theorem dX10_bit_9 : decode cX10_bit 9 = .ok (.goto 4, 3) := by decide +kernel
theorem dX10_bit_12 : decode cX10_bit 12 = .ok (.iconst 0, 1) := by decide +kernel
theorem dX10_bit_13 : decode cX10_bit 13 = .ok (.ireturn, 1) := by decide +kernel
theorem dX10_bit_14 : decode cX10_bit 14 = .ok (.iload_n 1, 1) := by decide +kernel
theorem dX10_bit_15 : decode cX10_bit 15 = .ok (.bipush (-3), 2) := by decide +kernel
theorem dX10_bit_17 : decode cX10_bit 17 = .ok (.if_icmp .eq 8, 3) := by decide +kernel
theorem dX10_bit_20 : decode cX10_bit 20 = .ok (.iload_n 1, 1) := by decide +kernel
theorem dX10_bit_21 : decode cX10_bit 21 = .ok (.iconst 3, 1) := by decide +kernel
theorem dX10_bit_22 : decode cX10_bit 22 = .ok (.if_icmp .ne 7, 3) := by decide +kernel
theorem dX10_bit_25 : decode cX10_bit 25 = .ok (.iconst 0, 1) := by decide +kernel
theorem dX10_bit_26 : decode cX10_bit 26 = .ok (.goto 4, 3) := by decide +kernel
theorem dX10_bit_29 : decode cX10_bit 29 = .ok (.iconst 1, 1) := by decide +kernel
theorem dX10_bit_30 : decode cX10_bit 30 = .ok (.ireturn, 1) := by decide +kernel
set_option maxRecDepth 20000 in
theorem ggX10_soft_X10_isColumn : GoodIn wsX10_soft wsX10_isColumn := goodIn_r _ [8, 9, 10, 11, 7, 12, 35, 36, 37, 38, 39, 40, 41, 42, 43, 44, 45, 46, 47, 48, 49, 50, 51, 52, 53, 54, 55, 56, 57, 58, 59, 60, 61, 62] (by decide +kernel) (by decide +kernel)
set_option maxRecDepth 20000 in
theorem gX10_soft_X10_isColumn : GoodIn wsX10_soft (wsV RX10 90 RX10 yX10_isColumn wsX10_isColumn) := goodIn_app (goodIn_of _ (by decide +kernel)) ggX10_soft_X10_isColumn
set_option maxRecDepth 20000 in
theorem ggX10_soft_X10_in : GoodIn wsX10_soft wsX10_in := goodIn_r _ [12] (by decide +kernel) (by decide +kernel)
set_option maxRecDepth 20000 in
theorem gX10_soft_X10_in : GoodIn wsX10_soft (va_wsS RX10 77 yX10_in wsX10_in) := goodIn_app (goodIn_of _ (by decide +kernel)) ggX10_soft_X10_in
set_option maxRecDepth 20000 in
theorem ggX10_soft_X10_offAll : GoodIn wsX10_soft wsX10_offAll := goodIn_r _ [16, 3, 17, 18, 19, 7, 20, 9, 1, 21, 22, 23, 24, 25, 26, 27, 28, 29, 30, 35, 36, 37, 38, 39, 40, 41, 42, 43, 44, 45, 46, 47, 48, 49, 50, 51, 52, 53, 54, 55, 56, 57, 58, 59, 60, 61, 62] (by decide +kernel) (by decide +kernel)
set_option maxRecDepth 20000 in
theorem gX10_soft_X10_offAll : GoodIn wsX10_soft (wsV RX10 165 RX10 yX10_offAll wsX10_offAll) := goodIn_app (goodIn_of _ (by decide +kernel)) ggX10_soft_X10_offAll
set_option maxRecDepth 20000 in
theorem ggX10_soft_X10_words : GoodIn wsX10_soft wsX10_words := goodIn_r _ [20, 9, 1, 35, 36, 37, 38, 39, 40, 41, 42, 43, 44, 45, 46, 47, 48, 49, 50, 51, 52, 53, 54, 55, 56, 57, 58, 59, 60, 61, 62] (by decide +kernel) (by decide +kernel)
set_option maxRecDepth 20000 in
theorem gX10_soft_X10_words : GoodIn wsX10_soft (wsV RX10 153 RX10 yX10_words wsX10_words) := goodIn_app (goodIn_of _ (by decide +kernel)) ggX10_soft_X10_words
set_option maxRecDepth 20000 in
theorem ggX10_soft_X10_letter : GoodIn wsX10_soft wsX10_letter := goodIn_r _ [30, 9, 1, 35, 36, 37, 38, 39, 40, 41, 42, 43, 44, 45, 46, 47, 48, 49, 50, 51, 52, 53, 54, 55, 56, 57, 58, 59, 60, 61, 62] (by decide +kernel) (by decide +kernel)
set_option maxRecDepth 20000 in
theorem gX10_soft_X10_letter : GoodIn wsX10_soft (wsV RX10 156 RX10 yX10_letter wsX10_letter) := goodIn_app (goodIn_of _ (by decide +kernel)) ggX10_soft_X10_letter
set_option maxRecDepth 20000 in
theorem ggX10_soft_X10_bit : GoodIn wsX10_soft wsX10_bit := goodIn_r _ [34] (by decide +kernel) (by decide +kernel)
set_option maxRecDepth 20000 in
theorem gX10_soft_X10_bit : GoodIn wsX10_soft (wsV RX10 169 RX10 yX10_bit wsX10_bit) := goodIn_app (goodIn_of _ (by decide +kernel)) ggX10_soft_X10_bit
theorem dX10_soft_0 : decode cX10_soft 0 = .ok (.aload_n 0, 1) := by decide +kernel
theorem dX10_soft_1 : decode cX10_soft 1 = .ok (.iload_n 1, 1) := by decide +kernel
theorem dX10_soft_2 : decode cX10_soft 2 = .ok (.invokevirtual 90, 3) := by decide +kernel
theorem dX10_soft_5 : decode cX10_soft 5 = .ok (.ifCond .eq 21, 3) := by decide +kernel
theorem dX10_soft_8 : decode cX10_soft 8 = .ok (.iload_n 2, 1) := by decide +kernel
theorem dX10_soft_9 : decode cX10_soft 9 = .ok (.i2l, 1) := by decide +kernel
theorem dX10_soft_10 : decode cX10_soft 10 = .ok (.lconst 0, 1) := by decide +kernel
theorem dX10_soft_11 : decode cX10_soft 11 = .ok (.aload_n 0, 1) := by decide +kernel
theorem dX10_soft_12 : decode cX10_soft 12 = .ok (.getfield 16, 3) := by decide +kernel
theorem dX10_soft_15 : decode cX10_soft 15 = .ok (.iconst 2, 1) := by decide +kernel
theorem dX10_soft_16 : decode cX10_soft 16 = .ok (.idiv, 1) := by decide +kernel
theorem dX10_soft_17 : decode cX10_soft 17 = .ok (.iconst 1, 1) := by decide +kernel
theorem dX10_soft_18 : decode cX10_soft 18 = .ok (.isub, 1) := by decide +kernel
theorem dX10_soft_19 : decode cX10_soft 19 = .ok (.i2l, 1) := by decide +kernel
theorem dX10_soft_20 : decode cX10_soft 20 = .ok (.invokestatic 77, 3) := by decide +kernel
theorem dX10_soft_23 : decode cX10_soft 23 = .ok (.ifCond .ne 6, 3) := by decide +kernel
theorem dX10_soft_26 : decode cX10_soft 26 = .ok (.ldc 168, 2) := by decide +kernel
theorem dX10_soft_28 : decode cX10_soft 28 = .ok (.ireturn, 1) := by decide +kernel
theorem dX10_soft_29 : decode cX10_soft 29 = .ok (.aload_n 0, 1) := by decide +kernel
theorem dX10_soft_30 : decode cX10_soft 30 = .ok (.invokevirtual 165, 3) := by decide +kernel
theorem dX10_soft_33 : decode cX10_soft 33 = .ok (.iconst (-1), 1) := by decide +kernel
theorem dX10_soft_34 : decode cX10_soft 34 = .ok (.istore_n 3, 1) := by decide +kernel
theorem dX10_soft_35 : decode cX10_soft 35 = .ok (.iconst (-1), 1) := by decide +kernel
theorem dX10_soft_36 : decode cX10_soft 36 = .ok (.istore 4, 2) := by decide +kernel
theorem dX10_soft_38 : decode cX10_soft 38 = .ok (.iconst 0, 1) := by decide +kernel
theorem dX10_soft_39 : decode cX10_soft 39 = .ok (.istore 5, 2) := by decide +kernel
theorem dX10_soft_41 : decode cX10_soft 41 = .ok (.iload 5, 2) := by decide +kernel
theorem dX10_soft_43 : decode cX10_soft 43 = .ok (.aload_n 0, 1) := by decide +kernel
theorem dX10_soft_44 : decode cX10_soft 44 = .ok (.invokevirtual 153, 3) := by decide +kernel
theorem dX10_soft_47 : decode cX10_soft 47 = .ok (.if_icmp .ge 85, 3) := by decide +kernel
theorem dX10_soft_50 : decode cX10_soft 50 = .ok (.aload_n 0, 1) := by decide +kernel
theorem dX10_soft_51 : decode cX10_soft 51 = .ok (.aload_n 0, 1) := by decide +kernel
theorem dX10_soft_52 : decode cX10_soft 52 = .ok (.iload 5, 2) := by decide +kernel
theorem dX10_soft_54 : decode cX10_soft 54 = .ok (.iload_n 1, 1) := by decide +kernel
theorem dX10_soft_55 : decode cX10_soft 55 = .ok (.invokevirtual 156, 3) := by decide +kernel
theorem dX10_soft_58 : decode cX10_soft 58 = .ok (.iload_n 2, 1) := by decide +kernel
theorem dX10_soft_59 : decode cX10_soft 59 = .ok (.invokevirtual 169, 3) := by decide +kernel
theorem dX10_soft_62 : decode cX10_soft 62 = .ok (.ifCond .ne 33, 3) := by decide +kernel
theorem dX10_soft_65 : decode cX10_soft 65 = .ok (.iload_n 3, 1) := by decide +kernel
theorem dX10_soft_66 : decode cX10_soft 66 = .ok (.ifCond .lt 14, 3) := by decide +kernel
theorem dX10_soft_69 : decode cX10_soft 69 = .ok (.aload_n 0, 1) := by decide +kernel
theorem dX10_soft_70 : decode cX10_soft 70 = .ok (.getfield 38, 3) := by decide +kernel
theorem dX10_soft_73 : decode cX10_soft 73 = .ok (.iload 5, 2) := by decide +kernel
theorem dX10_soft_75 : decode cX10_soft 75 = .ok (.iaload, 1) := by decide +kernel
theorem dX10_soft_76 : decode cX10_soft 76 = .ok (.iload_n 3, 1) := by decide +kernel
theorem dX10_soft_77 : decode cX10_soft 77 = .ok (.if_icmp .ge 13, 3) := by decide +kernel
theorem dX10_soft_80 : decode cX10_soft 80 = .ok (.aload_n 0, 1) := by decide +kernel
theorem dX10_soft_81 : decode cX10_soft 81 = .ok (.getfield 38, 3) := by decide +kernel
theorem dX10_soft_84 : decode cX10_soft 84 = .ok (.iload 5, 2) := by decide +kernel
theorem dX10_soft_86 : decode cX10_soft 86 = .ok (.iaload, 1) := by decide +kernel
theorem dX10_soft_87 : decode cX10_soft 87 = .ok (.goto 4, 3) := by decide +kernel
theorem dX10_soft_90 : decode cX10_soft 90 = .ok (.iload_n 3, 1) := by decide +kernel
theorem dX10_soft_91 : decode cX10_soft 91 = .ok (.istore_n 3, 1) := by decide +kernel
theorem dX10_soft_92 : decode cX10_soft 92 = .ok (.goto 34, 3) := by decide +kernel
theorem dX10_soft_95 : decode cX10_soft 95 = .ok (.iload 4, 2) := by decide +kernel
theorem dX10_soft_97 : decode cX10_soft 97 = .ok (.ifCond .lt 15, 3) := by decide +kernel
theorem dX10_soft_100 : decode cX10_soft 100 = .ok (.aload_n 0, 1) := by decide +kernel
theorem dX10_soft_101 : decode cX10_soft 101 = .ok (.getfield 38, 3) := by decide +kernel
theorem dX10_soft_104 : decode cX10_soft 104 = .ok (.iload 5, 2) := by decide +kernel
theorem dX10_soft_106 : decode cX10_soft 106 = .ok (.iaload, 1) := by decide +kernel
theorem dX10_soft_107 : decode cX10_soft 107 = .ok (.iload 4, 2) := by decide +kernel
theorem dX10_soft_109 : decode cX10_soft 109 = .ok (.if_icmp .ge 13, 3) := by decide +kernel
theorem dX10_soft_112 : decode cX10_soft 112 = .ok (.aload_n 0, 1) := by decide +kernel
theorem dX10_soft_113 : decode cX10_soft 113 = .ok (.getfield 38, 3) := by decide +kernel
theorem dX10_soft_116 : decode cX10_soft 116 = .ok (.iload 5, 2) := by decide +kernel
theorem dX10_soft_118 : decode cX10_soft 118 = .ok (.iaload, 1) := by decide +kernel
theorem dX10_soft_119 : decode cX10_soft 119 = .ok (.goto 5, 3) := by decide +kernel
theorem dX10_soft_122 : decode cX10_soft 122 = .ok (.iload 4, 2) := by decide +kernel
theorem dX10_soft_124 : decode cX10_soft 124 = .ok (.istore 4, 2) := by decide +kernel
theorem dX10_soft_126 : decode cX10_soft 126 = .ok (.iinc 5 1, 3) := by decide +kernel
theorem dX10_soft_129 : decode cX10_soft 129 = .ok (.goto (-88), 3) := by decide +kernel
theorem dX10_soft_132 : decode cX10_soft 132 = .ok (.iload 4, 2) := by decide +kernel
theorem dX10_soft_134 : decode cX10_soft 134 = .ok (.iload_n 3, 1) := by decide +kernel
theorem dX10_soft_135 : decode cX10_soft 135 = .ok (.isub, 1) := by decide +kernel
theorem dX10_soft_136 : decode cX10_soft 136 = .ok (.ireturn, 1) := by decide +kernel
theorem dX10_lay_0 : decode cX10_lay 0 = .ok (.iconst 0, 1) := by decide +kernel
theorem dX10_lay_1 : decode cX10_lay 1 = .ok (.istore_n 1, 1) := by decide +kernel
theorem dX10_lay_2 : decode cX10_lay 2 = .ok (.iload_n 1, 1) := by decide +kernel
theorem dX10_lay_3 : decode cX10_lay 3 = .ok (.iconst 4, 1) := by decide +kernel
theorem dX10_lay_4 : decode cX10_lay 4 = .ok (.if_icmp .ge 95, 3) := by decide +kernel
theorem dX10_lay_7 : decode cX10_lay 7 = .ok (.iconst 0, 1) := by decide +kernel
theorem dX10_lay_8 : decode cX10_lay 8 = .ok (.istore_n 2, 1) := by decide +kernel
theorem dX10_lay_9 : decode cX10_lay 9 = .ok (.iload_n 2, 1) := by decide +kernel
theorem dX10_lay_10 : decode cX10_lay 10 = .ok (.iconst 5, 1) := by decide +kernel
theorem dX10_lay_11 : decode cX10_lay 11 = .ok (.if_icmp .ge 49, 3) := by decide +kernel
theorem dX10_lay_14 : decode cX10_lay 14 = .ok (.aload_n 0, 1) := by decide +kernel
theorem dX10_lay_15 : decode cX10_lay 15 = .ok (.getfield 41, 3) := by decide +kernel
theorem dX10_lay_18 : decode cX10_lay 18 = .ok (.iconst 5, 1) := by decide +kernel
theorem dX10_lay_19 : decode cX10_lay 19 = .ok (.iload_n 1, 1) := by decide +kernel
theorem dX10_lay_20 : decode cX10_lay 20 = .ok (.imul, 1) := by decide +kernel
theorem dX10_lay_21 : decode cX10_lay 21 = .ok (.iload_n 2, 1) := by decide +kernel
theorem dX10_lay_22 : decode cX10_lay 22 = .ok (.iadd, 1) := by decide +kernel
theorem dX10_lay_23 : decode cX10_lay 23 = .ok (.iload_n 1, 1) := by decide +kernel
theorem dX10_lay_24 : decode cX10_lay 24 = .ok (.aload_n 0, 1) := by decide +kernel
theorem dX10_lay_25 : decode cX10_lay 25 = .ok (.getfield 13, 3) := by decide +kernel
theorem dX10_lay_28 : decode cX10_lay 28 = .ok (.if_icmp .ge 24, 3) := by decide +kernel
theorem dX10_lay_31 : decode cX10_lay 31 = .ok (.iload_n 2, 1) := by decide +kernel
theorem dX10_lay_32 : decode cX10_lay 32 = .ok (.aload_n 0, 1) := by decide +kernel
theorem dX10_lay_33 : decode cX10_lay 33 = .ok (.getfield 7, 3) := by decide +kernel
theorem dX10_lay_36 : decode cX10_lay 36 = .ok (.if_icmp .ge 16, 3) := by decide +kernel
theorem dX10_lay_39 : decode cX10_lay 39 = .ok (.aload_n 0, 1) := by decide +kernel
theorem dX10_lay_40 : decode cX10_lay 40 = .ok (.getfield 19, 3) := by decide +kernel
theorem dX10_lay_43 : decode cX10_lay 43 = .ok (.iconst 5, 1) := by decide +kernel
theorem dX10_lay_44 : decode cX10_lay 44 = .ok (.iload_n 2, 1) := by decide +kernel
theorem dX10_lay_45 : decode cX10_lay 45 = .ok (.imul, 1) := by decide +kernel
theorem dX10_lay_46 : decode cX10_lay 46 = .ok (.iload_n 1, 1) := by decide +kernel
theorem dX10_lay_47 : decode cX10_lay 47 = .ok (.iadd, 1) := by decide +kernel
theorem dX10_lay_48 : decode cX10_lay 48 = .ok (.iaload, 1) := by decide +kernel
theorem dX10_lay_49 : decode cX10_lay 49 = .ok (.goto 4, 3) := by decide +kernel
theorem dX10_lay_52 : decode cX10_lay 52 = .ok (.iconst 0, 1) := by decide +kernel
theorem dX10_lay_53 : decode cX10_lay 53 = .ok (.iastore, 1) := by decide +kernel
theorem dX10_lay_54 : decode cX10_lay 54 = .ok (.iinc 2 1, 3) := by decide +kernel
theorem dX10_lay_57 : decode cX10_lay 57 = .ok (.goto (-48), 3) := by decide +kernel
theorem dX10_lay_60 : decode cX10_lay 60 = .ok (.iconst 0, 1) := by decide +kernel
theorem dX10_lay_61 : decode cX10_lay 61 = .ok (.istore_n 2, 1) := by decide +kernel
theorem dX10_lay_62 : decode cX10_lay 62 = .ok (.iload_n 2, 1) := by decide +kernel
theorem dX10_lay_63 : decode cX10_lay 63 = .ok (.iconst 4, 1) := by decide +kernel
theorem dX10_lay_64 : decode cX10_lay 64 = .ok (.if_icmp .ge 29, 3) := by decide +kernel
theorem dX10_lay_67 : decode cX10_lay 67 = .ok (.aload_n 0, 1) := by decide +kernel
theorem dX10_lay_68 : decode cX10_lay 68 = .ok (.getfield 44, 3) := by decide +kernel
theorem dX10_lay_71 : decode cX10_lay 71 = .ok (.iconst 4, 1) := by decide +kernel
theorem dX10_lay_72 : decode cX10_lay 72 = .ok (.iload_n 2, 1) := by decide +kernel
theorem dX10_lay_73 : decode cX10_lay 73 = .ok (.imul, 1) := by decide +kernel
theorem dX10_lay_74 : decode cX10_lay 74 = .ok (.iload_n 1, 1) := by decide +kernel
theorem dX10_lay_75 : decode cX10_lay 75 = .ok (.iadd, 1) := by decide +kernel
theorem dX10_lay_76 : decode cX10_lay 76 = .ok (.iload_n 2, 1) := by decide +kernel
theorem dX10_lay_77 : decode cX10_lay 77 = .ok (.iload_n 1, 1) := by decide +kernel
theorem dX10_lay_78 : decode cX10_lay 78 = .ok (.if_icmp .ne 7, 3) := by decide +kernel
theorem dX10_lay_81 : decode cX10_lay 81 = .ok (.iconst 1, 1) := by decide +kernel
theorem dX10_lay_82 : decode cX10_lay 82 = .ok (.goto 4, 3) := by decide +kernel
theorem dX10_lay_85 : decode cX10_lay 85 = .ok (.iconst 0, 1) := by decide +kernel
theorem dX10_lay_86 : decode cX10_lay 86 = .ok (.iastore, 1) := by decide +kernel
theorem dX10_lay_87 : decode cX10_lay 87 = .ok (.iinc 2 1, 3) := by decide +kernel
theorem dX10_lay_90 : decode cX10_lay 90 = .ok (.goto (-28), 3) := by decide +kernel
theorem dX10_lay_93 : decode cX10_lay 93 = .ok (.iinc 1 1, 3) := by decide +kernel
theorem dX10_lay_96 : decode cX10_lay 96 = .ok (.goto (-94), 3) := by decide +kernel
theorem dX10_lay_99 : decode cX10_lay 99 = .ok (.return_, 1) := by decide +kernel
theorem dX10_dot_0 : decode cX10_dot 0 = .ok (.iconst 0, 1) := by decide +kernel
theorem dX10_dot_1 : decode cX10_dot 1 = .ok (.istore_n 3, 1) := by decide +kernel
theorem dX10_dot_2 : decode cX10_dot 2 = .ok (.iconst 0, 1) := by decide +kernel
theorem dX10_dot_3 : decode cX10_dot 3 = .ok (.istore 4, 2) := by decide +kernel
theorem dX10_dot_5 : decode cX10_dot 5 = .ok (.iload 4, 2) := by decide +kernel
theorem dX10_dot_7 : decode cX10_dot 7 = .ok (.iconst 5, 1) := by decide +kernel
theorem dX10_dot_8 : decode cX10_dot 8 = .ok (.if_icmp .ge 35, 3) := by decide +kernel
theorem dX10_dot_11 : decode cX10_dot 11 = .ok (.iload_n 3, 1) := by decide +kernel
theorem dX10_dot_12 : decode cX10_dot 12 = .ok (.aload_n 0, 1) := by decide +kernel
theorem dX10_dot_13 : decode cX10_dot 13 = .ok (.getfield 41, 3) := by decide +kernel
theorem dX10_dot_16 : decode cX10_dot 16 = .ok (.iconst 5, 1) := by decide +kernel
theorem dX10_dot_17 : decode cX10_dot 17 = .ok (.iload_n 1, 1) := by decide +kernel
theorem dX10_dot_18 : decode cX10_dot 18 = .ok (.imul, 1) := by decide +kernel
theorem dX10_dot_19 : decode cX10_dot 19 = .ok (.iload 4, 2) := by decide +kernel
theorem dX10_dot_21 : decode cX10_dot 21 = .ok (.iadd, 1) := by decide +kernel
theorem dX10_dot_22 : decode cX10_dot 22 = .ok (.iaload, 1) := by decide +kernel
theorem dX10_dot_23 : decode cX10_dot 23 = .ok (.aload_n 0, 1) := by decide +kernel
theorem dX10_dot_24 : decode cX10_dot 24 = .ok (.getfield 41, 3) := by decide +kernel
theorem dX10_dot_27 : decode cX10_dot 27 = .ok (.iconst 5, 1) := by decide +kernel
theorem dX10_dot_28 : decode cX10_dot 28 = .ok (.iload_n 2, 1) := by decide +kernel
theorem dX10_dot_29 : decode cX10_dot 29 = .ok (.imul, 1) := by decide +kernel
theorem dX10_dot_30 : decode cX10_dot 30 = .ok (.iload 4, 2) := by decide +kernel
theorem dX10_dot_32 : decode cX10_dot 32 = .ok (.iadd, 1) := by decide +kernel
theorem dX10_dot_33 : decode cX10_dot 33 = .ok (.iaload, 1) := by decide +kernel
theorem dX10_dot_34 : decode cX10_dot 34 = .ok (.imul, 1) := by decide +kernel
theorem dX10_dot_35 : decode cX10_dot 35 = .ok (.iadd, 1) := by decide +kernel
theorem dX10_dot_36 : decode cX10_dot 36 = .ok (.istore_n 3, 1) := by decide +kernel
theorem dX10_dot_37 : decode cX10_dot 37 = .ok (.iinc 4 1, 3) := by decide +kernel
theorem dX10_dot_40 : decode cX10_dot 40 = .ok (.goto (-35), 3) := by decide +kernel
theorem dX10_dot_43 : decode cX10_dot 43 = .ok (.iload_n 3, 1) := by decide +kernel
theorem dX10_dot_44 : decode cX10_dot 44 = .ok (.ireturn, 1) := by decide +kernel
set_option maxRecDepth 20000 in
theorem ggX10_gram_X10_isColumn : GoodIn wsX10_gram wsX10_isColumn := goodIn_r _ [5, 6, 7, 8, 4, 9, 22, 23, 24, 25, 26, 27, 28, 29, 30, 31, 32, 33, 34, 35, 36, 37, 38, 39, 40, 41, 42, 43, 44, 45, 46, 47, 48, 49] (by decide +kernel) (by decide +kernel)
set_option maxRecDepth 20000 in
theorem gX10_gram_X10_isColumn : GoodIn wsX10_gram (wsV RX10 90 RX10 yX10_isColumn wsX10_isColumn) := goodIn_app (goodIn_of _ (by decide +kernel)) ggX10_gram_X10_isColumn
set_option maxRecDepth 20000 in
theorem ggX10_gram_X10_lay : GoodIn wsX10_gram wsX10_lay := goodIn_r _ [13, 14, 6, 15, 16, 17, 22, 23, 24, 25, 26, 27, 28, 29, 30, 31, 32, 33, 34, 35, 36, 37, 38, 39, 40, 41, 42, 43, 44, 45, 46, 47, 48, 49] (by decide +kernel) (by decide +kernel)
set_option maxRecDepth 20000 in
theorem gX10_gram_X10_lay : GoodIn wsX10_gram (wsV RX10 172 RX10 yX10_lay wsX10_lay) := goodIn_app (goodIn_of _ (by decide +kernel)) ggX10_gram_X10_lay
set_option maxRecDepth 20000 in
theorem ggX10_gram_X10_dot : GoodIn wsX10_gram wsX10_dot := goodIn_r _ [21, 14, 22, 23, 24, 25, 26, 27, 28, 29, 30, 31, 32, 33, 34, 35, 36, 37, 38, 39, 40, 41, 42, 43, 44, 45, 46, 47, 48, 49] (by decide +kernel) (by decide +kernel)
set_option maxRecDepth 20000 in
theorem gX10_gram_X10_dot : GoodIn wsX10_gram (wsV RX10 175 RX10 yX10_dot wsX10_dot) := goodIn_app (goodIn_of _ (by decide +kernel)) ggX10_gram_X10_dot
theorem dX10_gram_0 : decode cX10_gram 0 = .ok (.aload_n 0, 1) := by decide +kernel
theorem dX10_gram_1 : decode cX10_gram 1 = .ok (.iload_n 1, 1) := by decide +kernel
theorem dX10_gram_2 : decode cX10_gram 2 = .ok (.invokevirtual 90, 3) := by decide +kernel
theorem dX10_gram_5 : decode cX10_gram 5 = .ok (.ifCond .eq 11, 3) := by decide +kernel
theorem dX10_gram_8 : decode cX10_gram 8 = .ok (.aload_n 0, 1) := by decide +kernel
theorem dX10_gram_9 : decode cX10_gram 9 = .ok (.iload_n 2, 1) := by decide +kernel
theorem dX10_gram_10 : decode cX10_gram 10 = .ok (.invokevirtual 90, 3) := by decide +kernel
theorem dX10_gram_13 : decode cX10_gram 13 = .ok (.ifCond .ne 7, 3) := by decide +kernel
theorem dX10_gram_16 : decode cX10_gram 16 = .ok (.sipush (-10001), 3) := by decide +kernel
theorem dX10_gram_19 : decode cX10_gram 19 = .ok (.ireturn, 1) := by decide +kernel
theorem dX10_gram_20 : decode cX10_gram 20 = .ok (.aload_n 0, 1) := by decide +kernel
theorem dX10_gram_21 : decode cX10_gram 21 = .ok (.invokevirtual 172, 3) := by decide +kernel
theorem dX10_gram_24 : decode cX10_gram 24 = .ok (.aload_n 0, 1) := by decide +kernel
theorem dX10_gram_25 : decode cX10_gram 25 = .ok (.iload_n 1, 1) := by decide +kernel
theorem dX10_gram_26 : decode cX10_gram 26 = .ok (.iload_n 2, 1) := by decide +kernel
theorem dX10_gram_27 : decode cX10_gram 27 = .ok (.invokevirtual 175, 3) := by decide +kernel
theorem dX10_gram_30 : decode cX10_gram 30 = .ok (.ireturn, 1) := by decide +kernel
theorem dX10_determinant_0 : decode cX10_determinant 0 = .ok (.lconst 1, 1) := by decide +kernel
theorem dX10_determinant_1 : decode cX10_determinant 1 = .ok (.lstore_n 2, 1) := by decide +kernel
theorem dX10_determinant_2 : decode cX10_determinant 2 = .ok (.lconst 1, 1) := by decide +kernel
theorem dX10_determinant_3 : decode cX10_determinant 3 = .ok (.lstore 4, 2) := by decide +kernel
theorem dX10_determinant_5 : decode cX10_determinant 5 = .ok (.iconst 0, 1) := by decide +kernel
theorem dX10_determinant_6 : decode cX10_determinant 6 = .ok (.istore 6, 2) := by decide +kernel
theorem dX10_determinant_8 : decode cX10_determinant 8 = .ok (.iload 6, 2) := by decide +kernel
theorem dX10_determinant_10 : decode cX10_determinant 10 = .ok (.iload_n 1, 1) := by decide +kernel
theorem dX10_determinant_11 : decode cX10_determinant 11 = .ok (.if_icmp .ge 249, 3) := by decide +kernel
theorem dX10_determinant_14 : decode cX10_determinant 14 = .ok (.iload 6, 2) := by decide +kernel
theorem dX10_determinant_16 : decode cX10_determinant 16 = .ok (.istore 7, 2) := by decide +kernel
theorem dX10_determinant_18 : decode cX10_determinant 18 = .ok (.iload 7, 2) := by decide +kernel
theorem dX10_determinant_20 : decode cX10_determinant 20 = .ok (.iload_n 1, 1) := by decide +kernel
theorem dX10_determinant_21 : decode cX10_determinant 21 = .ok (.if_icmp .ge 26, 3) := by decide +kernel
theorem dX10_determinant_24 : decode cX10_determinant 24 = .ok (.aload_n 0, 1) := by decide +kernel
theorem dX10_determinant_25 : decode cX10_determinant 25 = .ok (.getfield 47, 3) := by decide +kernel
theorem dX10_determinant_28 : decode cX10_determinant 28 = .ok (.iconst 4, 1) := by decide +kernel
theorem dX10_determinant_29 : decode cX10_determinant 29 = .ok (.iload 7, 2) := by decide +kernel
theorem dX10_determinant_31 : decode cX10_determinant 31 = .ok (.imul, 1) := by decide +kernel
theorem dX10_determinant_32 : decode cX10_determinant 32 = .ok (.iload 6, 2) := by decide +kernel
theorem dX10_determinant_34 : decode cX10_determinant 34 = .ok (.iadd, 1) := by decide +kernel
theorem dX10_determinant_35 : decode cX10_determinant 35 = .ok (.laload, 1) := by decide +kernel
theorem dX10_determinant_36 : decode cX10_determinant 36 = .ok (.lconst 0, 1) := by decide +kernel
theorem dX10_determinant_37 : decode cX10_determinant 37 = .ok (.lcmp, 1) := by decide +kernel
theorem dX10_determinant_38 : decode cX10_determinant 38 = .ok (.ifCond .ne 9, 3) := by decide +kernel
theorem dX10_determinant_41 : decode cX10_determinant 41 = .ok (.iinc 7 1, 3) := by decide +kernel
theorem dX10_determinant_44 : decode cX10_determinant 44 = .ok (.goto (-26), 3) := by decide +kernel
theorem dX10_determinant_47 : decode cX10_determinant 47 = .ok (.iload 7, 2) := by decide +kernel
theorem dX10_determinant_49 : decode cX10_determinant 49 = .ok (.iload_n 1, 1) := by decide +kernel
theorem dX10_determinant_50 : decode cX10_determinant 50 = .ok (.if_icmp .ne 5, 3) := by decide +kernel
theorem dX10_determinant_53 : decode cX10_determinant 53 = .ok (.lconst 0, 1) := by decide +kernel
theorem dX10_determinant_54 : decode cX10_determinant 54 = .ok (.lreturn, 1) := by decide +kernel
theorem dX10_determinant_55 : decode cX10_determinant 55 = .ok (.iconst 0, 1) := by decide +kernel
theorem dX10_determinant_56 : decode cX10_determinant 56 = .ok (.istore 8, 2) := by decide +kernel
theorem dX10_determinant_58 : decode cX10_determinant 58 = .ok (.iload 8, 2) := by decide +kernel
theorem dX10_determinant_60 : decode cX10_determinant 60 = .ok (.iload_n 1, 1) := by decide +kernel
theorem dX10_determinant_61 : decode cX10_determinant 61 = .ok (.if_icmp .ge 61, 3) := by decide +kernel
theorem dX10_determinant_64 : decode cX10_determinant 64 = .ok (.aload_n 0, 1) := by decide +kernel
theorem dX10_determinant_65 : decode cX10_determinant 65 = .ok (.getfield 47, 3) := by decide +kernel
theorem dX10_determinant_68 : decode cX10_determinant 68 = .ok (.iconst 4, 1) := by decide +kernel
theorem dX10_determinant_69 : decode cX10_determinant 69 = .ok (.iload 7, 2) := by decide +kernel
theorem dX10_determinant_71 : decode cX10_determinant 71 = .ok (.imul, 1) := by decide +kernel
theorem dX10_determinant_72 : decode cX10_determinant 72 = .ok (.iload 8, 2) := by decide +kernel
theorem dX10_determinant_74 : decode cX10_determinant 74 = .ok (.iadd, 1) := by decide +kernel
theorem dX10_determinant_75 : decode cX10_determinant 75 = .ok (.laload, 1) := by decide +kernel
theorem dX10_determinant_76 : decode cX10_determinant 76 = .ok (.lstore 9, 2) := by decide +kernel
theorem dX10_determinant_78 : decode cX10_determinant 78 = .ok (.aload_n 0, 1) := by decide +kernel
theorem dX10_determinant_79 : decode cX10_determinant 79 = .ok (.getfield 47, 3) := by decide +kernel
theorem dX10_determinant_82 : decode cX10_determinant 82 = .ok (.iconst 4, 1) := by decide +kernel
theorem dX10_determinant_83 : decode cX10_determinant 83 = .ok (.iload 7, 2) := by decide +kernel
theorem dX10_determinant_85 : decode cX10_determinant 85 = .ok (.imul, 1) := by decide +kernel
theorem dX10_determinant_86 : decode cX10_determinant 86 = .ok (.iload 8, 2) := by decide +kernel
theorem dX10_determinant_88 : decode cX10_determinant 88 = .ok (.iadd, 1) := by decide +kernel
theorem dX10_determinant_89 : decode cX10_determinant 89 = .ok (.aload_n 0, 1) := by decide +kernel
theorem dX10_determinant_90 : decode cX10_determinant 90 = .ok (.getfield 47, 3) := by decide +kernel
theorem dX10_determinant_93 : decode cX10_determinant 93 = .ok (.iconst 4, 1) := by decide +kernel
theorem dX10_determinant_94 : decode cX10_determinant 94 = .ok (.iload 6, 2) := by decide +kernel
theorem dX10_determinant_96 : decode cX10_determinant 96 = .ok (.imul, 1) := by decide +kernel
theorem dX10_determinant_97 : decode cX10_determinant 97 = .ok (.iload 8, 2) := by decide +kernel
theorem dX10_determinant_99 : decode cX10_determinant 99 = .ok (.iadd, 1) := by decide +kernel
theorem dX10_determinant_100 : decode cX10_determinant 100 = .ok (.laload, 1) := by decide +kernel
theorem dX10_determinant_101 : decode cX10_determinant 101 = .ok (.lastore, 1) := by decide +kernel
theorem dX10_determinant_102 : decode cX10_determinant 102 = .ok (.aload_n 0, 1) := by decide +kernel
theorem dX10_determinant_103 : decode cX10_determinant 103 = .ok (.getfield 47, 3) := by decide +kernel
theorem dX10_determinant_106 : decode cX10_determinant 106 = .ok (.iconst 4, 1) := by decide +kernel
theorem dX10_determinant_107 : decode cX10_determinant 107 = .ok (.iload 6, 2) := by decide +kernel
theorem dX10_determinant_109 : decode cX10_determinant 109 = .ok (.imul, 1) := by decide +kernel
theorem dX10_determinant_110 : decode cX10_determinant 110 = .ok (.iload 8, 2) := by decide +kernel
theorem dX10_determinant_112 : decode cX10_determinant 112 = .ok (.iadd, 1) := by decide +kernel
theorem dX10_determinant_113 : decode cX10_determinant 113 = .ok (.lload 9, 2) := by decide +kernel
theorem dX10_determinant_115 : decode cX10_determinant 115 = .ok (.lastore, 1) := by decide +kernel
theorem dX10_determinant_116 : decode cX10_determinant 116 = .ok (.iinc 8 1, 3) := by decide +kernel
theorem dX10_determinant_119 : decode cX10_determinant 119 = .ok (.goto (-61), 3) := by decide +kernel
theorem dX10_determinant_122 : decode cX10_determinant 122 = .ok (.iload 7, 2) := by decide +kernel
theorem dX10_determinant_124 : decode cX10_determinant 124 = .ok (.iload 6, 2) := by decide +kernel
theorem dX10_determinant_126 : decode cX10_determinant 126 = .ok (.if_icmp .ne 8, 3) := by decide +kernel
theorem dX10_determinant_129 : decode cX10_determinant 129 = .ok (.lload 4, 2) := by decide +kernel
theorem dX10_determinant_131 : decode cX10_determinant 131 = .ok (.goto 7, 3) := by decide +kernel
theorem dX10_determinant_134 : decode cX10_determinant 134 = .ok (.lconst 0, 1) := by decide +kernel
theorem dX10_determinant_135 : decode cX10_determinant 135 = .ok (.lload 4, 2) := by decide +kernel
theorem dX10_determinant_137 : decode cX10_determinant 137 = .ok (.lsub, 1) := by decide +kernel
theorem dX10_determinant_138 : decode cX10_determinant 138 = .ok (.lstore 4, 2) := by decide +kernel
theorem dX10_determinant_140 : decode cX10_determinant 140 = .ok (.iload 6, 2) := by decide +kernel
theorem dX10_determinant_142 : decode cX10_determinant 142 = .ok (.iconst 1, 1) := by decide +kernel
theorem dX10_determinant_143 : decode cX10_determinant 143 = .ok (.iadd, 1) := by decide +kernel
theorem dX10_determinant_144 : decode cX10_determinant 144 = .ok (.istore 8, 2) := by decide +kernel
theorem dX10_determinant_146 : decode cX10_determinant 146 = .ok (.iload 8, 2) := by decide +kernel
theorem dX10_determinant_148 : decode cX10_determinant 148 = .ok (.iload_n 1, 1) := by decide +kernel
theorem dX10_determinant_149 : decode cX10_determinant 149 = .ok (.if_icmp .ge 92, 3) := by decide +kernel
theorem dX10_determinant_152 : decode cX10_determinant 152 = .ok (.iload 6, 2) := by decide +kernel
theorem dX10_determinant_154 : decode cX10_determinant 154 = .ok (.iconst 1, 1) := by decide +kernel
theorem dX10_determinant_155 : decode cX10_determinant 155 = .ok (.iadd, 1) := by decide +kernel
theorem dX10_determinant_156 : decode cX10_determinant 156 = .ok (.istore 9, 2) := by decide +kernel
theorem dX10_determinant_158 : decode cX10_determinant 158 = .ok (.iload 9, 2) := by decide +kernel
theorem dX10_determinant_160 : decode cX10_determinant 160 = .ok (.iload_n 1, 1) := by decide +kernel
theorem dX10_determinant_161 : decode cX10_determinant 161 = .ok (.if_icmp .ge 74, 3) := by decide +kernel
theorem dX10_determinant_164 : decode cX10_determinant 164 = .ok (.aload_n 0, 1) := by decide +kernel
theorem dX10_determinant_165 : decode cX10_determinant 165 = .ok (.getfield 47, 3) := by decide +kernel
theorem dX10_determinant_168 : decode cX10_determinant 168 = .ok (.iconst 4, 1) := by decide +kernel
theorem dX10_determinant_169 : decode cX10_determinant 169 = .ok (.iload 8, 2) := by decide +kernel
theorem dX10_determinant_171 : decode cX10_determinant 171 = .ok (.imul, 1) := by decide +kernel
theorem dX10_determinant_172 : decode cX10_determinant 172 = .ok (.iload 9, 2) := by decide +kernel
theorem dX10_determinant_174 : decode cX10_determinant 174 = .ok (.iadd, 1) := by decide +kernel
theorem dX10_determinant_175 : decode cX10_determinant 175 = .ok (.aload_n 0, 1) := by decide +kernel
theorem dX10_determinant_176 : decode cX10_determinant 176 = .ok (.getfield 47, 3) := by decide +kernel
theorem dX10_determinant_179 : decode cX10_determinant 179 = .ok (.iconst 4, 1) := by decide +kernel
theorem dX10_determinant_180 : decode cX10_determinant 180 = .ok (.iload 8, 2) := by decide +kernel
theorem dX10_determinant_182 : decode cX10_determinant 182 = .ok (.imul, 1) := by decide +kernel
theorem dX10_determinant_183 : decode cX10_determinant 183 = .ok (.iload 9, 2) := by decide +kernel
theorem dX10_determinant_185 : decode cX10_determinant 185 = .ok (.iadd, 1) := by decide +kernel
theorem dX10_determinant_186 : decode cX10_determinant 186 = .ok (.laload, 1) := by decide +kernel
theorem dX10_determinant_187 : decode cX10_determinant 187 = .ok (.aload_n 0, 1) := by decide +kernel
theorem dX10_determinant_188 : decode cX10_determinant 188 = .ok (.getfield 47, 3) := by decide +kernel
theorem dX10_determinant_191 : decode cX10_determinant 191 = .ok (.iconst 4, 1) := by decide +kernel
theorem dX10_determinant_192 : decode cX10_determinant 192 = .ok (.iload 6, 2) := by decide +kernel
theorem dX10_determinant_194 : decode cX10_determinant 194 = .ok (.imul, 1) := by decide +kernel
theorem dX10_determinant_195 : decode cX10_determinant 195 = .ok (.iload 6, 2) := by decide +kernel
theorem dX10_determinant_197 : decode cX10_determinant 197 = .ok (.iadd, 1) := by decide +kernel
theorem dX10_determinant_198 : decode cX10_determinant 198 = .ok (.laload, 1) := by decide +kernel
theorem dX10_determinant_199 : decode cX10_determinant 199 = .ok (.lmul, 1) := by decide +kernel
theorem dX10_determinant_200 : decode cX10_determinant 200 = .ok (.aload_n 0, 1) := by decide +kernel
theorem dX10_determinant_201 : decode cX10_determinant 201 = .ok (.getfield 47, 3) := by decide +kernel
theorem dX10_determinant_204 : decode cX10_determinant 204 = .ok (.iconst 4, 1) := by decide +kernel
theorem dX10_determinant_205 : decode cX10_determinant 205 = .ok (.iload 8, 2) := by decide +kernel
theorem dX10_determinant_207 : decode cX10_determinant 207 = .ok (.imul, 1) := by decide +kernel
theorem dX10_determinant_208 : decode cX10_determinant 208 = .ok (.iload 6, 2) := by decide +kernel
theorem dX10_determinant_210 : decode cX10_determinant 210 = .ok (.iadd, 1) := by decide +kernel
theorem dX10_determinant_211 : decode cX10_determinant 211 = .ok (.laload, 1) := by decide +kernel
theorem dX10_determinant_212 : decode cX10_determinant 212 = .ok (.aload_n 0, 1) := by decide +kernel
theorem dX10_determinant_213 : decode cX10_determinant 213 = .ok (.getfield 47, 3) := by decide +kernel
theorem dX10_determinant_216 : decode cX10_determinant 216 = .ok (.iconst 4, 1) := by decide +kernel
theorem dX10_determinant_217 : decode cX10_determinant 217 = .ok (.iload 6, 2) := by decide +kernel
theorem dX10_determinant_219 : decode cX10_determinant 219 = .ok (.imul, 1) := by decide +kernel
theorem dX10_determinant_220 : decode cX10_determinant 220 = .ok (.iload 9, 2) := by decide +kernel
theorem dX10_determinant_222 : decode cX10_determinant 222 = .ok (.iadd, 1) := by decide +kernel
theorem dX10_determinant_223 : decode cX10_determinant 223 = .ok (.laload, 1) := by decide +kernel
theorem dX10_determinant_224 : decode cX10_determinant 224 = .ok (.lmul, 1) := by decide +kernel
theorem dX10_determinant_225 : decode cX10_determinant 225 = .ok (.lsub, 1) := by decide +kernel
theorem dX10_determinant_226 : decode cX10_determinant 226 = .ok (.lload_n 2, 1) := by decide +kernel
theorem dX10_determinant_227 : decode cX10_determinant 227 = .ok (.ldiv, 1) := by decide +kernel
theorem dX10_determinant_228 : decode cX10_determinant 228 = .ok (.lastore, 1) := by decide +kernel
theorem dX10_determinant_229 : decode cX10_determinant 229 = .ok (.iinc 9 1, 3) := by decide +kernel
theorem dX10_determinant_232 : decode cX10_determinant 232 = .ok (.goto (-74), 3) := by decide +kernel
theorem dX10_determinant_235 : decode cX10_determinant 235 = .ok (.iinc 8 1, 3) := by decide +kernel
theorem dX10_determinant_238 : decode cX10_determinant 238 = .ok (.goto (-92), 3) := by decide +kernel
theorem dX10_determinant_241 : decode cX10_determinant 241 = .ok (.aload_n 0, 1) := by decide +kernel
theorem dX10_determinant_242 : decode cX10_determinant 242 = .ok (.getfield 47, 3) := by decide +kernel
theorem dX10_determinant_245 : decode cX10_determinant 245 = .ok (.iconst 4, 1) := by decide +kernel
theorem dX10_determinant_246 : decode cX10_determinant 246 = .ok (.iload 6, 2) := by decide +kernel
theorem dX10_determinant_248 : decode cX10_determinant 248 = .ok (.imul, 1) := by decide +kernel
theorem dX10_determinant_249 : decode cX10_determinant 249 = .ok (.iload 6, 2) := by decide +kernel
theorem dX10_determinant_251 : decode cX10_determinant 251 = .ok (.iadd, 1) := by decide +kernel
theorem dX10_determinant_252 : decode cX10_determinant 252 = .ok (.laload, 1) := by decide +kernel
theorem dX10_determinant_253 : decode cX10_determinant 253 = .ok (.lstore_n 2, 1) := by decide +kernel
theorem dX10_determinant_254 : decode cX10_determinant 254 = .ok (.iinc 6 1, 3) := by decide +kernel
theorem dX10_determinant_257 : decode cX10_determinant 257 = .ok (.goto (-249), 3) := by decide +kernel
theorem dX10_determinant_260 : decode cX10_determinant 260 = .ok (.lload 4, 2) := by decide +kernel
theorem dX10_determinant_262 : decode cX10_determinant 262 = .ok (.lload_n 2, 1) := by decide +kernel
theorem dX10_determinant_263 : decode cX10_determinant 263 = .ok (.lmul, 1) := by decide +kernel
theorem dX10_determinant_264 : decode cX10_determinant 264 = .ok (.lreturn, 1) := by decide +kernel
set_option maxRecDepth 20000 in
theorem ggX10_worthOf_X10_dot : GoodIn wsX10_worthOf wsX10_dot := goodIn_r _ [7, 8, 13, 14, 15, 16, 17, 18, 19, 20, 21, 22, 23, 24, 25, 26, 27, 28, 29, 30, 31, 32, 33, 34, 35, 36, 37, 38, 39, 40] (by decide +kernel) (by decide +kernel)
set_option maxRecDepth 20000 in
theorem gX10_worthOf_X10_dot : GoodIn wsX10_worthOf (wsV RX10 175 RX10 yX10_dot wsX10_dot) := goodIn_app (goodIn_of _ (by decide +kernel)) ggX10_worthOf_X10_dot
set_option maxRecDepth 20000 in
theorem ggX10_worthOf_X10_determinant : GoodIn wsX10_worthOf wsX10_determinant := goodIn_r _ [12, 2, 13, 14, 15, 16, 17, 18, 19, 20, 21, 22, 23, 24, 25, 26, 27, 28, 29, 30, 31, 32, 33, 34, 35, 36, 37, 38, 39, 40] (by decide +kernel) (by decide +kernel)
set_option maxRecDepth 20000 in
theorem gX10_worthOf_X10_determinant : GoodIn wsX10_worthOf (wsV RX10 178 RX10 yX10_determinant wsX10_determinant) := goodIn_app (goodIn_of _ (by decide +kernel)) ggX10_worthOf_X10_determinant
theorem dX10_worthOf_0 : decode cX10_worthOf 0 = .ok (.iconst 0, 1) := by decide +kernel
theorem dX10_worthOf_1 : decode cX10_worthOf 1 = .ok (.istore_n 2, 1) := by decide +kernel
theorem dX10_worthOf_2 : decode cX10_worthOf 2 = .ok (.iconst 0, 1) := by decide +kernel
theorem dX10_worthOf_3 : decode cX10_worthOf 3 = .ok (.istore_n 3, 1) := by decide +kernel
theorem dX10_worthOf_4 : decode cX10_worthOf 4 = .ok (.iload_n 3, 1) := by decide +kernel
theorem dX10_worthOf_5 : decode cX10_worthOf 5 = .ok (.aload_n 0, 1) := by decide +kernel
theorem dX10_worthOf_6 : decode cX10_worthOf 6 = .ok (.getfield 13, 3) := by decide +kernel
theorem dX10_worthOf_9 : decode cX10_worthOf 9 = .ok (.if_icmp .ge 74, 3) := by decide +kernel
theorem dX10_worthOf_12 : decode cX10_worthOf 12 = .ok (.iload_n 1, 1) := by decide +kernel
theorem dX10_worthOf_13 : decode cX10_worthOf 13 = .ok (.iload_n 3, 1) := by decide +kernel
theorem dX10_worthOf_14 : decode cX10_worthOf 14 = .ok (.ishr, 1) := by decide +kernel
theorem dX10_worthOf_15 : decode cX10_worthOf 15 = .ok (.iconst 1, 1) := by decide +kernel
theorem dX10_worthOf_16 : decode cX10_worthOf 16 = .ok (.iand, 1) := by decide +kernel
theorem dX10_worthOf_17 : decode cX10_worthOf 17 = .ok (.iconst 1, 1) := by decide +kernel
theorem dX10_worthOf_18 : decode cX10_worthOf 18 = .ok (.if_icmp .ne 59, 3) := by decide +kernel
theorem dX10_worthOf_21 : decode cX10_worthOf 21 = .ok (.iconst 0, 1) := by decide +kernel
theorem dX10_worthOf_22 : decode cX10_worthOf 22 = .ok (.istore 4, 2) := by decide +kernel
theorem dX10_worthOf_24 : decode cX10_worthOf 24 = .ok (.iconst 0, 1) := by decide +kernel
theorem dX10_worthOf_25 : decode cX10_worthOf 25 = .ok (.istore 5, 2) := by decide +kernel
theorem dX10_worthOf_27 : decode cX10_worthOf 27 = .ok (.iload 5, 2) := by decide +kernel
theorem dX10_worthOf_29 : decode cX10_worthOf 29 = .ok (.aload_n 0, 1) := by decide +kernel
theorem dX10_worthOf_30 : decode cX10_worthOf 30 = .ok (.getfield 13, 3) := by decide +kernel
theorem dX10_worthOf_33 : decode cX10_worthOf 33 = .ok (.if_icmp .ge 41, 3) := by decide +kernel
theorem dX10_worthOf_36 : decode cX10_worthOf 36 = .ok (.iload_n 1, 1) := by decide +kernel
theorem dX10_worthOf_37 : decode cX10_worthOf 37 = .ok (.iload 5, 2) := by decide +kernel
theorem dX10_worthOf_39 : decode cX10_worthOf 39 = .ok (.ishr, 1) := by decide +kernel
