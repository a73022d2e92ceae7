theorem dX0_init_0 : decode cX0_init 0 = .ok (.aload_n 0, 1) := by decide +kernel
theorem dX0_init_1 : decode cX0_init 1 = .ok (.invokespecial 1, 3) := by decide +kernel
theorem dX0_init_4 : decode cX0_init 4 = .ok (.aload_n 0, 1) := by decide +kernel
theorem dX0_init_5 : decode cX0_init 5 = .ok (.bipush 40, 2) := by decide +kernel
theorem dX0_init_7 : decode cX0_init 7 = .ok (.newarray .int, 2) := by decide +kernel
theorem dX0_init_9 : decode cX0_init 9 = .ok (.putfield 9, 3) := by decide +kernel
theorem dX0_init_12 : decode cX0_init 12 = .ok (.aload_n 0, 1) := by decide +kernel
theorem dX0_init_13 : decode cX0_init 13 = .ok (.bipush 40, 2) := by decide +kernel
theorem dX0_init_15 : decode cX0_init 15 = .ok (.newarray .int, 2) := by decide +kernel
theorem dX0_init_17 : decode cX0_init 17 = .ok (.putfield 13, 3) := by decide +kernel
theorem dX0_init_20 : decode cX0_init 20 = .ok (.aload_n 0, 1) := by decide +kernel
theorem dX0_init_21 : decode cX0_init 21 = .ok (.bipush 40, 2) := by decide +kernel
theorem dX0_init_23 : decode cX0_init 23 = .ok (.newarray .int, 2) := by decide +kernel
theorem dX0_init_25 : decode cX0_init 25 = .ok (.putfield 16, 3) := by decide +kernel
theorem dX0_init_28 : decode cX0_init 28 = .ok (.aload_n 0, 1) := by decide +kernel
theorem dX0_init_29 : decode cX0_init 29 = .ok (.bipush 40, 2) := by decide +kernel
theorem dX0_init_31 : decode cX0_init 31 = .ok (.newarray .int, 2) := by decide +kernel
theorem dX0_init_33 : decode cX0_init 33 = .ok (.putfield 19, 3) := by decide +kernel
theorem dX0_init_36 : decode cX0_init 36 = .ok (.aload_n 0, 1) := by decide +kernel
theorem dX0_init_37 : decode cX0_init 37 = .ok (.iconst 0, 1) := by decide +kernel
theorem dX0_init_38 : decode cX0_init 38 = .ok (.putfield 22, 3) := by decide +kernel
theorem dX0_init_41 : decode cX0_init 41 = .ok (.aload_n 0, 1) := by decide +kernel
theorem dX0_init_42 : decode cX0_init 42 = .ok (.iconst 0, 1) := by decide +kernel
theorem dX0_init_43 : decode cX0_init 43 = .ok (.putfield 26, 3) := by decide +kernel
theorem dX0_init_46 : decode cX0_init 46 = .ok (.aload_n 0, 1) := by decide +kernel
theorem dX0_init_47 : decode cX0_init 47 = .ok (.iconst 0, 1) := by decide +kernel
theorem dX0_init_48 : decode cX0_init 48 = .ok (.putfield 29, 3) := by decide +kernel
theorem dX0_init_51 : decode cX0_init 51 = .ok (.aload_n 0, 1) := by decide +kernel
theorem dX0_init_52 : decode cX0_init 52 = .ok (.aload_n 1, 1) := by decide +kernel
theorem dX0_init_53 : decode cX0_init 53 = .ok (.putfield 32, 3) := by decide +kernel
theorem dX0_init_56 : decode cX0_init 56 = .ok (.return_, 1) := by decide +kernel
theorem dX0_forget_0 : decode cX0_forget 0 = .ok (.aload_n 0, 1) := by decide +kernel
theorem dX0_forget_1 : decode cX0_forget 1 = .ok (.iconst 0, 1) := by decide +kernel
theorem dX0_forget_2 : decode cX0_forget 2 = .ok (.putfield 22, 3) := by decide +kernel
theorem dX0_forget_5 : decode cX0_forget 5 = .ok (.aload_n 0, 1) := by decide +kernel
theorem dX0_forget_6 : decode cX0_forget 6 = .ok (.iconst 0, 1) := by decide +kernel
theorem dX0_forget_7 : decode cX0_forget 7 = .ok (.putfield 26, 3) := by decide +kernel
theorem dX0_forget_10 : decode cX0_forget 10 = .ok (.aload_n 0, 1) := by decide +kernel
theorem dX0_forget_11 : decode cX0_forget 11 = .ok (.iconst 0, 1) := by decide +kernel
theorem dX0_forget_12 : decode cX0_forget 12 = .ok (.putfield 29, 3) := by decide +kernel
theorem dX0_forget_15 : decode cX0_forget 15 = .ok (.return_, 1) := by decide +kernel
set_option maxRecDepth 20000 in
theorem ggX0_take_X3_at : GoodIn wsX0_take wsX3_at := goodIn_r _ [13, 14, 15, 16, 30, 31, 32, 33, 34, 35] (by decide +kernel) (by decide +kernel)
set_option maxRecDepth 20000 in
theorem gX0_take_X3_at : GoodIn wsX0_take (wsV RX0 36 RX3 yX3_at wsX3_at) := goodIn_app (goodIn_of _ (by decide +kernel)) ggX0_take_X3_at
set_option maxRecDepth 20000 in
theorem ggX0_take_X3_put : GoodIn wsX0_take wsX3_put := goodIn_r _ [20, 14, 15, 16, 21, 30, 31, 32, 33, 34, 35] (by decide +kernel) (by decide +kernel)
set_option maxRecDepth 20000 in
theorem gX0_take_X3_put : GoodIn wsX0_take (wsV RX0 42 RX3 yX3_put wsX3_put) := goodIn_app (goodIn_of _ (by decide +kernel)) ggX0_take_X3_put
theorem dX0_take_0 : decode cX0_take 0 = .ok (.aload_n 0, 1) := by decide +kernel
theorem dX0_take_1 : decode cX0_take 1 = .ok (.getfield 32, 3) := by decide +kernel
theorem dX0_take_4 : decode cX0_take 4 = .ok (.iload_n 1, 1) := by decide +kernel
theorem dX0_take_5 : decode cX0_take 5 = .ok (.iload_n 2, 1) := by decide +kernel
theorem dX0_take_6 : decode cX0_take 6 = .ok (.invokevirtual 36, 3) := by decide +kernel
theorem dX0_take_9 : decode cX0_take 9 = .ok (.istore 4, 2) := by decide +kernel
theorem dX0_take_11 : decode cX0_take 11 = .ok (.aload_n 0, 1) := by decide +kernel
theorem dX0_take_12 : decode cX0_take 12 = .ok (.getfield 26, 3) := by decide +kernel
theorem dX0_take_15 : decode cX0_take 15 = .ok (.bipush 40, 2) := by decide +kernel
theorem dX0_take_17 : decode cX0_take 17 = .ok (.if_icmp .ne 26, 3) := by decide +kernel
theorem dX0_take_20 : decode cX0_take 20 = .ok (.aload_n 0, 1) := by decide +kernel
theorem dX0_take_21 : decode cX0_take 21 = .ok (.aload_n 0, 1) := by decide +kernel
theorem dX0_take_22 : decode cX0_take 22 = .ok (.getfield 22, 3) := by decide +kernel
theorem dX0_take_25 : decode cX0_take 25 = .ok (.iconst 1, 1) := by decide +kernel
theorem dX0_take_26 : decode cX0_take 26 = .ok (.iadd, 1) := by decide +kernel
theorem dX0_take_27 : decode cX0_take 27 = .ok (.bipush 40, 2) := by decide +kernel
theorem dX0_take_29 : decode cX0_take 29 = .ok (.irem, 1) := by decide +kernel
theorem dX0_take_30 : decode cX0_take 30 = .ok (.putfield 22, 3) := by decide +kernel
theorem dX0_take_33 : decode cX0_take 33 = .ok (.aload_n 0, 1) := by decide +kernel
theorem dX0_take_34 : decode cX0_take 34 = .ok (.dup, 1) := by decide +kernel
theorem dX0_take_35 : decode cX0_take 35 = .ok (.getfield 26, 3) := by decide +kernel
theorem dX0_take_38 : decode cX0_take 38 = .ok (.iconst 1, 1) := by decide +kernel
theorem dX0_take_39 : decode cX0_take 39 = .ok (.isub, 1) := by decide +kernel
theorem dX0_take_40 : decode cX0_take 40 = .ok (.putfield 26, 3) := by decide +kernel
theorem dX0_take_43 : decode cX0_take 43 = .ok (.aload_n 0, 1) := by decide +kernel
theorem dX0_take_44 : decode cX0_take 44 = .ok (.getfield 22, 3) := by decide +kernel
theorem dX0_take_47 : decode cX0_take 47 = .ok (.aload_n 0, 1) := by decide +kernel
theorem dX0_take_48 : decode cX0_take 48 = .ok (.getfield 26, 3) := by decide +kernel
theorem dX0_take_51 : decode cX0_take 51 = .ok (.iadd, 1) := by decide +kernel
theorem dX0_take_52 : decode cX0_take 52 = .ok (.bipush 40, 2) := by decide +kernel
theorem dX0_take_54 : decode cX0_take 54 = .ok (.irem, 1) := by decide +kernel
theorem dX0_take_55 : decode cX0_take 55 = .ok (.istore 5, 2) := by decide +kernel
theorem dX0_take_57 : decode cX0_take 57 = .ok (.aload_n 0, 1) := by decide +kernel
theorem dX0_take_58 : decode cX0_take 58 = .ok (.getfield 9, 3) := by decide +kernel
theorem dX0_take_61 : decode cX0_take 61 = .ok (.iload 5, 2) := by decide +kernel
theorem dX0_take_63 : decode cX0_take 63 = .ok (.iload_n 1, 1) := by decide +kernel
theorem dX0_take_64 : decode cX0_take 64 = .ok (.iastore, 1) := by decide +kernel
theorem dX0_take_65 : decode cX0_take 65 = .ok (.aload_n 0, 1) := by decide +kernel
theorem dX0_take_66 : decode cX0_take 66 = .ok (.getfield 13, 3) := by decide +kernel
theorem dX0_take_69 : decode cX0_take 69 = .ok (.iload 5, 2) := by decide +kernel
theorem dX0_take_71 : decode cX0_take 71 = .ok (.iload_n 2, 1) := by decide +kernel
theorem dX0_take_72 : decode cX0_take 72 = .ok (.iastore, 1) := by decide +kernel
theorem dX0_take_73 : decode cX0_take 73 = .ok (.aload_n 0, 1) := by decide +kernel
theorem dX0_take_74 : decode cX0_take 74 = .ok (.getfield 16, 3) := by decide +kernel
theorem dX0_take_77 : decode cX0_take 77 = .ok (.iload 5, 2) := by decide +kernel
theorem dX0_take_79 : decode cX0_take 79 = .ok (.iload 4, 2) := by decide +kernel
theorem dX0_take_81 : decode cX0_take 81 = .ok (.iastore, 1) := by decide +kernel
theorem dX0_take_82 : decode cX0_take 82 = .ok (.aload_n 0, 1) := by decide +kernel
theorem dX0_take_83 : decode cX0_take 83 = .ok (.getfield 19, 3) := by decide +kernel
theorem dX0_take_86 : decode cX0_take 86 = .ok (.iload 5, 2) := by decide +kernel
theorem dX0_take_88 : decode cX0_take 88 = .ok (.iload_n 3, 1) := by decide +kernel
theorem dX0_take_89 : decode cX0_take 89 = .ok (.iastore, 1) := by decide +kernel
theorem dX0_take_90 : decode cX0_take 90 = .ok (.aload_n 0, 1) := by decide +kernel
theorem dX0_take_91 : decode cX0_take 91 = .ok (.dup, 1) := by decide +kernel
theorem dX0_take_92 : decode cX0_take 92 = .ok (.getfield 26, 3) := by decide +kernel
theorem dX0_take_95 : decode cX0_take 95 = .ok (.iconst 1, 1) := by decide +kernel
theorem dX0_take_96 : decode cX0_take 96 = .ok (.iadd, 1) := by decide +kernel
theorem dX0_take_97 : decode cX0_take 97 = .ok (.putfield 26, 3) := by decide +kernel
theorem dX0_take_100 : decode cX0_take 100 = .ok (.aload_n 0, 1) := by decide +kernel
theorem dX0_take_101 : decode cX0_take 101 = .ok (.iconst 0, 1) := by decide +kernel
theorem dX0_take_102 : decode cX0_take 102 = .ok (.putfield 29, 3) := by decide +kernel
theorem dX0_take_105 : decode cX0_take 105 = .ok (.aload_n 0, 1) := by decide +kernel
theorem dX0_take_106 : decode cX0_take 106 = .ok (.getfield 32, 3) := by decide +kernel
theorem dX0_take_109 : decode cX0_take 109 = .ok (.iload_n 1, 1) := by decide +kernel
theorem dX0_take_110 : decode cX0_take 110 = .ok (.iload_n 2, 1) := by decide +kernel
theorem dX0_take_111 : decode cX0_take 111 = .ok (.iload_n 3, 1) := by decide +kernel
theorem dX0_take_112 : decode cX0_take 112 = .ok (.invokevirtual 42, 3) := by decide +kernel
theorem dX0_take_115 : decode cX0_take 115 = .ok (.iload 4, 2) := by decide +kernel
theorem dX0_take_117 : decode cX0_take 117 = .ok (.ireturn, 1) := by decide +kernel
theorem dX0_canGoBack_0 : decode cX0_canGoBack 0 = .ok (.aload_n 0, 1) := by decide +kernel
theorem dX0_canGoBack_1 : decode cX0_canGoBack 1 = .ok (.getfield 26, 3) := by decide +kernel
theorem dX0_canGoBack_4 : decode cX0_canGoBack 4 = .ok (.ifCond .le 7, 3) := by decide +kernel
theorem dX0_canGoBack_7 : decode cX0_canGoBack 7 = .ok (.iconst 1, 1) := by decide +kernel
theorem dX0_canGoBack_8 : decode cX0_canGoBack 8 = .ok (.goto 4, 3) := by decide +kernel
theorem dX0_canGoBack_11 : decode cX0_canGoBack 11 = .ok (.iconst 0, 1) := by decide +kernel
theorem dX0_canGoBack_12 : decode cX0_canGoBack 12 = .ok (.ireturn, 1) := by decide +kernel
theorem dX0_canGoOn_0 : decode cX0_canGoOn 0 = .ok (.aload_n 0, 1) := by decide +kernel
theorem dX0_canGoOn_1 : decode cX0_canGoOn 1 = .ok (.getfield 29, 3) := by decide +kernel
theorem dX0_canGoOn_4 : decode cX0_canGoOn 4 = .ok (.ifCond .le 7, 3) := by decide +kernel
theorem dX0_canGoOn_7 : decode cX0_canGoOn 7 = .ok (.iconst 1, 1) := by decide +kernel
theorem dX0_canGoOn_8 : decode cX0_canGoOn 8 = .ok (.goto 4, 3) := by decide +kernel
theorem dX0_canGoOn_11 : decode cX0_canGoOn 11 = .ok (.iconst 0, 1) := by decide +kernel
theorem dX0_canGoOn_12 : decode cX0_canGoOn 12 = .ok (.ireturn, 1) := by decide +kernel
set_option maxRecDepth 20000 in
theorem ggX0_goBack_X3_put : GoodIn wsX0_goBack wsX3_put := goodIn_r _ [12, 13, 14, 15, 16, 25, 26, 27, 28, 29, 30] (by decide +kernel) (by decide +kernel)
set_option maxRecDepth 20000 in
theorem gX0_goBack_X3_put : GoodIn wsX0_goBack (wsV RX0 42 RX3 yX3_put wsX3_put) := goodIn_app (goodIn_of _ (by decide +kernel)) ggX0_goBack_X3_put
theorem dX0_goBack_0 : decode cX0_goBack 0 = .ok (.aload_n 0, 1) := by decide +kernel
theorem dX0_goBack_1 : decode cX0_goBack 1 = .ok (.dup, 1) := by decide +kernel
theorem dX0_goBack_2 : decode cX0_goBack 2 = .ok (.getfield 26, 3) := by decide +kernel
theorem dX0_goBack_5 : decode cX0_goBack 5 = .ok (.iconst 1, 1) := by decide +kernel
theorem dX0_goBack_6 : decode cX0_goBack 6 = .ok (.isub, 1) := by decide +kernel
theorem dX0_goBack_7 : decode cX0_goBack 7 = .ok (.putfield 26, 3) := by decide +kernel
theorem dX0_goBack_10 : decode cX0_goBack 10 = .ok (.aload_n 0, 1) := by decide +kernel
theorem dX0_goBack_11 : decode cX0_goBack 11 = .ok (.dup, 1) := by decide +kernel
theorem dX0_goBack_12 : decode cX0_goBack 12 = .ok (.getfield 29, 3) := by decide +kernel
theorem dX0_goBack_15 : decode cX0_goBack 15 = .ok (.iconst 1, 1) := by decide +kernel
theorem dX0_goBack_16 : decode cX0_goBack 16 = .ok (.iadd, 1) := by decide +kernel
theorem dX0_goBack_17 : decode cX0_goBack 17 = .ok (.putfield 29, 3) := by decide +kernel
theorem dX0_goBack_20 : decode cX0_goBack 20 = .ok (.aload_n 0, 1) := by decide +kernel
theorem dX0_goBack_21 : decode cX0_goBack 21 = .ok (.getfield 22, 3) := by decide +kernel
theorem dX0_goBack_24 : decode cX0_goBack 24 = .ok (.aload_n 0, 1) := by decide +kernel
theorem dX0_goBack_25 : decode cX0_goBack 25 = .ok (.getfield 26, 3) := by decide +kernel
theorem dX0_goBack_28 : decode cX0_goBack 28 = .ok (.iadd, 1) := by decide +kernel
theorem dX0_goBack_29 : decode cX0_goBack 29 = .ok (.bipush 40, 2) := by decide +kernel
theorem dX0_goBack_31 : decode cX0_goBack 31 = .ok (.irem, 1) := by decide +kernel
theorem dX0_goBack_32 : decode cX0_goBack 32 = .ok (.istore_n 1, 1) := by decide +kernel
theorem dX0_goBack_33 : decode cX0_goBack 33 = .ok (.aload_n 0, 1) := by decide +kernel
theorem dX0_goBack_34 : decode cX0_goBack 34 = .ok (.getfield 32, 3) := by decide +kernel
theorem dX0_goBack_37 : decode cX0_goBack 37 = .ok (.aload_n 0, 1) := by decide +kernel
theorem dX0_goBack_38 : decode cX0_goBack 38 = .ok (.getfield 9, 3) := by decide +kernel
theorem dX0_goBack_41 : decode cX0_goBack 41 = .ok (.iload_n 1, 1) := by decide +kernel
theorem dX0_goBack_42 : decode cX0_goBack 42 = .ok (.iaload, 1) := by decide +kernel
theorem dX0_goBack_43 : decode cX0_goBack 43 = .ok (.aload_n 0, 1) := by decide +kernel
theorem dX0_goBack_44 : decode cX0_goBack 44 = .ok (.getfield 13, 3) := by decide +kernel
theorem dX0_goBack_47 : decode cX0_goBack 47 = .ok (.iload_n 1, 1) := by decide +kernel
theorem dX0_goBack_48 : decode cX0_goBack 48 = .ok (.iaload, 1) := by decide +kernel
theorem dX0_goBack_49 : decode cX0_goBack 49 = .ok (.aload_n 0, 1) := by decide +kernel
theorem dX0_goBack_50 : decode cX0_goBack 50 = .ok (.getfield 16, 3) := by decide +kernel
theorem dX0_goBack_53 : decode cX0_goBack 53 = .ok (.iload_n 1, 1) := by decide +kernel
theorem dX0_goBack_54 : decode cX0_goBack 54 = .ok (.iaload, 1) := by decide +kernel
theorem dX0_goBack_55 : decode cX0_goBack 55 = .ok (.invokevirtual 42, 3) := by decide +kernel
theorem dX0_goBack_58 : decode cX0_goBack 58 = .ok (.aload_n 0, 1) := by decide +kernel
theorem dX0_goBack_59 : decode cX0_goBack 59 = .ok (.getfield 26, 3) := by decide +kernel
theorem dX0_goBack_62 : decode cX0_goBack 62 = .ok (.ireturn, 1) := by decide +kernel
set_option maxRecDepth 20000 in
theorem ggX0_goOn_X3_put : GoodIn wsX0_goOn wsX3_put := goodIn_r _ [12, 13, 14, 15, 16, 25, 26, 27, 28, 29, 30] (by decide +kernel) (by decide +kernel)
set_option maxRecDepth 20000 in
theorem gX0_goOn_X3_put : GoodIn wsX0_goOn (wsV RX0 42 RX3 yX3_put wsX3_put) := goodIn_app (goodIn_of _ (by decide +kernel)) ggX0_goOn_X3_put
theorem dX0_goOn_0 : decode cX0_goOn 0 = .ok (.aload_n 0, 1) := by decide +kernel
theorem dX0_goOn_1 : decode cX0_goOn 1 = .ok (.getfield 22, 3) := by decide +kernel
theorem dX0_goOn_4 : decode cX0_goOn 4 = .ok (.aload_n 0, 1) := by decide +kernel
theorem dX0_goOn_5 : decode cX0_goOn 5 = .ok (.getfield 26, 3) := by decide +kernel
theorem dX0_goOn_8 : decode cX0_goOn 8 = .ok (.iadd, 1) := by decide +kernel
theorem dX0_goOn_9 : decode cX0_goOn 9 = .ok (.bipush 40, 2) := by decide +kernel
theorem dX0_goOn_11 : decode cX0_goOn 11 = .ok (.irem, 1) := by decide +kernel
theorem dX0_goOn_12 : decode cX0_goOn 12 = .ok (.istore_n 1, 1) := by decide +kernel
theorem dX0_goOn_13 : decode cX0_goOn 13 = .ok (.aload_n 0, 1) := by decide +kernel
theorem dX0_goOn_14 : decode cX0_goOn 14 = .ok (.dup, 1) := by decide +kernel
theorem dX0_goOn_15 : decode cX0_goOn 15 = .ok (.getfield 26, 3) := by decide +kernel
theorem dX0_goOn_18 : decode cX0_goOn 18 = .ok (.iconst 1, 1) := by decide +kernel
theorem dX0_goOn_19 : decode cX0_goOn 19 = .ok (.iadd, 1) := by decide +kernel
theorem dX0_goOn_20 : decode cX0_goOn 20 = .ok (.putfield 26, 3) := by decide +kernel
theorem dX0_goOn_23 : decode cX0_goOn 23 = .ok (.aload_n 0, 1) := by decide +kernel
theorem dX0_goOn_24 : decode cX0_goOn 24 = .ok (.dup, 1) := by decide +kernel
theorem dX0_goOn_25 : decode cX0_goOn 25 = .ok (.getfield 29, 3) := by decide +kernel
theorem dX0_goOn_28 : decode cX0_goOn 28 = .ok (.iconst 1, 1) := by decide +kernel
theorem dX0_goOn_29 : decode cX0_goOn 29 = .ok (.isub, 1) := by decide +kernel
theorem dX0_goOn_30 : decode cX0_goOn 30 = .ok (.putfield 29, 3) := by decide +kernel
theorem dX0_goOn_33 : decode cX0_goOn 33 = .ok (.aload_n 0, 1) := by decide +kernel
theorem dX0_goOn_34 : decode cX0_goOn 34 = .ok (.getfield 32, 3) := by decide +kernel
theorem dX0_goOn_37 : decode cX0_goOn 37 = .ok (.aload_n 0, 1) := by decide +kernel
theorem dX0_goOn_38 : decode cX0_goOn 38 = .ok (.getfield 9, 3) := by decide +kernel
theorem dX0_goOn_41 : decode cX0_goOn 41 = .ok (.iload_n 1, 1) := by decide +kernel
theorem dX0_goOn_42 : decode cX0_goOn 42 = .ok (.iaload, 1) := by decide +kernel
theorem dX0_goOn_43 : decode cX0_goOn 43 = .ok (.aload_n 0, 1) := by decide +kernel
theorem dX0_goOn_44 : decode cX0_goOn 44 = .ok (.getfield 13, 3) := by decide +kernel
theorem dX0_goOn_47 : decode cX0_goOn 47 = .ok (.iload_n 1, 1) := by decide +kernel
theorem dX0_goOn_48 : decode cX0_goOn 48 = .ok (.iaload, 1) := by decide +kernel
theorem dX0_goOn_49 : decode cX0_goOn 49 = .ok (.aload_n 0, 1) := by decide +kernel
theorem dX0_goOn_50 : decode cX0_goOn 50 = .ok (.getfield 19, 3) := by decide +kernel
theorem dX0_goOn_53 : decode cX0_goOn 53 = .ok (.iload_n 1, 1) := by decide +kernel
theorem dX0_goOn_54 : decode cX0_goOn 54 = .ok (.iaload, 1) := by decide +kernel
theorem dX0_goOn_55 : decode cX0_goOn 55 = .ok (.invokevirtual 42, 3) := by decide +kernel
theorem dX0_goOn_58 : decode cX0_goOn 58 = .ok (.aload_n 0, 1) := by decide +kernel
theorem dX0_goOn_59 : decode cX0_goOn 59 = .ok (.getfield 29, 3) := by decide +kernel
theorem dX0_goOn_62 : decode cX0_goOn 62 = .ok (.ireturn, 1) := by decide +kernel
theorem dX1_init_0 : decode cX1_init 0 = .ok (.aload_n 0, 1) := by decide +kernel
theorem dX1_init_1 : decode cX1_init 1 = .ok (.invokespecial 3, 3) := by decide +kernel
theorem dX1_init_4 : decode cX1_init 4 = .ok (.aload_n 0, 1) := by decide +kernel
theorem dX1_init_5 : decode cX1_init 5 = .ok (.iconst 5, 1) := by decide +kernel
theorem dX1_init_6 : decode cX1_init 6 = .ok (.iconst 4, 1) := by decide +kernel
theorem dX1_init_7 : decode cX1_init 7 = .ok (.multianewarray 9 2, 4) := by decide +kernel
theorem dX1_init_11 : decode cX1_init 11 = .ok (.putfield 11, 3) := by decide +kernel
theorem dX1_init_14 : decode cX1_init 14 = .ok (.aload_n 0, 1) := by decide +kernel
theorem dX1_init_15 : decode cX1_init 15 = .ok (.iconst 4, 1) := by decide +kernel
theorem dX1_init_16 : decode cX1_init 16 = .ok (.iconst 4, 1) := by decide +kernel
theorem dX1_init_17 : decode cX1_init 17 = .ok (.multianewarray 9 2, 4) := by decide +kernel
theorem dX1_init_21 : decode cX1_init 21 = .ok (.putfield 16, 3) := by decide +kernel
theorem dX1_init_24 : decode cX1_init 24 = .ok (.aload_n 0, 1) := by decide +kernel
theorem dX1_init_25 : decode cX1_init 25 = .ok (.iconst 5, 1) := by decide +kernel
theorem dX1_init_26 : decode cX1_init 26 = .ok (.newarray .int, 2) := by decide +kernel
theorem dX1_init_28 : decode cX1_init 28 = .ok (.putfield 19, 3) := by decide +kernel
theorem dX1_init_31 : decode cX1_init 31 = .ok (.aload_n 0, 1) := by decide +kernel
theorem dX1_init_32 : decode cX1_init 32 = .ok (.iconst 0, 1) := by decide +kernel
theorem dX1_init_33 : decode cX1_init 33 = .ok (.putfield 23, 3) := by decide +kernel
theorem dX1_init_36 : decode cX1_init 36 = .ok (.aload_n 0, 1) := by decide +kernel
theorem dX1_init_37 : decode cX1_init 37 = .ok (.aload_n 1, 1) := by decide +kernel
theorem dX1_init_38 : decode cX1_init 38 = .ok (.putfield 27, 3) := by decide +kernel
theorem dX1_init_41 : decode cX1_init 41 = .ok (.return_, 1) := by decide +kernel
set_option maxRecDepth 20000 in
theorem ggX1_lead_X1_begin : GoodIn wsX1_lead wsX1_begin := goodIn_r _ [9, 4, 2, 10, 11, 12, 13, 14, 15, 16, 38, 39, 40, 41, 42, 43, 44, 45, 46, 47, 48, 49] (by decide +kernel) (by decide +kernel)
set_option maxRecDepth 20000 in
theorem gX1_lead_X1_begin : GoodIn wsX1_lead (wsV RX1 34 RX1 yX1_begin wsX1_begin) := goodIn_app (goodIn_of _ (by decide +kernel)) ggX1_lead_X1_begin
set_option maxRecDepth 20000 in
theorem ggX1_lead_X1_shortenFirst : GoodIn wsX1_lead wsX1_shortenFirst := goodIn_r _ [20, 2, 21, 22, 23, 24, 8, 25, 11, 26, 27, 28, 29, 30, 31, 32, 33, 34, 35, 36, 37, 16, 38, 39, 40, 41, 42, 43, 44, 45, 46, 47, 48, 49] (by decide +kernel) (by decide +kernel)
set_option maxRecDepth 20000 in
theorem gX1_lead_X1_shortenFirst : GoodIn wsX1_lead (wsV RX1 40 RX1 yX1_shortenFirst wsX1_shortenFirst) := goodIn_app (goodIn_of _ (by decide +kernel)) ggX1_lead_X1_shortenFirst
theorem dX1_lead_0 : decode cX1_lead 0 = .ok (.aload_n 0, 1) := by decide +kernel
theorem dX1_lead_1 : decode cX1_lead 1 = .ok (.getfield 23, 3) := by decide +kernel
theorem dX1_lead_4 : decode cX1_lead 4 = .ok (.aload_n 0, 1) := by decide +kernel
theorem dX1_lead_5 : decode cX1_lead 5 = .ok (.getfield 27, 3) := by decide +kernel
theorem dX1_lead_8 : decode cX1_lead 8 = .ok (.getfield 31, 3) := by decide +kernel
theorem dX1_lead_11 : decode cX1_lead 11 = .ok (.if_icmp .ne 4, 3) := by decide +kernel
theorem dX1_lead_14 : decode cX1_lead 14 = .ok (.return_, 1) := by decide +kernel
theorem dX1_lead_15 : decode cX1_lead 15 = .ok (.aload_n 0, 1) := by decide +kernel
theorem dX1_lead_16 : decode cX1_lead 16 = .ok (.invokevirtual 34, 3) := by decide +kernel
theorem dX1_lead_19 : decode cX1_lead 19 = .ok (.aload_n 0, 1) := by decide +kernel
theorem dX1_lead_20 : decode cX1_lead 20 = .ok (.getfield 37, 3) := by decide +kernel
theorem dX1_lead_23 : decode cX1_lead 23 = .ok (.sipush 2000, 3) := by decide +kernel
theorem dX1_lead_26 : decode cX1_lead 26 = .ok (.if_icmp .ge 23, 3) := by decide +kernel
theorem dX1_lead_29 : decode cX1_lead 29 = .ok (.aload_n 0, 1) := by decide +kernel
theorem dX1_lead_30 : decode cX1_lead 30 = .ok (.invokevirtual 40, 3) := by decide +kernel
theorem dX1_lead_33 : decode cX1_lead 33 = .ok (.ifCond .eq 16, 3) := by decide +kernel
theorem dX1_lead_36 : decode cX1_lead 36 = .ok (.aload_n 0, 1) := by decide +kernel
theorem dX1_lead_37 : decode cX1_lead 37 = .ok (.dup, 1) := by decide +kernel
theorem dX1_lead_38 : decode cX1_lead 38 = .ok (.getfield 37, 3) := by decide +kernel
theorem dX1_lead_41 : decode cX1_lead 41 = .ok (.iconst 1, 1) := by decide +kernel
theorem dX1_lead_42 : decode cX1_lead 42 = .ok (.iadd, 1) := by decide +kernel
theorem dX1_lead_43 : decode cX1_lead 43 = .ok (.putfield 37, 3) := by decide +kernel
theorem dX1_lead_46 : decode cX1_lead 46 = .ok (.goto (-27), 3) := by decide +kernel
theorem dX1_lead_49 : decode cX1_lead 49 = .ok (.aload_n 0, 1) := by decide +kernel
theorem dX1_lead_50 : decode cX1_lead 50 = .ok (.aload_n 0, 1) := by decide +kernel
theorem dX1_lead_51 : decode cX1_lead 51 = .ok (.getfield 27, 3) := by decide +kernel
theorem dX1_lead_54 : decode cX1_lead 54 = .ok (.getfield 31, 3) := by decide +kernel
theorem dX1_lead_57 : decode cX1_lead 57 = .ok (.putfield 23, 3) := by decide +kernel
theorem dX1_lead_60 : decode cX1_lead 60 = .ok (.return_, 1) := by decide +kernel
theorem dX1_begin_0 : decode cX1_begin 0 = .ok (.aload_n 0, 1) := by decide +kernel
theorem dX1_begin_1 : decode cX1_begin 1 = .ok (.iconst 0, 1) := by decide +kernel
theorem dX1_begin_2 : decode cX1_begin 2 = .ok (.putfield 37, 3) := by decide +kernel
theorem dX1_begin_5 : decode cX1_begin 5 = .ok (.iconst 0, 1) := by decide +kernel
theorem dX1_begin_6 : decode cX1_begin 6 = .ok (.istore_n 1, 1) := by decide +kernel
theorem dX1_begin_7 : decode cX1_begin 7 = .ok (.iload_n 1, 1) := by decide +kernel
theorem dX1_begin_8 : decode cX1_begin 8 = .ok (.iconst 5, 1) := by decide +kernel
theorem dX1_begin_9 : decode cX1_begin 9 = .ok (.if_icmp .ge 30, 3) := by decide +kernel
theorem dX1_begin_12 : decode cX1_begin 12 = .ok (.aload_n 0, 1) := by decide +kernel
theorem dX1_begin_13 : decode cX1_begin 13 = .ok (.getfield 27, 3) := by decide +kernel
theorem dX1_begin_16 : decode cX1_begin 16 = .ok (.getfield 44, 3) := by decide +kernel
theorem dX1_begin_19 : decode cX1_begin 19 = .ok (.iload_n 1, 1) := by decide +kernel
theorem dX1_begin_20 : decode cX1_begin 20 = .ok (.aaload, 1) := by decide +kernel
theorem dX1_begin_21 : decode cX1_begin 21 = .ok (.iconst 0, 1) := by decide +kernel
theorem dX1_begin_22 : decode cX1_begin 22 = .ok (.aload_n 0, 1) := by decide +kernel
theorem dX1_begin_23 : decode cX1_begin 23 = .ok (.getfield 11, 3) := by decide +kernel
theorem dX1_begin_26 : decode cX1_begin 26 = .ok (.iload_n 1, 1) := by decide +kernel
theorem dX1_begin_27 : decode cX1_begin 27 = .ok (.aaload, 1) := by decide +kernel
theorem dX1_begin_28 : decode cX1_begin 28 = .ok (.iconst 0, 1) := by decide +kernel
theorem dX1_begin_29 : decode cX1_begin 29 = .ok (.iconst 4, 1) := by decide +kernel
theorem dX1_begin_30 : decode cX1_begin 30 = .ok (.invokestatic 47, 3) := by decide +kernel
theorem dX1_begin_33 : decode cX1_begin 33 = .ok (.iinc 1 1, 3) := by decide +kernel
theorem dX1_begin_36 : decode cX1_begin 36 = .ok (.goto (-29), 3) := by decide +kernel
theorem dX1_begin_39 : decode cX1_begin 39 = .ok (.iconst 0, 1) := by decide +kernel
theorem dX1_begin_40 : decode cX1_begin 40 = .ok (.istore_n 1, 1) := by decide +kernel
theorem dX1_begin_41 : decode cX1_begin 41 = .ok (.iload_n 1, 1) := by decide +kernel
theorem dX1_begin_42 : decode cX1_begin 42 = .ok (.iconst 4, 1) := by decide +kernel
theorem dX1_begin_43 : decode cX1_begin 43 = .ok (.if_icmp .ge 40, 3) := by decide +kernel
theorem dX1_begin_46 : decode cX1_begin 46 = .ok (.iconst 0, 1) := by decide +kernel
theorem dX1_begin_47 : decode cX1_begin 47 = .ok (.istore_n 2, 1) := by decide +kernel
theorem dX1_begin_48 : decode cX1_begin 48 = .ok (.iload_n 2, 1) := by decide +kernel
theorem dX1_begin_49 : decode cX1_begin 49 = .ok (.iconst 4, 1) := by decide +kernel
theorem dX1_begin_50 : decode cX1_begin 50 = .ok (.if_icmp .ge 27, 3) := by decide +kernel
theorem dX1_begin_53 : decode cX1_begin 53 = .ok (.aload_n 0, 1) := by decide +kernel
theorem dX1_begin_54 : decode cX1_begin 54 = .ok (.getfield 16, 3) := by decide +kernel
theorem dX1_begin_57 : decode cX1_begin 57 = .ok (.iload_n 1, 1) := by decide +kernel
theorem dX1_begin_58 : decode cX1_begin 58 = .ok (.aaload, 1) := by decide +kernel
theorem dX1_begin_59 : decode cX1_begin 59 = .ok (.iload_n 2, 1) := by decide +kernel
theorem dX1_begin_60 : decode cX1_begin 60 = .ok (.iload_n 1, 1) := by decide +kernel
theorem dX1_begin_61 : decode cX1_begin 61 = .ok (.iload_n 2, 1) := by decide +kernel
theorem dX1_begin_62 : decode cX1_begin 62 = .ok (.if_icmp .ne 7, 3) := by decide +kernel
theorem dX1_begin_65 : decode cX1_begin 65 = .ok (.iconst 1, 1) := by decide +kernel
theorem dX1_begin_66 : decode cX1_begin 66 = .ok (.goto 4, 3) := by decide +kernel
theorem dX1_begin_69 : decode cX1_begin 69 = .ok (.iconst 0, 1) := by decide +kernel
theorem dX1_begin_70 : decode cX1_begin 70 = .ok (.iastore, 1) := by decide +kernel
theorem dX1_begin_71 : decode cX1_begin 71 = .ok (.iinc 2 1, 3) := by decide +kernel
theorem dX1_begin_74 : decode cX1_begin 74 = .ok (.goto (-26), 3) := by decide +kernel
theorem dX1_begin_77 : decode cX1_begin 77 = .ok (.iinc 1 1, 3) := by decide +kernel
theorem dX1_begin_80 : decode cX1_begin 80 = .ok (.goto (-39), 3) := by decide +kernel
theorem dX1_begin_83 : decode cX1_begin 83 = .ok (.return_, 1) := by decide +kernel
set_option maxRecDepth 20000 in
theorem ggX1_shortenFirst_X1_quotient : GoodIn wsX1_shortenFirst wsX1_quotient := goodIn_r _ [7, 8, 1, 9, 10, 11, 12, 13, 14, 15, 16, 22, 23, 24, 25, 26, 27, 28, 29, 30, 31, 32, 33] (by decide +kernel) (by decide +kernel)
set_option maxRecDepth 20000 in
theorem gX1_shortenFirst_X1_quotient : GoodIn wsX1_shortenFirst (wsV RX1 56 RX1 yX1_quotient wsX1_quotient) := goodIn_app (goodIn_of _ (by decide +kernel)) ggX1_shortenFirst_X1_quotient
set_option maxRecDepth 20000 in
theorem ggX1_shortenFirst_X1_shorten : GoodIn wsX1_shortenFirst wsX1_shorten := goodIn_r _ [20, 1, 9, 8, 2, 21, 22, 23, 24, 25, 26, 27, 28, 29, 30, 31, 32, 33] (by decide +kernel) (by decide +kernel)
set_option maxRecDepth 20000 in
theorem gX1_shortenFirst_X1_shorten : GoodIn wsX1_shortenFirst (wsV RX1 60 RX1 yX1_shorten wsX1_shorten) := goodIn_app (goodIn_of _ (by decide +kernel)) ggX1_shortenFirst_X1_shorten
theorem dX1_shortenFirst_0 : decode cX1_shortenFirst 0 = .ok (.iconst 0, 1) := by decide +kernel
theorem dX1_shortenFirst_1 : decode cX1_shortenFirst 1 = .ok (.istore_n 1, 1) := by decide +kernel
theorem dX1_shortenFirst_2 : decode cX1_shortenFirst 2 = .ok (.iload_n 1, 1) := by decide +kernel
theorem dX1_shortenFirst_3 : decode cX1_shortenFirst 3 = .ok (.aload_n 0, 1) := by decide +kernel
theorem dX1_shortenFirst_4 : decode cX1_shortenFirst 4 = .ok (.getfield 27, 3) := by decide +kernel
theorem dX1_shortenFirst_7 : decode cX1_shortenFirst 7 = .ok (.getfield 53, 3) := by decide +kernel
theorem dX1_shortenFirst_10 : decode cX1_shortenFirst 10 = .ok (.if_icmp .ge 57, 3) := by decide +kernel
theorem dX1_shortenFirst_13 : decode cX1_shortenFirst 13 = .ok (.iconst 0, 1) := by decide +kernel
theorem dX1_shortenFirst_14 : decode cX1_shortenFirst 14 = .ok (.istore_n 2, 1) := by decide +kernel
theorem dX1_shortenFirst_15 : decode cX1_shortenFirst 15 = .ok (.iload_n 2, 1) := by decide +kernel
theorem dX1_shortenFirst_16 : decode cX1_shortenFirst 16 = .ok (.aload_n 0, 1) := by decide +kernel
theorem dX1_shortenFirst_17 : decode cX1_shortenFirst 17 = .ok (.getfield 27, 3) := by decide +kernel
theorem dX1_shortenFirst_20 : decode cX1_shortenFirst 20 = .ok (.getfield 53, 3) := by decide +kernel
theorem dX1_shortenFirst_23 : decode cX1_shortenFirst 23 = .ok (.if_icmp .ge 38, 3) := by decide +kernel
theorem dX1_shortenFirst_26 : decode cX1_shortenFirst 26 = .ok (.iload_n 1, 1) := by decide +kernel
theorem dX1_shortenFirst_27 : decode cX1_shortenFirst 27 = .ok (.iload_n 2, 1) := by decide +kernel
theorem dX1_shortenFirst_28 : decode cX1_shortenFirst 28 = .ok (.if_icmp .ne 7, 3) := by decide +kernel
theorem dX1_shortenFirst_31 : decode cX1_shortenFirst 31 = .ok (.iconst 0, 1) := by decide +kernel
theorem dX1_shortenFirst_32 : decode cX1_shortenFirst 32 = .ok (.goto 9, 3) := by decide +kernel
theorem dX1_shortenFirst_35 : decode cX1_shortenFirst 35 = .ok (.aload_n 0, 1) := by decide +kernel
theorem dX1_shortenFirst_36 : decode cX1_shortenFirst 36 = .ok (.iload_n 1, 1) := by decide +kernel
theorem dX1_shortenFirst_37 : decode cX1_shortenFirst 37 = .ok (.iload_n 2, 1) := by decide +kernel
theorem dX1_shortenFirst_38 : decode cX1_shortenFirst 38 = .ok (.invokevirtual 56, 3) := by decide +kernel
theorem dX1_shortenFirst_41 : decode cX1_shortenFirst 41 = .ok (.istore_n 3, 1) := by decide +kernel
theorem dX1_shortenFirst_42 : decode cX1_shortenFirst 42 = .ok (.iload_n 3, 1) := by decide +kernel
theorem dX1_shortenFirst_43 : decode cX1_shortenFirst 43 = .ok (.ifCond .eq 12, 3) := by decide +kernel
theorem dX1_shortenFirst_46 : decode cX1_shortenFirst 46 = .ok (.aload_n 0, 1) := by decide +kernel
theorem dX1_shortenFirst_47 : decode cX1_shortenFirst 47 = .ok (.iload_n 1, 1) := by decide +kernel
theorem dX1_shortenFirst_48 : decode cX1_shortenFirst 48 = .ok (.iload_n 2, 1) := by decide +kernel
theorem dX1_shortenFirst_49 : decode cX1_shortenFirst 49 = .ok (.iload_n 3, 1) := by decide +kernel
theorem dX1_shortenFirst_50 : decode cX1_shortenFirst 50 = .ok (.invokevirtual 60, 3) := by decide +kernel
theorem dX1_shortenFirst_53 : decode cX1_shortenFirst 53 = .ok (.iconst 1, 1) := by decide +kernel
theorem dX1_shortenFirst_54 : decode cX1_shortenFirst 54 = .ok (.ireturn, 1) := by decide +kernel
theorem dX1_shortenFirst_55 : decode cX1_shortenFirst 55 = .ok (.iinc 2 1, 3) := by decide +kernel
theorem dX1_shortenFirst_58 : decode cX1_shortenFirst 58 = .ok (.goto (-43), 3) := by decide +kernel
theorem dX1_shortenFirst_61 : decode cX1_shortenFirst 61 = .ok (.iinc 1 1, 3) := by decide +kernel
theorem dX1_shortenFirst_64 : decode cX1_shortenFirst 64 = .ok (.goto (-62), 3) := by decide +kernel
theorem dX1_shortenFirst_67 : decode cX1_shortenFirst 67 = .ok (.iconst 0, 1) := by decide +kernel
theorem dX1_shortenFirst_68 : decode cX1_shortenFirst 68 = .ok (.ireturn, 1) := by decide +kernel
set_option maxRecDepth 20000 in
theorem ggX1_quotient_X9_product : GoodIn wsX1_quotient wsX9_product := goodIn_r _ [10] (by decide +kernel) (by decide +kernel)
set_option maxRecDepth 20000 in
theorem gX1_quotient_X9_product_n67 : GoodIn wsX1_quotient (wsX9_product) := ggX1_quotient_X9_product
theorem dX1_quotient_0 : decode cX1_quotient 0 = .ok (.aload_n 0, 1) := by decide +kernel
theorem dX1_quotient_1 : decode cX1_quotient 1 = .ok (.getfield 11, 3) := by decide +kernel
theorem dX1_quotient_4 : decode cX1_quotient 4 = .ok (.aload_n 0, 1) := by decide +kernel
theorem dX1_quotient_5 : decode cX1_quotient 5 = .ok (.getfield 27, 3) := by decide +kernel
theorem dX1_quotient_8 : decode cX1_quotient 8 = .ok (.getfield 64, 3) := by decide +kernel
theorem dX1_quotient_11 : decode cX1_quotient 11 = .ok (.iload_n 2, 1) := by decide +kernel
theorem dX1_quotient_12 : decode cX1_quotient 12 = .ok (.iload_n 2, 1) := by decide +kernel
theorem dX1_quotient_13 : decode cX1_quotient 13 = .ok (.invokestatic 67, 3) := by decide +kernel
theorem dX1_quotient_16 : decode cX1_quotient 16 = .ok (.istore_n 3, 1) := by decide +kernel
theorem dX1_quotient_17 : decode cX1_quotient 17 = .ok (.iload_n 3, 1) := by decide +kernel
theorem dX1_quotient_18 : decode cX1_quotient 18 = .ok (.ifCond .gt 5, 3) := by decide +kernel
theorem dX1_quotient_21 : decode cX1_quotient 21 = .ok (.iconst 0, 1) := by decide +kernel
theorem dX1_quotient_22 : decode cX1_quotient 22 = .ok (.ireturn, 1) := by decide +kernel
theorem dX1_quotient_23 : decode cX1_quotient 23 = .ok (.aload_n 0, 1) := by decide +kernel
theorem dX1_quotient_24 : decode cX1_quotient 24 = .ok (.getfield 11, 3) := by decide +kernel
theorem dX1_quotient_27 : decode cX1_quotient 27 = .ok (.aload_n 0, 1) := by decide +kernel
theorem dX1_quotient_28 : decode cX1_quotient 28 = .ok (.getfield 27, 3) := by decide +kernel
theorem dX1_quotient_31 : decode cX1_quotient 31 = .ok (.getfield 64, 3) := by decide +kernel
theorem dX1_quotient_34 : decode cX1_quotient 34 = .ok (.iload_n 1, 1) := by decide +kernel
theorem dX1_quotient_35 : decode cX1_quotient 35 = .ok (.iload_n 2, 1) := by decide +kernel
theorem dX1_quotient_36 : decode cX1_quotient 36 = .ok (.invokestatic 67, 3) := by decide +kernel
theorem dX1_quotient_39 : decode cX1_quotient 39 = .ok (.istore 4, 2) := by decide +kernel
theorem dX1_quotient_41 : decode cX1_quotient 41 = .ok (.iconst 2, 1) := by decide +kernel
theorem dX1_quotient_42 : decode cX1_quotient 42 = .ok (.iload 4, 2) := by decide +kernel
theorem dX1_quotient_44 : decode cX1_quotient 44 = .ok (.invokestatic 71, 3) := by decide +kernel
theorem dX1_quotient_47 : decode cX1_quotient 47 = .ok (.imul, 1) := by decide +kernel
theorem dX1_quotient_48 : decode cX1_quotient 48 = .ok (.iload_n 3, 1) := by decide +kernel
theorem dX1_quotient_49 : decode cX1_quotient 49 = .ok (.iadd, 1) := by decide +kernel
theorem dX1_quotient_50 : decode cX1_quotient 50 = .ok (.iconst 1, 1) := by decide +kernel
theorem dX1_quotient_51 : decode cX1_quotient 51 = .ok (.isub, 1) := by decide +kernel
theorem dX1_quotient_52 : decode cX1_quotient 52 = .ok (.iconst 2, 1) := by decide +kernel
theorem dX1_quotient_53 : decode cX1_quotient 53 = .ok (.iload_n 3, 1) := by decide +kernel
theorem dX1_quotient_54 : decode cX1_quotient 54 = .ok (.imul, 1) := by decide +kernel
theorem dX1_quotient_55 : decode cX1_quotient 55 = .ok (.idiv, 1) := by decide +kernel
theorem dX1_quotient_56 : decode cX1_quotient 56 = .ok (.istore 5, 2) := by decide +kernel
theorem dX1_quotient_58 : decode cX1_quotient 58 = .ok (.iload 4, 2) := by decide +kernel
theorem dX1_quotient_60 : decode cX1_quotient 60 = .ok (.ifCond .ge 9, 3) := by decide +kernel
theorem dX1_quotient_63 : decode cX1_quotient 63 = .ok (.iload 5, 2) := by decide +kernel
theorem dX1_quotient_65 : decode cX1_quotient 65 = .ok (.ineg, 1) := by decide +kernel
theorem dX1_quotient_66 : decode cX1_quotient 66 = .ok (.goto 5, 3) := by decide +kernel
theorem dX1_quotient_69 : decode cX1_quotient 69 = .ok (.iload 5, 2) := by decide +kernel
theorem dX1_quotient_71 : decode cX1_quotient 71 = .ok (.ireturn, 1) := by decide +kernel
theorem dX1_shorten_0 : decode cX1_shorten 0 = .ok (.iconst 0, 1) := by decide +kernel
theorem dX1_shorten_1 : decode cX1_shorten 1 = .ok (.istore 4, 2) := by decide +kernel
theorem dX1_shorten_3 : decode cX1_shorten 3 = .ok (.iload 4, 2) := by decide +kernel
theorem dX1_shorten_5 : decode cX1_shorten 5 = .ok (.aload_n 0, 1) := by decide +kernel
theorem dX1_shorten_6 : decode cX1_shorten 6 = .ok (.getfield 27, 3) := by decide +kernel
theorem dX1_shorten_9 : decode cX1_shorten 9 = .ok (.getfield 64, 3) := by decide +kernel
theorem dX1_shorten_12 : decode cX1_shorten 12 = .ok (.if_icmp .ge 32, 3) := by decide +kernel
theorem dX1_shorten_15 : decode cX1_shorten 15 = .ok (.aload_n 0, 1) := by decide +kernel
theorem dX1_shorten_16 : decode cX1_shorten 16 = .ok (.getfield 11, 3) := by decide +kernel
theorem dX1_shorten_19 : decode cX1_shorten 19 = .ok (.iload 4, 2) := by decide +kernel
theorem dX1_shorten_21 : decode cX1_shorten 21 = .ok (.aaload, 1) := by decide +kernel
theorem dX1_shorten_22 : decode cX1_shorten 22 = .ok (.iload_n 1, 1) := by decide +kernel
theorem dX1_shorten_23 : decode cX1_shorten 23 = .ok (.dup2, 1) := by decide +kernel
theorem dX1_shorten_24 : decode cX1_shorten 24 = .ok (.iaload, 1) := by decide +kernel
theorem dX1_shorten_25 : decode cX1_shorten 25 = .ok (.iload_n 3, 1) := by decide +kernel
theorem dX1_shorten_26 : decode cX1_shorten 26 = .ok (.aload_n 0, 1) := by decide +kernel
theorem dX1_shorten_27 : decode cX1_shorten 27 = .ok (.getfield 11, 3) := by decide +kernel
theorem dX1_shorten_30 : decode cX1_shorten 30 = .ok (.iload 4, 2) := by decide +kernel
theorem dX1_shorten_32 : decode cX1_shorten 32 = .ok (.aaload, 1) := by decide +kernel
theorem dX1_shorten_33 : decode cX1_shorten 33 = .ok (.iload_n 2, 1) := by decide +kernel
theorem dX1_shorten_34 : decode cX1_shorten 34 = .ok (.iaload, 1) := by decide +kernel
theorem dX1_shorten_35 : decode cX1_shorten 35 = .ok (.imul, 1) := by decide +kernel
theorem dX1_shorten_36 : decode cX1_shorten 36 = .ok (.isub, 1) := by decide +kernel
theorem dX1_shorten_37 : decode cX1_shorten 37 = .ok (.iastore, 1) := by decide +kernel
theorem dX1_shorten_38 : decode cX1_shorten 38 = .ok (.iinc 4 1, 3) := by decide +kernel
theorem dX1_shorten_41 : decode cX1_shorten 41 = .ok (.goto (-38), 3) := by decide +kernel
theorem dX1_shorten_44 : decode cX1_shorten 44 = .ok (.iconst 0, 1) := by decide +kernel
theorem dX1_shorten_45 : decode cX1_shorten 45 = .ok (.istore 4, 2) := by decide +kernel
theorem dX1_shorten_47 : decode cX1_shorten 47 = .ok (.iload 4, 2) := by decide +kernel
theorem dX1_shorten_49 : decode cX1_shorten 49 = .ok (.aload_n 0, 1) := by decide +kernel
theorem dX1_shorten_50 : decode cX1_shorten 50 = .ok (.getfield 27, 3) := by decide +kernel
theorem dX1_shorten_53 : decode cX1_shorten 53 = .ok (.getfield 53, 3) := by decide +kernel
theorem dX1_shorten_56 : decode cX1_shorten 56 = .ok (.if_icmp .ge 32, 3) := by decide +kernel
theorem dX1_shorten_59 : decode cX1_shorten 59 = .ok (.aload_n 0, 1) := by decide +kernel
theorem dX1_shorten_60 : decode cX1_shorten 60 = .ok (.getfield 16, 3) := by decide +kernel
theorem dX1_shorten_63 : decode cX1_shorten 63 = .ok (.iload 4, 2) := by decide +kernel
theorem dX1_shorten_65 : decode cX1_shorten 65 = .ok (.aaload, 1) := by decide +kernel
theorem dX1_shorten_66 : decode cX1_shorten 66 = .ok (.iload_n 1, 1) := by decide +kernel
theorem dX1_shorten_67 : decode cX1_shorten 67 = .ok (.dup2, 1) := by decide +kernel
theorem dX1_shorten_68 : decode cX1_shorten 68 = .ok (.iaload, 1) := by decide +kernel
theorem dX1_shorten_69 : decode cX1_shorten 69 = .ok (.iload_n 3, 1) := by decide +kernel
theorem dX1_shorten_70 : decode cX1_shorten 70 = .ok (.aload_n 0, 1) := by decide +kernel
theorem dX1_shorten_71 : decode cX1_shorten 71 = .ok (.getfield 16, 3) := by decide +kernel
theorem dX1_shorten_74 : decode cX1_shorten 74 = .ok (.iload 4, 2) := by decide +kernel
theorem dX1_shorten_76 : decode cX1_shorten 76 = .ok (.aaload, 1) := by decide +kernel
theorem dX1_shorten_77 : decode cX1_shorten 77 = .ok (.iload_n 2, 1) := by decide +kernel
theorem dX1_shorten_78 : decode cX1_shorten 78 = .ok (.iaload, 1) := by decide +kernel
theorem dX1_shorten_79 : decode cX1_shorten 79 = .ok (.imul, 1) := by decide +kernel
theorem dX1_shorten_80 : decode cX1_shorten 80 = .ok (.isub, 1) := by decide +kernel
theorem dX1_shorten_81 : decode cX1_shorten 81 = .ok (.iastore, 1) := by decide +kernel
theorem dX1_shorten_82 : decode cX1_shorten 82 = .ok (.iinc 4 1, 3) := by decide +kernel
theorem dX1_shorten_85 : decode cX1_shorten 85 = .ok (.goto (-38), 3) := by decide +kernel
theorem dX1_shorten_88 : decode cX1_shorten 88 = .ok (.return_, 1) := by decide +kernel
theorem dX1_aim_0 : decode cX1_aim 0 = .ok (.iconst 0, 1) := by decide +kernel
theorem dX1_aim_1 : decode cX1_aim 1 = .ok (.istore_n 1, 1) := by decide +kernel
theorem dX1_aim_2 : decode cX1_aim 2 = .ok (.iload_n 1, 1) := by decide +kernel
theorem dX1_aim_3 : decode cX1_aim 3 = .ok (.aload_n 0, 1) := by decide +kernel
theorem dX1_aim_4 : decode cX1_aim 4 = .ok (.getfield 27, 3) := by decide +kernel
theorem dX1_aim_7 : decode cX1_aim 7 = .ok (.getfield 64, 3) := by decide +kernel
theorem dX1_aim_10 : decode cX1_aim 10 = .ok (.if_icmp .ge 71, 3) := by decide +kernel
theorem dX1_aim_13 : decode cX1_aim 13 = .ok (.iconst 0, 1) := by decide +kernel
theorem dX1_aim_14 : decode cX1_aim 14 = .ok (.istore_n 2, 1) := by decide +kernel
theorem dX1_aim_15 : decode cX1_aim 15 = .ok (.iconst 0, 1) := by decide +kernel
theorem dX1_aim_16 : decode cX1_aim 16 = .ok (.istore_n 3, 1) := by decide +kernel
theorem dX1_aim_17 : decode cX1_aim 17 = .ok (.iload_n 3, 1) := by decide +kernel
theorem dX1_aim_18 : decode cX1_aim 18 = .ok (.aload_n 0, 1) := by decide +kernel
theorem dX1_aim_19 : decode cX1_aim 19 = .ok (.getfield 27, 3) := by decide +kernel
theorem dX1_aim_22 : decode cX1_aim 22 = .ok (.getfield 53, 3) := by decide +kernel
theorem dX1_aim_25 : decode cX1_aim 25 = .ok (.if_icmp .ge 23, 3) := by decide +kernel
theorem dX1_aim_28 : decode cX1_aim 28 = .ok (.iload_n 2, 1) := by decide +kernel
theorem dX1_aim_29 : decode cX1_aim 29 = .ok (.aload_n 0, 1) := by decide +kernel
theorem dX1_aim_30 : decode cX1_aim 30 = .ok (.getfield 27, 3) := by decide +kernel
theorem dX1_aim_33 : decode cX1_aim 33 = .ok (.getfield 44, 3) := by decide +kernel
theorem dX1_aim_36 : decode cX1_aim 36 = .ok (.iload_n 1, 1) := by decide +kernel
theorem dX1_aim_37 : decode cX1_aim 37 = .ok (.aaload, 1) := by decide +kernel
theorem dX1_aim_38 : decode cX1_aim 38 = .ok (.iload_n 3, 1) := by decide +kernel
theorem dX1_aim_39 : decode cX1_aim 39 = .ok (.iaload, 1) := by decide +kernel
theorem dX1_aim_40 : decode cX1_aim 40 = .ok (.iadd, 1) := by decide +kernel
theorem dX1_aim_41 : decode cX1_aim 41 = .ok (.istore_n 2, 1) := by decide +kernel
theorem dX1_aim_42 : decode cX1_aim 42 = .ok (.iinc 3 1, 3) := by decide +kernel
theorem dX1_aim_45 : decode cX1_aim 45 = .ok (.goto (-28), 3) := by decide +kernel
theorem dX1_aim_48 : decode cX1_aim 48 = .ok (.aload_n 0, 1) := by decide +kernel
theorem dX1_aim_49 : decode cX1_aim 49 = .ok (.getfield 19, 3) := by decide +kernel
theorem dX1_aim_52 : decode cX1_aim 52 = .ok (.iload_n 1, 1) := by decide +kernel
theorem dX1_aim_53 : decode cX1_aim 53 = .ok (.aload_n 0, 1) := by decide +kernel
theorem dX1_aim_54 : decode cX1_aim 54 = .ok (.getfield 27, 3) := by decide +kernel
theorem dX1_aim_57 : decode cX1_aim 57 = .ok (.getfield 77, 3) := by decide +kernel
theorem dX1_aim_60 : decode cX1_aim 60 = .ok (.iload_n 1, 1) := by decide +kernel
theorem dX1_aim_61 : decode cX1_aim 61 = .ok (.iaload, 1) := by decide +kernel
theorem dX1_aim_62 : decode cX1_aim 62 = .ok (.aload_n 0, 1) := by decide +kernel
theorem dX1_aim_63 : decode cX1_aim 63 = .ok (.getfield 27, 3) := by decide +kernel
theorem dX1_aim_66 : decode cX1_aim 66 = .ok (.getfield 80, 3) := by decide +kernel
theorem dX1_aim_69 : decode cX1_aim 69 = .ok (.iconst 1, 1) := by decide +kernel
theorem dX1_aim_70 : decode cX1_aim 70 = .ok (.isub, 1) := by decide +kernel
theorem dX1_aim_71 : decode cX1_aim 71 = .ok (.iload_n 2, 1) := by decide +kernel
theorem dX1_aim_72 : decode cX1_aim 72 = .ok (.imul, 1) := by decide +kernel
theorem dX1_aim_73 : decode cX1_aim 73 = .ok (.iadd, 1) := by decide +kernel
theorem dX1_aim_74 : decode cX1_aim 74 = .ok (.iastore, 1) := by decide +kernel
theorem dX1_aim_75 : decode cX1_aim 75 = .ok (.iinc 1 1, 3) := by decide +kernel
theorem dX1_aim_78 : decode cX1_aim 78 = .ok (.goto (-76), 3) := by decide +kernel
theorem dX1_aim_81 : decode cX1_aim 81 = .ok (.return_, 1) := by decide +kernel
theorem dX2_init_0 : decode cX2_init 0 = .ok (.aload_n 0, 1) := by decide +kernel
theorem dX2_init_1 : decode cX2_init 1 = .ok (.invokespecial 3, 3) := by decide +kernel
theorem dX2_init_4 : decode cX2_init 4 = .ok (.aload_n 0, 1) := by decide +kernel
theorem dX2_init_5 : decode cX2_init 5 = .ok (.iconst 4, 1) := by decide +kernel
theorem dX2_init_6 : decode cX2_init 6 = .ok (.iconst 4, 1) := by decide +kernel
theorem dX2_init_7 : decode cX2_init 7 = .ok (.multianewarray 9 2, 4) := by decide +kernel
theorem dX2_init_11 : decode cX2_init 11 = .ok (.putfield 11, 3) := by decide +kernel
theorem dX2_init_14 : decode cX2_init 14 = .ok (.aload_n 0, 1) := by decide +kernel
theorem dX2_init_15 : decode cX2_init 15 = .ok (.iconst 4, 1) := by decide +kernel
theorem dX2_init_16 : decode cX2_init 16 = .ok (.newarray .long, 2) := by decide +kernel
theorem dX2_init_18 : decode cX2_init 18 = .ok (.putfield 16, 3) := by decide +kernel
theorem dX2_init_21 : decode cX2_init 21 = .ok (.aload_n 0, 1) := by decide +kernel
theorem dX2_init_22 : decode cX2_init 22 = .ok (.iconst 4, 1) := by decide +kernel
theorem dX2_init_23 : decode cX2_init 23 = .ok (.newarray .int, 2) := by decide +kernel
theorem dX2_init_25 : decode cX2_init 25 = .ok (.putfield 20, 3) := by decide +kernel
theorem dX2_init_28 : decode cX2_init 28 = .ok (.aload_n 0, 1) := by decide +kernel
theorem dX2_init_29 : decode cX2_init 29 = .ok (.iconst 4, 1) := by decide +kernel
theorem dX2_init_30 : decode cX2_init 30 = .ok (.newarray .long, 2) := by decide +kernel
theorem dX2_init_32 : decode cX2_init 32 = .ok (.putfield 24, 3) := by decide +kernel
theorem dX2_init_35 : decode cX2_init 35 = .ok (.return_, 1) := by decide +kernel
set_option maxRecDepth 20000 in
theorem ggX2_worthOf_X9_product : GoodIn wsX2_worthOf wsX9_product := goodIn_r _ [8] (by decide +kernel) (by decide +kernel)
set_option maxRecDepth 20000 in
theorem gX2_worthOf_X9_product_n40 : GoodIn wsX2_worthOf (wsX9_product) := ggX2_worthOf_X9_product
set_option maxRecDepth 20000 in
theorem ggX2_worthOf_X2_determinant : GoodIn wsX2_worthOf wsX2_determinant := goodIn_r _ [12, 9, 10, 11] (by decide +kernel) (by decide +kernel)
set_option maxRecDepth 20000 in
theorem gX2_worthOf_X2_determinant : GoodIn wsX2_worthOf (va_wsS RX2 44 yX2_determinant wsX2_determinant) := goodIn_app (goodIn_of _ (by decide +kernel)) ggX2_worthOf_X2_determinant
theorem dX2_worthOf_0 : decode cX2_worthOf 0 = .ok (.iconst 0, 1) := by decide +kernel
theorem dX2_worthOf_1 : decode cX2_worthOf 1 = .ok (.istore_n 3, 1) := by decide +kernel
theorem dX2_worthOf_2 : decode cX2_worthOf 2 = .ok (.iconst 0, 1) := by decide +kernel
theorem dX2_worthOf_3 : decode cX2_worthOf 3 = .ok (.istore 4, 2) := by decide +kernel
theorem dX2_worthOf_5 : decode cX2_worthOf 5 = .ok (.iload 4, 2) := by decide +kernel
theorem dX2_worthOf_7 : decode cX2_worthOf 7 = .ok (.aload_n 1, 1) := by decide +kernel
theorem dX2_worthOf_8 : decode cX2_worthOf 8 = .ok (.getfield 27, 3) := by decide +kernel
theorem dX2_worthOf_11 : decode cX2_worthOf 11 = .ok (.if_icmp .ge 30, 3) := by decide +kernel
theorem dX2_worthOf_14 : decode cX2_worthOf 14 = .ok (.iload_n 2, 1) := by decide +kernel
theorem dX2_worthOf_15 : decode cX2_worthOf 15 = .ok (.iload 4, 2) := by decide +kernel
theorem dX2_worthOf_17 : decode cX2_worthOf 17 = .ok (.ishr, 1) := by decide +kernel
theorem dX2_worthOf_18 : decode cX2_worthOf 18 = .ok (.iconst 1, 1) := by decide +kernel
theorem dX2_worthOf_19 : decode cX2_worthOf 19 = .ok (.iand, 1) := by decide +kernel
theorem dX2_worthOf_20 : decode cX2_worthOf 20 = .ok (.iconst 1, 1) := by decide +kernel
theorem dX2_worthOf_21 : decode cX2_worthOf 21 = .ok (.if_icmp .ne 14, 3) := by decide +kernel
theorem dX2_worthOf_24 : decode cX2_worthOf 24 = .ok (.aload_n 0, 1) := by decide +kernel
theorem dX2_worthOf_25 : decode cX2_worthOf 25 = .ok (.getfield 20, 3) := by decide +kernel
theorem dX2_worthOf_28 : decode cX2_worthOf 28 = .ok (.iload_n 3, 1) := by decide +kernel
theorem dX2_worthOf_29 : decode cX2_worthOf 29 = .ok (.iload 4, 2) := by decide +kernel
theorem dX2_worthOf_31 : decode cX2_worthOf 31 = .ok (.iastore, 1) := by decide +kernel
theorem dX2_worthOf_32 : decode cX2_worthOf 32 = .ok (.iinc 3 1, 3) := by decide +kernel
theorem dX2_worthOf_35 : decode cX2_worthOf 35 = .ok (.iinc 4 1, 3) := by decide +kernel
theorem dX2_worthOf_38 : decode cX2_worthOf 38 = .ok (.goto (-33), 3) := by decide +kernel
theorem dX2_worthOf_41 : decode cX2_worthOf 41 = .ok (.iconst 0, 1) := by decide +kernel
theorem dX2_worthOf_42 : decode cX2_worthOf 42 = .ok (.istore 4, 2) := by decide +kernel
theorem dX2_worthOf_44 : decode cX2_worthOf 44 = .ok (.iload 4, 2) := by decide +kernel
theorem dX2_worthOf_46 : decode cX2_worthOf 46 = .ok (.iload_n 3, 1) := by decide +kernel
theorem dX2_worthOf_47 : decode cX2_worthOf 47 = .ok (.if_icmp .ge 60, 3) := by decide +kernel
theorem dX2_worthOf_50 : decode cX2_worthOf 50 = .ok (.iconst 0, 1) := by decide +kernel
theorem dX2_worthOf_51 : decode cX2_worthOf 51 = .ok (.istore 5, 2) := by decide +kernel
theorem dX2_worthOf_53 : decode cX2_worthOf 53 = .ok (.iload 5, 2) := by decide +kernel
theorem dX2_worthOf_55 : decode cX2_worthOf 55 = .ok (.iload_n 3, 1) := by decide +kernel
theorem dX2_worthOf_56 : decode cX2_worthOf 56 = .ok (.if_icmp .ge 45, 3) := by decide +kernel
theorem dX2_worthOf_59 : decode cX2_worthOf 59 = .ok (.aload_n 0, 1) := by decide +kernel
theorem dX2_worthOf_60 : decode cX2_worthOf 60 = .ok (.getfield 11, 3) := by decide +kernel
theorem dX2_worthOf_63 : decode cX2_worthOf 63 = .ok (.iload 4, 2) := by decide +kernel
theorem dX2_worthOf_65 : decode cX2_worthOf 65 = .ok (.aaload, 1) := by decide +kernel
theorem dX2_worthOf_66 : decode cX2_worthOf 66 = .ok (.iload 5, 2) := by decide +kernel
theorem dX2_worthOf_68 : decode cX2_worthOf 68 = .ok (.aload_n 1, 1) := by decide +kernel
theorem dX2_worthOf_69 : decode cX2_worthOf 69 = .ok (.getfield 33, 3) := by decide +kernel
theorem dX2_worthOf_72 : decode cX2_worthOf 72 = .ok (.aload_n 1, 1) := by decide +kernel
theorem dX2_worthOf_73 : decode cX2_worthOf 73 = .ok (.getfield 37, 3) := by decide +kernel
theorem dX2_worthOf_76 : decode cX2_worthOf 76 = .ok (.aload_n 0, 1) := by decide +kernel
theorem dX2_worthOf_77 : decode cX2_worthOf 77 = .ok (.getfield 20, 3) := by decide +kernel
theorem dX2_worthOf_80 : decode cX2_worthOf 80 = .ok (.iload 4, 2) := by decide +kernel
theorem dX2_worthOf_82 : decode cX2_worthOf 82 = .ok (.iaload, 1) := by decide +kernel
theorem dX2_worthOf_83 : decode cX2_worthOf 83 = .ok (.aload_n 0, 1) := by decide +kernel
theorem dX2_worthOf_84 : decode cX2_worthOf 84 = .ok (.getfield 20, 3) := by decide +kernel
theorem dX2_worthOf_87 : decode cX2_worthOf 87 = .ok (.iload 5, 2) := by decide +kernel
theorem dX2_worthOf_89 : decode cX2_worthOf 89 = .ok (.iaload, 1) := by decide +kernel
theorem dX2_worthOf_90 : decode cX2_worthOf 90 = .ok (.invokestatic 40, 3) := by decide +kernel
theorem dX2_worthOf_93 : decode cX2_worthOf 93 = .ok (.i2l, 1) := by decide +kernel
theorem dX2_worthOf_94 : decode cX2_worthOf 94 = .ok (.lastore, 1) := by decide +kernel
theorem dX2_worthOf_95 : decode cX2_worthOf 95 = .ok (.iinc 5 1, 3) := by decide +kernel
theorem dX2_worthOf_98 : decode cX2_worthOf 98 = .ok (.goto (-45), 3) := by decide +kernel
theorem dX2_worthOf_101 : decode cX2_worthOf 101 = .ok (.iinc 4 1, 3) := by decide +kernel
theorem dX2_worthOf_104 : decode cX2_worthOf 104 = .ok (.goto (-60), 3) := by decide +kernel
theorem dX2_worthOf_107 : decode cX2_worthOf 107 = .ok (.aload_n 0, 1) := by decide +kernel
theorem dX2_worthOf_108 : decode cX2_worthOf 108 = .ok (.getfield 11, 3) := by decide +kernel
theorem dX2_worthOf_111 : decode cX2_worthOf 111 = .ok (.iload_n 3, 1) := by decide +kernel
theorem dX2_worthOf_112 : decode cX2_worthOf 112 = .ok (.iconst 0, 1) := by decide +kernel
theorem dX2_worthOf_113 : decode cX2_worthOf 113 = .ok (.iconst 1, 1) := by decide +kernel
theorem dX2_worthOf_114 : decode cX2_worthOf 114 = .ok (.iload_n 3, 1) := by decide +kernel
theorem dX2_worthOf_115 : decode cX2_worthOf 115 = .ok (.ishl, 1) := by decide +kernel
theorem dX2_worthOf_116 : decode cX2_worthOf 116 = .ok (.iconst 1, 1) := by decide +kernel
theorem dX2_worthOf_117 : decode cX2_worthOf 117 = .ok (.isub, 1) := by decide +kernel
theorem dX2_worthOf_118 : decode cX2_worthOf 118 = .ok (.invokestatic 44, 3) := by decide +kernel
theorem dX2_worthOf_121 : decode cX2_worthOf 121 = .ok (.lreturn, 1) := by decide +kernel
set_option maxRecDepth 20000 in
theorem ggX2_solve_X9_product : GoodIn wsX2_solve wsX9_product := goodIn_r _ [7] (by decide +kernel) (by decide +kernel)
set_option maxRecDepth 20000 in
theorem gX2_solve_X9_product_n40 : GoodIn wsX2_solve (wsX9_product) := ggX2_solve_X9_product
set_option maxRecDepth 20000 in
theorem ggX2_solve_X2_determinant : GoodIn wsX2_solve wsX2_determinant := goodIn_r _ [11, 8, 9, 10] (by decide +kernel) (by decide +kernel)
set_option maxRecDepth 20000 in
theorem gX2_solve_X2_determinant : GoodIn wsX2_solve (va_wsS RX2 44 yX2_determinant wsX2_determinant) := goodIn_app (goodIn_of _ (by decide +kernel)) ggX2_solve_X2_determinant
set_option maxRecDepth 20000 in
theorem ggX2_solve_X2_swapRight : GoodIn wsX2_solve wsX2_swapRight := goodIn_r _ [15, 2, 1, 16, 17, 18, 19, 20] (by decide +kernel) (by decide +kernel)
set_option maxRecDepth 20000 in
theorem gX2_solve_X2_swapRight : GoodIn wsX2_solve (wsV RX2 52 RX2 yX2_swapRight wsX2_swapRight) := goodIn_app (goodIn_of _ (by decide +kernel)) ggX2_solve_X2_swapRight
theorem dX2_solve_0 : decode cX2_solve 0 = .ok (.iconst 0, 1) := by decide +kernel
theorem dX2_solve_1 : decode cX2_solve 1 = .ok (.istore 5, 2) := by decide +kernel
theorem dX2_solve_3 : decode cX2_solve 3 = .ok (.iload 5, 2) := by decide +kernel
theorem dX2_solve_5 : decode cX2_solve 5 = .ok (.iload 4, 2) := by decide +kernel
theorem dX2_solve_7 : decode cX2_solve 7 = .ok (.if_icmp .ge 91, 3) := by decide +kernel
theorem dX2_solve_10 : decode cX2_solve 10 = .ok (.aload_n 0, 1) := by decide +kernel
theorem dX2_solve_11 : decode cX2_solve 11 = .ok (.getfield 16, 3) := by decide +kernel
theorem dX2_solve_14 : decode cX2_solve 14 = .ok (.iload 5, 2) := by decide +kernel
theorem dX2_solve_16 : decode cX2_solve 16 = .ok (.lconst 0, 1) := by decide +kernel
theorem dX2_solve_17 : decode cX2_solve 17 = .ok (.lastore, 1) := by decide +kernel
theorem dX2_solve_18 : decode cX2_solve 18 = .ok (.iconst 0, 1) := by decide +kernel
theorem dX2_solve_19 : decode cX2_solve 19 = .ok (.istore 6, 2) := by decide +kernel
theorem dX2_solve_21 : decode cX2_solve 21 = .ok (.iload 6, 2) := by decide +kernel
theorem dX2_solve_23 : decode cX2_solve 23 = .ok (.iload_n 3, 1) := by decide +kernel
theorem dX2_solve_24 : decode cX2_solve 24 = .ok (.if_icmp .ge 32, 3) := by decide +kernel
theorem dX2_solve_27 : decode cX2_solve 27 = .ok (.aload_n 0, 1) := by decide +kernel
theorem dX2_solve_28 : decode cX2_solve 28 = .ok (.getfield 16, 3) := by decide +kernel
theorem dX2_solve_31 : decode cX2_solve 31 = .ok (.iload 5, 2) := by decide +kernel
theorem dX2_solve_33 : decode cX2_solve 33 = .ok (.dup2, 1) := by decide +kernel
theorem dX2_solve_34 : decode cX2_solve 34 = .ok (.laload, 1) := by decide +kernel
theorem dX2_solve_35 : decode cX2_solve 35 = .ok (.aload_n 1, 1) := by decide +kernel
theorem dX2_solve_36 : decode cX2_solve 36 = .ok (.iload 6, 2) := by decide +kernel
theorem dX2_solve_38 : decode cX2_solve 38 = .ok (.aaload, 1) := by decide +kernel
theorem dX2_solve_39 : decode cX2_solve 39 = .ok (.iload 5, 2) := by decide +kernel
theorem dX2_solve_41 : decode cX2_solve 41 = .ok (.iaload, 1) := by decide +kernel
theorem dX2_solve_42 : decode cX2_solve 42 = .ok (.aload_n 2, 1) := by decide +kernel
theorem dX2_solve_43 : decode cX2_solve 43 = .ok (.iload 6, 2) := by decide +kernel
theorem dX2_solve_45 : decode cX2_solve 45 = .ok (.iaload, 1) := by decide +kernel
theorem dX2_solve_46 : decode cX2_solve 46 = .ok (.imul, 1) := by decide +kernel
theorem dX2_solve_47 : decode cX2_solve 47 = .ok (.i2l, 1) := by decide +kernel
theorem dX2_solve_48 : decode cX2_solve 48 = .ok (.ladd, 1) := by decide +kernel
theorem dX2_solve_49 : decode cX2_solve 49 = .ok (.lastore, 1) := by decide +kernel
theorem dX2_solve_50 : decode cX2_solve 50 = .ok (.iinc 6 1, 3) := by decide +kernel
theorem dX2_solve_53 : decode cX2_solve 53 = .ok (.goto (-32), 3) := by decide +kernel
theorem dX2_solve_56 : decode cX2_solve 56 = .ok (.iconst 0, 1) := by decide +kernel
theorem dX2_solve_57 : decode cX2_solve 57 = .ok (.istore 6, 2) := by decide +kernel
theorem dX2_solve_59 : decode cX2_solve 59 = .ok (.iload 6, 2) := by decide +kernel
theorem dX2_solve_61 : decode cX2_solve 61 = .ok (.iload 4, 2) := by decide +kernel
theorem dX2_solve_63 : decode cX2_solve 63 = .ok (.if_icmp .ge 29, 3) := by decide +kernel
theorem dX2_solve_66 : decode cX2_solve 66 = .ok (.aload_n 0, 1) := by decide +kernel
theorem dX2_solve_67 : decode cX2_solve 67 = .ok (.getfield 11, 3) := by decide +kernel
theorem dX2_solve_70 : decode cX2_solve 70 = .ok (.iload 5, 2) := by decide +kernel
theorem dX2_solve_72 : decode cX2_solve 72 = .ok (.aaload, 1) := by decide +kernel
theorem dX2_solve_73 : decode cX2_solve 73 = .ok (.iload 6, 2) := by decide +kernel
theorem dX2_solve_75 : decode cX2_solve 75 = .ok (.aload_n 1, 1) := by decide +kernel
theorem dX2_solve_76 : decode cX2_solve 76 = .ok (.iload_n 3, 1) := by decide +kernel
theorem dX2_solve_77 : decode cX2_solve 77 = .ok (.iload 5, 2) := by decide +kernel
theorem dX2_solve_79 : decode cX2_solve 79 = .ok (.iload 6, 2) := by decide +kernel
theorem dX2_solve_81 : decode cX2_solve 81 = .ok (.invokestatic 40, 3) := by decide +kernel
theorem dX2_solve_84 : decode cX2_solve 84 = .ok (.i2l, 1) := by decide +kernel
theorem dX2_solve_85 : decode cX2_solve 85 = .ok (.lastore, 1) := by decide +kernel
theorem dX2_solve_86 : decode cX2_solve 86 = .ok (.iinc 6 1, 3) := by decide +kernel
theorem dX2_solve_89 : decode cX2_solve 89 = .ok (.goto (-30), 3) := by decide +kernel
theorem dX2_solve_92 : decode cX2_solve 92 = .ok (.iinc 5 1, 3) := by decide +kernel
theorem dX2_solve_95 : decode cX2_solve 95 = .ok (.goto (-92), 3) := by decide +kernel
theorem dX2_solve_98 : decode cX2_solve 98 = .ok (.aload_n 0, 1) := by decide +kernel
theorem dX2_solve_99 : decode cX2_solve 99 = .ok (.aload_n 0, 1) := by decide +kernel
theorem dX2_solve_100 : decode cX2_solve 100 = .ok (.getfield 11, 3) := by decide +kernel
theorem dX2_solve_103 : decode cX2_solve 103 = .ok (.iload 4, 2) := by decide +kernel
theorem dX2_solve_105 : decode cX2_solve 105 = .ok (.iconst 0, 1) := by decide +kernel
theorem dX2_solve_106 : decode cX2_solve 106 = .ok (.iconst 1, 1) := by decide +kernel
theorem dX2_solve_107 : decode cX2_solve 107 = .ok (.iload 4, 2) := by decide +kernel
theorem dX2_solve_109 : decode cX2_solve 109 = .ok (.ishl, 1) := by decide +kernel
theorem dX2_solve_110 : decode cX2_solve 110 = .ok (.iconst 1, 1) := by decide +kernel
theorem dX2_solve_111 : decode cX2_solve 111 = .ok (.isub, 1) := by decide +kernel
theorem dX2_solve_112 : decode cX2_solve 112 = .ok (.invokestatic 44, 3) := by decide +kernel
theorem dX2_solve_115 : decode cX2_solve 115 = .ok (.putfield 48, 3) := by decide +kernel
theorem dX2_solve_118 : decode cX2_solve 118 = .ok (.iconst 0, 1) := by decide +kernel
theorem dX2_solve_119 : decode cX2_solve 119 = .ok (.istore 5, 2) := by decide +kernel
theorem dX2_solve_121 : decode cX2_solve 121 = .ok (.iload 5, 2) := by decide +kernel
theorem dX2_solve_123 : decode cX2_solve 123 = .ok (.iload 4, 2) := by decide +kernel
theorem dX2_solve_125 : decode cX2_solve 125 = .ok (.if_icmp .ge 48, 3) := by decide +kernel
theorem dX2_solve_128 : decode cX2_solve 128 = .ok (.aload_n 0, 1) := by decide +kernel
theorem dX2_solve_129 : decode cX2_solve 129 = .ok (.iload 5, 2) := by decide +kernel
theorem dX2_solve_131 : decode cX2_solve 131 = .ok (.iload 4, 2) := by decide +kernel
theorem dX2_solve_133 : decode cX2_solve 133 = .ok (.invokevirtual 52, 3) := by decide +kernel
theorem dX2_solve_136 : decode cX2_solve 136 = .ok (.aload_n 0, 1) := by decide +kernel
theorem dX2_solve_137 : decode cX2_solve 137 = .ok (.getfield 24, 3) := by decide +kernel
theorem dX2_solve_140 : decode cX2_solve 140 = .ok (.iload 5, 2) := by decide +kernel
theorem dX2_solve_142 : decode cX2_solve 142 = .ok (.aload_n 0, 1) := by decide +kernel
theorem dX2_solve_143 : decode cX2_solve 143 = .ok (.getfield 11, 3) := by decide +kernel
theorem dX2_solve_146 : decode cX2_solve 146 = .ok (.iload 4, 2) := by decide +kernel
theorem dX2_solve_148 : decode cX2_solve 148 = .ok (.iconst 0, 1) := by decide +kernel
theorem dX2_solve_149 : decode cX2_solve 149 = .ok (.iconst 1, 1) := by decide +kernel
theorem dX2_solve_150 : decode cX2_solve 150 = .ok (.iload 4, 2) := by decide +kernel
theorem dX2_solve_152 : decode cX2_solve 152 = .ok (.ishl, 1) := by decide +kernel
theorem dX2_solve_153 : decode cX2_solve 153 = .ok (.iconst 1, 1) := by decide +kernel
theorem dX2_solve_154 : decode cX2_solve 154 = .ok (.isub, 1) := by decide +kernel
theorem dX2_solve_155 : decode cX2_solve 155 = .ok (.invokestatic 44, 3) := by decide +kernel
theorem dX2_solve_158 : decode cX2_solve 158 = .ok (.lastore, 1) := by decide +kernel
theorem dX2_solve_159 : decode cX2_solve 159 = .ok (.aload_n 0, 1) := by decide +kernel
theorem dX2_solve_160 : decode cX2_solve 160 = .ok (.iload 5, 2) := by decide +kernel
theorem dX2_solve_162 : decode cX2_solve 162 = .ok (.iload 4, 2) := by decide +kernel
theorem dX2_solve_164 : decode cX2_solve 164 = .ok (.invokevirtual 52, 3) := by decide +kernel
theorem dX2_solve_167 : decode cX2_solve 167 = .ok (.iinc 5 1, 3) := by decide +kernel
theorem dX2_solve_170 : decode cX2_solve 170 = .ok (.goto (-49), 3) := by decide +kernel
theorem dX2_solve_173 : decode cX2_solve 173 = .ok (.return_, 1) := by decide +kernel
theorem dX2_swapRight_0 : decode cX2_swapRight 0 = .ok (.iconst 0, 1) := by decide +kernel
theorem dX2_swapRight_1 : decode cX2_swapRight 1 = .ok (.istore_n 3, 1) := by decide +kernel
theorem dX2_swapRight_2 : decode cX2_swapRight 2 = .ok (.iload_n 3, 1) := by decide +kernel
theorem dX2_swapRight_3 : decode cX2_swapRight 3 = .ok (.iload_n 2, 1) := by decide +kernel
theorem dX2_swapRight_4 : decode cX2_swapRight 4 = .ok (.if_icmp .ge 41, 3) := by decide +kernel
theorem dX2_swapRight_7 : decode cX2_swapRight 7 = .ok (.aload_n 0, 1) := by decide +kernel
theorem dX2_swapRight_8 : decode cX2_swapRight 8 = .ok (.getfield 11, 3) := by decide +kernel
theorem dX2_swapRight_11 : decode cX2_swapRight 11 = .ok (.iload_n 3, 1) := by decide +kernel
theorem dX2_swapRight_12 : decode cX2_swapRight 12 = .ok (.aaload, 1) := by decide +kernel
theorem dX2_swapRight_13 : decode cX2_swapRight 13 = .ok (.iload_n 1, 1) := by decide +kernel
theorem dX2_swapRight_14 : decode cX2_swapRight 14 = .ok (.laload, 1) := by decide +kernel
theorem dX2_swapRight_15 : decode cX2_swapRight 15 = .ok (.lstore 4, 2) := by decide +kernel
theorem dX2_swapRight_17 : decode cX2_swapRight 17 = .ok (.aload_n 0, 1) := by decide +kernel
theorem dX2_swapRight_18 : decode cX2_swapRight 18 = .ok (.getfield 11, 3) := by decide +kernel
theorem dX2_swapRight_21 : decode cX2_swapRight 21 = .ok (.iload_n 3, 1) := by decide +kernel
theorem dX2_swapRight_22 : decode cX2_swapRight 22 = .ok (.aaload, 1) := by decide +kernel
theorem dX2_swapRight_23 : decode cX2_swapRight 23 = .ok (.iload_n 1, 1) := by decide +kernel
theorem dX2_swapRight_24 : decode cX2_swapRight 24 = .ok (.aload_n 0, 1) := by decide +kernel
theorem dX2_swapRight_25 : decode cX2_swapRight 25 = .ok (.getfield 16, 3) := by decide +kernel
theorem dX2_swapRight_28 : decode cX2_swapRight 28 = .ok (.iload_n 3, 1) := by decide +kernel
theorem dX2_swapRight_29 : decode cX2_swapRight 29 = .ok (.laload, 1) := by decide +kernel
theorem dX2_swapRight_30 : decode cX2_swapRight 30 = .ok (.lastore, 1) := by decide +kernel
theorem dX2_swapRight_31 : decode cX2_swapRight 31 = .ok (.aload_n 0, 1) := by decide +kernel
theorem dX2_swapRight_32 : decode cX2_swapRight 32 = .ok (.getfield 16, 3) := by decide +kernel
theorem dX2_swapRight_35 : decode cX2_swapRight 35 = .ok (.iload_n 3, 1) := by decide +kernel
theorem dX2_swapRight_36 : decode cX2_swapRight 36 = .ok (.lload 4, 2) := by decide +kernel
theorem dX2_swapRight_38 : decode cX2_swapRight 38 = .ok (.lastore, 1) := by decide +kernel
theorem dX2_swapRight_39 : decode cX2_swapRight 39 = .ok (.iinc 3 1, 3) := by decide +kernel
theorem dX2_swapRight_42 : decode cX2_swapRight 42 = .ok (.goto (-40), 3) := by decide +kernel
theorem dX2_swapRight_45 : decode cX2_swapRight 45 = .ok (.return_, 1) := by decide +kernel
set_option maxRecDepth 20000 in
theorem ggX2_determinant_X2_determinant : GoodIn wsX2_determinant wsX2_determinant := goodIn_r _ [0, 1, 2, 3] (by decide +kernel) (by decide +kernel)
set_option maxRecDepth 20000 in
theorem gX2_determinant_X2_determinant : GoodIn wsX2_determinant (va_wsS RX2 44 yX2_determinant wsX2_determinant) := goodIn_app (goodIn_of _ (by decide +kernel)) ggX2_determinant_X2_determinant
theorem dX2_determinant_0 : decode cX2_determinant 0 = .ok (.iload_n 2, 1) := by decide +kernel
theorem dX2_determinant_1 : decode cX2_determinant 1 = .ok (.iload_n 1, 1) := by decide +kernel
theorem dX2_determinant_2 : decode cX2_determinant 2 = .ok (.if_icmp .lt 5, 3) := by decide +kernel
theorem dX2_determinant_5 : decode cX2_determinant 5 = .ok (.lconst 1, 1) := by decide +kernel
theorem dX2_determinant_6 : decode cX2_determinant 6 = .ok (.lreturn, 1) := by decide +kernel
theorem dX2_determinant_7 : decode cX2_determinant 7 = .ok (.lconst 0, 1) := by decide +kernel
theorem dX2_determinant_8 : decode cX2_determinant 8 = .ok (.lstore 4, 2) := by decide +kernel
theorem dX2_determinant_10 : decode cX2_determinant 10 = .ok (.lconst 1, 1) := by decide +kernel
theorem dX2_determinant_11 : decode cX2_determinant 11 = .ok (.lstore 6, 2) := by decide +kernel
theorem dX2_determinant_13 : decode cX2_determinant 13 = .ok (.iconst 0, 1) := by decide +kernel
theorem dX2_determinant_14 : decode cX2_determinant 14 = .ok (.istore 8, 2) := by decide +kernel
theorem dX2_determinant_16 : decode cX2_determinant 16 = .ok (.iload 8, 2) := by decide +kernel
theorem dX2_determinant_18 : decode cX2_determinant 18 = .ok (.iload_n 1, 1) := by decide +kernel
theorem dX2_determinant_19 : decode cX2_determinant 19 = .ok (.if_icmp .ge 68, 3) := by decide +kernel
theorem dX2_determinant_22 : decode cX2_determinant 22 = .ok (.iload_n 3, 1) := by decide +kernel
theorem dX2_determinant_23 : decode cX2_determinant 23 = .ok (.iload 8, 2) := by decide +kernel
theorem dX2_determinant_25 : decode cX2_determinant 25 = .ok (.ishr, 1) := by decide +kernel
theorem dX2_determinant_26 : decode cX2_determinant 26 = .ok (.iconst 1, 1) := by decide +kernel
theorem dX2_determinant_27 : decode cX2_determinant 27 = .ok (.iand, 1) := by decide +kernel
theorem dX2_determinant_28 : decode cX2_determinant 28 = .ok (.ifCond .ne 6, 3) := by decide +kernel
theorem dX2_determinant_31 : decode cX2_determinant 31 = .ok (.goto 50, 3) := by decide +kernel
theorem dX2_determinant_34 : decode cX2_determinant 34 = .ok (.aload_n 0, 1) := by decide +kernel
theorem dX2_determinant_35 : decode cX2_determinant 35 = .ok (.iload_n 2, 1) := by decide +kernel
theorem dX2_determinant_36 : decode cX2_determinant 36 = .ok (.aaload, 1) := by decide +kernel
theorem dX2_determinant_37 : decode cX2_determinant 37 = .ok (.iload 8, 2) := by decide +kernel
theorem dX2_determinant_39 : decode cX2_determinant 39 = .ok (.laload, 1) := by decide +kernel
theorem dX2_determinant_40 : decode cX2_determinant 40 = .ok (.lconst 0, 1) := by decide +kernel
theorem dX2_determinant_41 : decode cX2_determinant 41 = .ok (.lcmp, 1) := by decide +kernel
theorem dX2_determinant_42 : decode cX2_determinant 42 = .ok (.ifCond .eq 34, 3) := by decide +kernel
theorem dX2_determinant_45 : decode cX2_determinant 45 = .ok (.lload 4, 2) := by decide +kernel
theorem dX2_determinant_47 : decode cX2_determinant 47 = .ok (.lload 6, 2) := by decide +kernel
theorem dX2_determinant_49 : decode cX2_determinant 49 = .ok (.aload_n 0, 1) := by decide +kernel
theorem dX2_determinant_50 : decode cX2_determinant 50 = .ok (.iload_n 2, 1) := by decide +kernel
theorem dX2_determinant_51 : decode cX2_determinant 51 = .ok (.aaload, 1) := by decide +kernel
theorem dX2_determinant_52 : decode cX2_determinant 52 = .ok (.iload 8, 2) := by decide +kernel
theorem dX2_determinant_54 : decode cX2_determinant 54 = .ok (.laload, 1) := by decide +kernel
theorem dX2_determinant_55 : decode cX2_determinant 55 = .ok (.lmul, 1) := by decide +kernel
theorem dX2_determinant_56 : decode cX2_determinant 56 = .ok (.aload_n 0, 1) := by decide +kernel
theorem dX2_determinant_57 : decode cX2_determinant 57 = .ok (.iload_n 1, 1) := by decide +kernel
theorem dX2_determinant_58 : decode cX2_determinant 58 = .ok (.iload_n 2, 1) := by decide +kernel
theorem dX2_determinant_59 : decode cX2_determinant 59 = .ok (.iconst 1, 1) := by decide +kernel
theorem dX2_determinant_60 : decode cX2_determinant 60 = .ok (.iadd, 1) := by decide +kernel
theorem dX2_determinant_61 : decode cX2_determinant 61 = .ok (.iload_n 3, 1) := by decide +kernel
theorem dX2_determinant_62 : decode cX2_determinant 62 = .ok (.iconst 1, 1) := by decide +kernel
theorem dX2_determinant_63 : decode cX2_determinant 63 = .ok (.iload 8, 2) := by decide +kernel
theorem dX2_determinant_65 : decode cX2_determinant 65 = .ok (.ishl, 1) := by decide +kernel
theorem dX2_determinant_66 : decode cX2_determinant 66 = .ok (.iconst (-1), 1) := by decide +kernel
theorem dX2_determinant_67 : decode cX2_determinant 67 = .ok (.ixor, 1) := by decide +kernel
theorem dX2_determinant_68 : decode cX2_determinant 68 = .ok (.iand, 1) := by decide +kernel
theorem dX2_determinant_69 : decode cX2_determinant 69 = .ok (.invokestatic 44, 3) := by decide +kernel
theorem dX2_determinant_72 : decode cX2_determinant 72 = .ok (.lmul, 1) := by decide +kernel
theorem dX2_determinant_73 : decode cX2_determinant 73 = .ok (.ladd, 1) := by decide +kernel
theorem dX2_determinant_74 : decode cX2_determinant 74 = .ok (.lstore 4, 2) := by decide +kernel
theorem dX2_determinant_76 : decode cX2_determinant 76 = .ok (.lload 6, 2) := by decide +kernel
theorem dX2_determinant_78 : decode cX2_determinant 78 = .ok (.lneg, 1) := by decide +kernel
theorem dX2_determinant_79 : decode cX2_determinant 79 = .ok (.lstore 6, 2) := by decide +kernel
theorem dX2_determinant_81 : decode cX2_determinant 81 = .ok (.iinc 8 1, 3) := by decide +kernel
theorem dX2_determinant_84 : decode cX2_determinant 84 = .ok (.goto (-68), 3) := by decide +kernel
theorem dX2_determinant_87 : decode cX2_determinant 87 = .ok (.lload 4, 2) := by decide +kernel
theorem dX2_determinant_89 : decode cX2_determinant 89 = .ok (.lreturn, 1) := by decide +kernel
theorem dX3_init_0 : decode cX3_init 0 = .ok (.aload_n 0, 1) := by decide +kernel
theorem dX3_init_1 : decode cX3_init 1 = .ok (.invokespecial 3, 3) := by decide +kernel
theorem dX3_init_4 : decode cX3_init 4 = .ok (.aload_n 0, 1) := by decide +kernel
theorem dX3_init_5 : decode cX3_init 5 = .ok (.iconst 2, 1) := by decide +kernel
theorem dX3_init_6 : decode cX3_init 6 = .ok (.putfield 9, 3) := by decide +kernel
theorem dX3_init_9 : decode cX3_init 9 = .ok (.aload_n 0, 1) := by decide +kernel
theorem dX3_init_10 : decode cX3_init 10 = .ok (.iconst 2, 1) := by decide +kernel
theorem dX3_init_11 : decode cX3_init 11 = .ok (.putfield 15, 3) := by decide +kernel
theorem dX3_init_14 : decode cX3_init 14 = .ok (.aload_n 0, 1) := by decide +kernel
theorem dX3_init_15 : decode cX3_init 15 = .ok (.iconst 2, 1) := by decide +kernel
theorem dX3_init_16 : decode cX3_init 16 = .ok (.putfield 18, 3) := by decide +kernel
theorem dX3_init_19 : decode cX3_init 19 = .ok (.aload_n 0, 1) := by decide +kernel
theorem dX3_init_20 : decode cX3_init 20 = .ok (.iconst 1, 1) := by decide +kernel
theorem dX3_init_21 : decode cX3_init 21 = .ok (.putfield 21, 3) := by decide +kernel
theorem dX3_init_24 : decode cX3_init 24 = .ok (.aload_n 0, 1) := by decide +kernel
theorem dX3_init_25 : decode cX3_init 25 = .ok (.iconst 5, 1) := by decide +kernel
theorem dX3_init_26 : decode cX3_init 26 = .ok (.iconst 4, 1) := by decide +kernel
theorem dX3_init_27 : decode cX3_init 27 = .ok (.multianewarray 24 2, 4) := by decide +kernel
theorem dX3_init_31 : decode cX3_init 31 = .ok (.putfield 26, 3) := by decide +kernel
theorem dX3_init_34 : decode cX3_init 34 = .ok (.aload_n 0, 1) := by decide +kernel
theorem dX3_init_35 : decode cX3_init 35 = .ok (.iconst 5, 1) := by decide +kernel
theorem dX3_init_36 : decode cX3_init 36 = .ok (.newarray .int, 2) := by decide +kernel
theorem dX3_init_38 : decode cX3_init 38 = .ok (.putfield 29, 3) := by decide +kernel
theorem dX3_init_41 : decode cX3_init 41 = .ok (.return_, 1) := by decide +kernel
theorem dX3_hasRow_0 : decode cX3_hasRow 0 = .ok (.iload_n 1, 1) := by decide +kernel
theorem dX3_hasRow_1 : decode cX3_hasRow 1 = .ok (.ifCond .lt 15, 3) := by decide +kernel
theorem dX3_hasRow_4 : decode cX3_hasRow 4 = .ok (.iload_n 1, 1) := by decide +kernel
theorem dX3_hasRow_5 : decode cX3_hasRow 5 = .ok (.aload_n 0, 1) := by decide +kernel
theorem dX3_hasRow_6 : decode cX3_hasRow 6 = .ok (.getfield 9, 3) := by decide +kernel
theorem dX3_hasRow_9 : decode cX3_hasRow 9 = .ok (.if_icmp .ge 7, 3) := by decide +kernel
theorem dX3_hasRow_12 : decode cX3_hasRow 12 = .ok (.iconst 1, 1) := by decide +kernel
theorem dX3_hasRow_13 : decode cX3_hasRow 13 = .ok (.goto 4, 3) := by decide +kernel
theorem dX3_hasRow_16 : decode cX3_hasRow 16 = .ok (.iconst 0, 1) := by decide +kernel
theorem dX3_hasRow_17 : decode cX3_hasRow 17 = .ok (.ireturn, 1) := by decide +kernel
theorem dX3_hasColumn_0 : decode cX3_hasColumn 0 = .ok (.iload_n 1, 1) := by decide +kernel
theorem dX3_hasColumn_1 : decode cX3_hasColumn 1 = .ok (.ifCond .lt 15, 3) := by decide +kernel
theorem dX3_hasColumn_4 : decode cX3_hasColumn 4 = .ok (.iload_n 1, 1) := by decide +kernel
theorem dX3_hasColumn_5 : decode cX3_hasColumn 5 = .ok (.aload_n 0, 1) := by decide +kernel
theorem dX3_hasColumn_6 : decode cX3_hasColumn 6 = .ok (.getfield 15, 3) := by decide +kernel
theorem dX3_hasColumn_9 : decode cX3_hasColumn 9 = .ok (.if_icmp .ge 7, 3) := by decide +kernel
theorem dX3_hasColumn_12 : decode cX3_hasColumn 12 = .ok (.iconst 1, 1) := by decide +kernel
theorem dX3_hasColumn_13 : decode cX3_hasColumn 13 = .ok (.goto 4, 3) := by decide +kernel
theorem dX3_hasColumn_16 : decode cX3_hasColumn 16 = .ok (.iconst 0, 1) := by decide +kernel
theorem dX3_hasColumn_17 : decode cX3_hasColumn 17 = .ok (.ireturn, 1) := by decide +kernel
theorem dX3_bitsOfLetter_0 : decode cX3_bitsOfLetter 0 = .ok (.aload_n 0, 1) := by decide +kernel
theorem dX3_bitsOfLetter_1 : decode cX3_bitsOfLetter 1 = .ok (.getfield 18, 3) := by decide +kernel
theorem dX3_bitsOfLetter_4 : decode cX3_bitsOfLetter 4 = .ok (.iconst 4, 1) := by decide +kernel
theorem dX3_bitsOfLetter_5 : decode cX3_bitsOfLetter 5 = .ok (.if_icmp .ne 7, 3) := by decide +kernel
theorem dX3_bitsOfLetter_8 : decode cX3_bitsOfLetter 8 = .ok (.iconst 2, 1) := by decide +kernel
theorem dX3_bitsOfLetter_9 : decode cX3_bitsOfLetter 9 = .ok (.goto 4, 3) := by decide +kernel
theorem dX3_bitsOfLetter_12 : decode cX3_bitsOfLetter 12 = .ok (.iconst 1, 1) := by decide +kernel
theorem dX3_bitsOfLetter_13 : decode cX3_bitsOfLetter 13 = .ok (.ireturn, 1) := by decide +kernel
set_option maxRecDepth 20000 in
theorem ggX3_wordCount_X3_bitsOfLetter : GoodIn wsX3_wordCount wsX3_bitsOfLetter := goodIn_r _ [6, 7, 8, 9, 10, 11, 12, 13] (by decide +kernel) (by decide +kernel)
set_option maxRecDepth 20000 in
theorem gX3_wordCount_X3_bitsOfLetter : GoodIn wsX3_wordCount (wsV RX3 33 RX3 yX3_bitsOfLetter wsX3_bitsOfLetter) := goodIn_app (goodIn_of _ (by decide +kernel)) ggX3_wordCount_X3_bitsOfLetter
theorem dX3_wordCount_0 : decode cX3_wordCount 0 = .ok (.iconst 1, 1) := by decide +kernel
theorem dX3_wordCount_1 : decode cX3_wordCount 1 = .ok (.aload_n 0, 1) := by decide +kernel
theorem dX3_wordCount_2 : decode cX3_wordCount 2 = .ok (.invokevirtual 33, 3) := by decide +kernel
theorem dX3_wordCount_5 : decode cX3_wordCount 5 = .ok (.aload_n 0, 1) := by decide +kernel
theorem dX3_wordCount_6 : decode cX3_wordCount 6 = .ok (.getfield 15, 3) := by decide +kernel
theorem dX3_wordCount_9 : decode cX3_wordCount 9 = .ok (.imul, 1) := by decide +kernel
theorem dX3_wordCount_10 : decode cX3_wordCount 10 = .ok (.ishl, 1) := by decide +kernel
theorem dX3_wordCount_11 : decode cX3_wordCount 11 = .ok (.ireturn, 1) := by decide +kernel
theorem dX3_follow_0 : decode cX3_follow 0 = .ok (.iload_n 1, 1) := by decide +kernel
theorem dX3_follow_1 : decode cX3_follow 1 = .ok (.aload_n 0, 1) := by decide +kernel
theorem dX3_follow_2 : decode cX3_follow 2 = .ok (.getfield 18, 3) := by decide +kernel
theorem dX3_follow_5 : decode cX3_follow 5 = .ok (.imul, 1) := by decide +kernel
theorem dX3_follow_6 : decode cX3_follow 6 = .ok (.iload_n 2, 1) := by decide +kernel
theorem dX3_follow_7 : decode cX3_follow 7 = .ok (.iadd, 1) := by decide +kernel
theorem dX3_follow_8 : decode cX3_follow 8 = .ok (.ireturn, 1) := by decide +kernel
theorem dX3_choose_0 : decode cX3_choose 0 = .ok (.aload_n 0, 1) := by decide +kernel
theorem dX3_choose_1 : decode cX3_choose 1 = .ok (.iload_n 1, 1) := by decide +kernel
theorem dX3_choose_2 : decode cX3_choose 2 = .ok (.putfield 18, 3) := by decide +kernel
theorem dX3_choose_5 : decode cX3_choose 5 = .ok (.aload_n 0, 1) := by decide +kernel
theorem dX3_choose_6 : decode cX3_choose 6 = .ok (.dup, 1) := by decide +kernel
theorem dX3_choose_7 : decode cX3_choose 7 = .ok (.getfield 21, 3) := by decide +kernel
theorem dX3_choose_10 : decode cX3_choose 10 = .ok (.iconst 1, 1) := by decide +kernel
theorem dX3_choose_11 : decode cX3_choose 11 = .ok (.iadd, 1) := by decide +kernel
theorem dX3_choose_12 : decode cX3_choose 12 = .ok (.putfield 21, 3) := by decide +kernel
theorem dX3_choose_15 : decode cX3_choose 15 = .ok (.return_, 1) := by decide +kernel
set_option maxRecDepth 20000 in
theorem ggX3_reshape_J7_fill_53178 : GoodIn wsX3_reshape wsJ7_fill_53178 := goodIn_r _ [9] (by decide +kernel) (by decide +kernel)
set_option maxRecDepth 20000 in
theorem gX3_reshape_J7_fill_53178 : GoodIn wsX3_reshape (va_wsS RX3 37 yJ7_fill_53178 wsJ7_fill_53178) := goodIn_app (goodIn_of _ (by decide +kernel)) ggX3_reshape_J7_fill_53178
theorem dX3_reshape_0 : decode cX3_reshape 0 = .ok (.aload_n 0, 1) := by decide +kernel
theorem dX3_reshape_1 : decode cX3_reshape 1 = .ok (.iload_n 1, 1) := by decide +kernel
theorem dX3_reshape_2 : decode cX3_reshape 2 = .ok (.putfield 9, 3) := by decide +kernel
theorem dX3_reshape_5 : decode cX3_reshape 5 = .ok (.aload_n 0, 1) := by decide +kernel
theorem dX3_reshape_6 : decode cX3_reshape 6 = .ok (.iload_n 2, 1) := by decide +kernel
theorem dX3_reshape_7 : decode cX3_reshape 7 = .ok (.putfield 15, 3) := by decide +kernel
theorem dX3_reshape_10 : decode cX3_reshape 10 = .ok (.iconst 0, 1) := by decide +kernel
theorem dX3_reshape_11 : decode cX3_reshape 11 = .ok (.istore_n 3, 1) := by decide +kernel
theorem dX3_reshape_12 : decode cX3_reshape 12 = .ok (.iload_n 3, 1) := by decide +kernel
theorem dX3_reshape_13 : decode cX3_reshape 13 = .ok (.iconst 5, 1) := by decide +kernel
theorem dX3_reshape_14 : decode cX3_reshape 14 = .ok (.if_icmp .ge 19, 3) := by decide +kernel
theorem dX3_reshape_17 : decode cX3_reshape 17 = .ok (.aload_n 0, 1) := by decide +kernel
theorem dX3_reshape_18 : decode cX3_reshape 18 = .ok (.getfield 26, 3) := by decide +kernel
theorem dX3_reshape_21 : decode cX3_reshape 21 = .ok (.iload_n 3, 1) := by decide +kernel
theorem dX3_reshape_22 : decode cX3_reshape 22 = .ok (.aaload, 1) := by decide +kernel
theorem dX3_reshape_23 : decode cX3_reshape 23 = .ok (.iconst 0, 1) := by decide +kernel
theorem dX3_reshape_24 : decode cX3_reshape 24 = .ok (.invokestatic 37, 3) := by decide +kernel
theorem dX3_reshape_27 : decode cX3_reshape 27 = .ok (.iinc 3 1, 3) := by decide +kernel
theorem dX3_reshape_30 : decode cX3_reshape 30 = .ok (.goto (-18), 3) := by decide +kernel
theorem dX3_reshape_33 : decode cX3_reshape 33 = .ok (.aload_n 0, 1) := by decide +kernel
theorem dX3_reshape_34 : decode cX3_reshape 34 = .ok (.getfield 29, 3) := by decide +kernel
theorem dX3_reshape_37 : decode cX3_reshape 37 = .ok (.iconst 0, 1) := by decide +kernel
theorem dX3_reshape_38 : decode cX3_reshape 38 = .ok (.invokestatic 37, 3) := by decide +kernel
theorem dX3_reshape_41 : decode cX3_reshape 41 = .ok (.aload_n 0, 1) := by decide +kernel
theorem dX3_reshape_42 : decode cX3_reshape 42 = .ok (.dup, 1) := by decide +kernel
theorem dX3_reshape_43 : decode cX3_reshape 43 = .ok (.getfield 21, 3) := by decide +kernel
theorem dX3_reshape_46 : decode cX3_reshape 46 = .ok (.iconst 1, 1) := by decide +kernel
theorem dX3_reshape_47 : decode cX3_reshape 47 = .ok (.iadd, 1) := by decide +kernel
theorem dX3_reshape_48 : decode cX3_reshape 48 = .ok (.putfield 21, 3) := by decide +kernel
theorem dX3_reshape_51 : decode cX3_reshape 51 = .ok (.return_, 1) := by decide +kernel
theorem dX3_at_0 : decode cX3_at 0 = .ok (.iload_n 2, 1) := by decide +kernel
theorem dX3_at_1 : decode cX3_at 1 = .ok (.aload_n 0, 1) := by decide +kernel
theorem dX3_at_2 : decode cX3_at 2 = .ok (.getfield 15, 3) := by decide +kernel
theorem dX3_at_5 : decode cX3_at 5 = .ok (.if_icmp .ne 12, 3) := by decide +kernel
theorem dX3_at_8 : decode cX3_at 8 = .ok (.aload_n 0, 1) := by decide +kernel
theorem dX3_at_9 : decode cX3_at 9 = .ok (.getfield 29, 3) := by decide +kernel
theorem dX3_at_12 : decode cX3_at 12 = .ok (.iload_n 1, 1) := by decide +kernel
theorem dX3_at_13 : decode cX3_at 13 = .ok (.iaload, 1) := by decide +kernel
theorem dX3_at_14 : decode cX3_at 14 = .ok (.goto 11, 3) := by decide +kernel
theorem dX3_at_17 : decode cX3_at 17 = .ok (.aload_n 0, 1) := by decide +kernel
theorem dX3_at_18 : decode cX3_at 18 = .ok (.getfield 26, 3) := by decide +kernel
theorem dX3_at_21 : decode cX3_at 21 = .ok (.iload_n 1, 1) := by decide +kernel
theorem dX3_at_22 : decode cX3_at 22 = .ok (.aaload, 1) := by decide +kernel
theorem dX3_at_23 : decode cX3_at 23 = .ok (.iload_n 2, 1) := by decide +kernel
theorem dX3_at_24 : decode cX3_at 24 = .ok (.iaload, 1) := by decide +kernel
theorem dX3_at_25 : decode cX3_at 25 = .ok (.ireturn, 1) := by decide +kernel
theorem dX3_put_0 : decode cX3_put 0 = .ok (.iload_n 2, 1) := by decide +kernel
theorem dX3_put_1 : decode cX3_put 1 = .ok (.aload_n 0, 1) := by decide +kernel
theorem dX3_put_2 : decode cX3_put 2 = .ok (.getfield 15, 3) := by decide +kernel
theorem dX3_put_5 : decode cX3_put 5 = .ok (.if_icmp .ne 13, 3) := by decide +kernel
theorem dX3_put_8 : decode cX3_put 8 = .ok (.aload_n 0, 1) := by decide +kernel
theorem dX3_put_9 : decode cX3_put 9 = .ok (.getfield 29, 3) := by decide +kernel
theorem dX3_put_12 : decode cX3_put 12 = .ok (.iload_n 1, 1) := by decide +kernel
theorem dX3_put_13 : decode cX3_put 13 = .ok (.iload_n 3, 1) := by decide +kernel
theorem dX3_put_14 : decode cX3_put 14 = .ok (.iastore, 1) := by decide +kernel
theorem dX3_put_15 : decode cX3_put 15 = .ok (.goto 12, 3) := by decide +kernel
theorem dX3_put_18 : decode cX3_put 18 = .ok (.aload_n 0, 1) := by decide +kernel
theorem dX3_put_19 : decode cX3_put 19 = .ok (.getfield 26, 3) := by decide +kernel
theorem dX3_put_22 : decode cX3_put 22 = .ok (.iload_n 1, 1) := by decide +kernel
theorem dX3_put_23 : decode cX3_put 23 = .ok (.aaload, 1) := by decide +kernel
theorem dX3_put_24 : decode cX3_put 24 = .ok (.iload_n 2, 1) := by decide +kernel
theorem dX3_put_25 : decode cX3_put 25 = .ok (.iload_n 3, 1) := by decide +kernel
theorem dX3_put_26 : decode cX3_put 26 = .ok (.iastore, 1) := by decide +kernel
theorem dX3_put_27 : decode cX3_put 27 = .ok (.aload_n 0, 1) := by decide +kernel
theorem dX3_put_28 : decode cX3_put 28 = .ok (.dup, 1) := by decide +kernel
theorem dX3_put_29 : decode cX3_put 29 = .ok (.getfield 21, 3) := by decide +kernel
theorem dX3_put_32 : decode cX3_put 32 = .ok (.iconst 1, 1) := by decide +kernel
theorem dX3_put_33 : decode cX3_put 33 = .ok (.iadd, 1) := by decide +kernel
theorem dX3_put_34 : decode cX3_put 34 = .ok (.putfield 21, 3) := by decide +kernel
theorem dX3_put_37 : decode cX3_put 37 = .ok (.return_, 1) := by decide +kernel
set_option maxRecDepth 20000 in
theorem ggX3_takes_X9_within : GoodIn wsX3_takes wsX9_within := goodIn_r _ [5] (by decide +kernel) (by decide +kernel)
set_option maxRecDepth 20000 in
theorem gX3_takes_X9_within_n43 : GoodIn wsX3_takes (wsX9_within) := ggX3_takes_X9_within
theorem dX3_takes_0 : decode cX3_takes 0 = .ok (.iload_n 2, 1) := by decide +kernel
theorem dX3_takes_1 : decode cX3_takes 1 = .ok (.istore_n 3, 1) := by decide +kernel
theorem dX3_takes_2 : decode cX3_takes 2 = .ok (.iconst 0, 1) := by decide +kernel
theorem dX3_takes_3 : decode cX3_takes 3 = .ok (.istore 4, 2) := by decide +kernel
theorem dX3_takes_5 : decode cX3_takes 5 = .ok (.iload 4, 2) := by decide +kernel
theorem dX3_takes_7 : decode cX3_takes 7 = .ok (.aload_n 0, 1) := by decide +kernel
theorem dX3_takes_8 : decode cX3_takes 8 = .ok (.getfield 9, 3) := by decide +kernel
theorem dX3_takes_11 : decode cX3_takes 11 = .ok (.if_icmp .ge 58, 3) := by decide +kernel
theorem dX3_takes_14 : decode cX3_takes 14 = .ok (.iconst 0, 1) := by decide +kernel
theorem dX3_takes_15 : decode cX3_takes 15 = .ok (.istore 5, 2) := by decide +kernel
theorem dX3_takes_17 : decode cX3_takes 17 = .ok (.iload 5, 2) := by decide +kernel
theorem dX3_takes_19 : decode cX3_takes 19 = .ok (.aload_n 0, 1) := by decide +kernel
theorem dX3_takes_20 : decode cX3_takes 20 = .ok (.getfield 15, 3) := by decide +kernel
theorem dX3_takes_23 : decode cX3_takes 23 = .ok (.if_icmp .gt 40, 3) := by decide +kernel
theorem dX3_takes_26 : decode cX3_takes 26 = .ok (.aload_n 1, 1) := by decide +kernel
theorem dX3_takes_27 : decode cX3_takes 27 = .ok (.iload_n 3, 1) := by decide +kernel
theorem dX3_takes_28 : decode cX3_takes 28 = .ok (.laload, 1) := by decide +kernel
theorem dX3_takes_29 : decode cX3_takes 29 = .ok (.iload 5, 2) := by decide +kernel
theorem dX3_takes_31 : decode cX3_takes 31 = .ok (.aload_n 0, 1) := by decide +kernel
theorem dX3_takes_32 : decode cX3_takes 32 = .ok (.getfield 15, 3) := by decide +kernel
theorem dX3_takes_35 : decode cX3_takes 35 = .ok (.if_icmp .ne 9, 3) := by decide +kernel
theorem dX3_takes_38 : decode cX3_takes 38 = .ok (.sipush 999, 3) := by decide +kernel
theorem dX3_takes_41 : decode cX3_takes 41 = .ok (.goto 5, 3) := by decide +kernel
theorem dX3_takes_44 : decode cX3_takes 44 = .ok (.bipush 9, 2) := by decide +kernel
theorem dX3_takes_46 : decode cX3_takes 46 = .ok (.invokestatic 43, 3) := by decide +kernel
theorem dX3_takes_49 : decode cX3_takes 49 = .ok (.ifCond .ne 5, 3) := by decide +kernel
theorem dX3_takes_52 : decode cX3_takes 52 = .ok (.iconst 0, 1) := by decide +kernel
theorem dX3_takes_53 : decode cX3_takes 53 = .ok (.ireturn, 1) := by decide +kernel
theorem dX3_takes_54 : decode cX3_takes 54 = .ok (.iinc 3 1, 3) := by decide +kernel
theorem dX3_takes_57 : decode cX3_takes 57 = .ok (.iinc 5 1, 3) := by decide +kernel
theorem dX3_takes_60 : decode cX3_takes 60 = .ok (.goto (-43), 3) := by decide +kernel
theorem dX3_takes_63 : decode cX3_takes 63 = .ok (.iinc 4 1, 3) := by decide +kernel
theorem dX3_takes_66 : decode cX3_takes 66 = .ok (.goto (-61), 3) := by decide +kernel
theorem dX3_takes_69 : decode cX3_takes 69 = .ok (.iconst 1, 1) := by decide +kernel
theorem dX3_takes_70 : decode cX3_takes 70 = .ok (.ireturn, 1) := by decide +kernel
set_option maxRecDepth 20000 in
theorem ggX3_copy_X3_put : GoodIn wsX3_copy wsX3_put := goodIn_r _ [7, 2, 8, 9, 10, 11, 12, 13, 14, 15, 16] (by decide +kernel) (by decide +kernel)
set_option maxRecDepth 20000 in
theorem gX3_copy_X3_put : GoodIn wsX3_copy (wsV RX3 47 RX3 yX3_put wsX3_put) := goodIn_app (goodIn_of _ (by decide +kernel)) ggX3_copy_X3_put
theorem dX3_copy_0 : decode cX3_copy 0 = .ok (.iload_n 2, 1) := by decide +kernel
theorem dX3_copy_1 : decode cX3_copy 1 = .ok (.istore_n 3, 1) := by decide +kernel
theorem dX3_copy_2 : decode cX3_copy 2 = .ok (.iconst 0, 1) := by decide +kernel
theorem dX3_copy_3 : decode cX3_copy 3 = .ok (.istore 4, 2) := by decide +kernel
theorem dX3_copy_5 : decode cX3_copy 5 = .ok (.iload 4, 2) := by decide +kernel
theorem dX3_copy_7 : decode cX3_copy 7 = .ok (.aload_n 0, 1) := by decide +kernel
theorem dX3_copy_8 : decode cX3_copy 8 = .ok (.getfield 9, 3) := by decide +kernel
theorem dX3_copy_11 : decode cX3_copy 11 = .ok (.if_icmp .ge 42, 3) := by decide +kernel
theorem dX3_copy_14 : decode cX3_copy 14 = .ok (.iconst 0, 1) := by decide +kernel
theorem dX3_copy_15 : decode cX3_copy 15 = .ok (.istore 5, 2) := by decide +kernel
theorem dX3_copy_17 : decode cX3_copy 17 = .ok (.iload 5, 2) := by decide +kernel
theorem dX3_copy_19 : decode cX3_copy 19 = .ok (.aload_n 0, 1) := by decide +kernel
theorem dX3_copy_20 : decode cX3_copy 20 = .ok (.getfield 15, 3) := by decide +kernel
theorem dX3_copy_23 : decode cX3_copy 23 = .ok (.if_icmp .gt 24, 3) := by decide +kernel
theorem dX3_copy_26 : decode cX3_copy 26 = .ok (.aload_n 0, 1) := by decide +kernel
theorem dX3_copy_27 : decode cX3_copy 27 = .ok (.iload 4, 2) := by decide +kernel
theorem dX3_copy_29 : decode cX3_copy 29 = .ok (.iload 5, 2) := by decide +kernel
theorem dX3_copy_31 : decode cX3_copy 31 = .ok (.aload_n 1, 1) := by decide +kernel
theorem dX3_copy_32 : decode cX3_copy 32 = .ok (.iload_n 3, 1) := by decide +kernel
theorem dX3_copy_33 : decode cX3_copy 33 = .ok (.laload, 1) := by decide +kernel
theorem dX3_copy_34 : decode cX3_copy 34 = .ok (.l2i, 1) := by decide +kernel
theorem dX3_copy_35 : decode cX3_copy 35 = .ok (.invokevirtual 47, 3) := by decide +kernel
theorem dX3_copy_38 : decode cX3_copy 38 = .ok (.iinc 3 1, 3) := by decide +kernel
theorem dX3_copy_41 : decode cX3_copy 41 = .ok (.iinc 5 1, 3) := by decide +kernel
theorem dX3_copy_44 : decode cX3_copy 44 = .ok (.goto (-27), 3) := by decide +kernel
theorem dX3_copy_47 : decode cX3_copy 47 = .ok (.iinc 4 1, 3) := by decide +kernel
theorem dX3_copy_50 : decode cX3_copy 50 = .ok (.goto (-45), 3) := by decide +kernel
theorem dX3_copy_53 : decode cX3_copy 53 = .ok (.return_, 1) := by decide +kernel
theorem dX4_init_0 : decode cX4_init 0 = .ok (.aload_n 0, 1) := by decide +kernel
theorem dX4_init_1 : decode cX4_init 1 = .ok (.invokespecial 3, 3) := by decide +kernel
theorem dX4_init_4 : decode cX4_init 4 = .ok (.aload_n 0, 1) := by decide +kernel
theorem dX4_init_5 : decode cX4_init 5 = .ok (.iconst 5, 1) := by decide +kernel
theorem dX4_init_6 : decode cX4_init 6 = .ok (.iconst 4, 1) := by decide +kernel
theorem dX4_init_7 : decode cX4_init 7 = .ok (.multianewarray 9 2, 4) := by decide +kernel
theorem dX4_init_11 : decode cX4_init 11 = .ok (.putfield 11, 3) := by decide +kernel
theorem dX4_init_14 : decode cX4_init 14 = .ok (.aload_n 0, 1) := by decide +kernel
theorem dX4_init_15 : decode cX4_init 15 = .ok (.aload_n 1, 1) := by decide +kernel
theorem dX4_init_16 : decode cX4_init 16 = .ok (.putfield 16, 3) := by decide +kernel
theorem dX4_init_19 : decode cX4_init 19 = .ok (.return_, 1) := by decide +kernel
set_option maxRecDepth 20000 in
theorem ggX4_parse_X4_takeNumber : GoodIn wsX4_parse wsX4_takeNumber := goodIn_r _ [10, 5, 4, 1, 3, 11, 12, 13, 14, 15, 16, 17, 18, 19, 9, 20, 21, 22, 23, 24, 25, 26, 27, 28, 29, 30, 31, 44, 45, 46, 47, 48, 49, 50, 51] (by decide +kernel) (by decide +kernel)
set_option maxRecDepth 20000 in
theorem gX4_parse_X4_takeNumber : GoodIn wsX4_parse (wsV RX4 33 RX4 yX4_takeNumber wsX4_takeNumber) := goodIn_app (goodIn_of _ (by decide +kernel)) ggX4_parse_X4_takeNumber
set_option maxRecDepth 20000 in
theorem ggX4_parse_X4_skipBlanks : GoodIn wsX4_parse wsX4_skipBlanks := goodIn_r _ [20, 4, 5, 11, 21, 22, 23, 24, 25, 26, 27, 44, 45, 46, 47, 48, 49, 50, 51] (by decide +kernel) (by decide +kernel)
set_option maxRecDepth 20000 in
theorem gX4_parse_X4_skipBlanks : GoodIn wsX4_parse (wsV RX4 37 RX4 yX4_skipBlanks wsX4_skipBlanks) := goodIn_app (goodIn_of _ (by decide +kernel)) ggX4_parse_X4_skipBlanks
set_option maxRecDepth 20000 in
theorem ggX4_parse_X7_at : GoodIn wsX4_parse wsX7_at := goodIn_r _ [25, 26, 27, 50, 51] (by decide +kernel) (by decide +kernel)
set_option maxRecDepth 20000 in
theorem gX4_parse_X7_at : GoodIn wsX4_parse (wsV RX4 40 RX7 yX7_at wsX7_at) := goodIn_app (goodIn_of _ (by decide +kernel)) ggX4_parse_X7_at
set_option maxRecDepth 20000 in
theorem ggX4_parse_X4_isRowWhole : GoodIn wsX4_parse wsX4_isRowWhole := goodIn_r _ [35, 1, 3, 2, 44, 45, 46, 47, 48, 49] (by decide +kernel) (by decide +kernel)
set_option maxRecDepth 20000 in
theorem gX4_parse_X4_isRowWhole : GoodIn wsX4_parse (wsV RX4 46 RX4 yX4_isRowWhole wsX4_isRowWhole) := goodIn_app (goodIn_of _ (by decide +kernel)) ggX4_parse_X4_isRowWhole
set_option maxRecDepth 20000 in
theorem ggX4_parse_X4_endRow : GoodIn wsX4_parse wsX4_endRow := goodIn_r _ [39, 3, 2, 1, 44, 45, 46, 47, 48, 49] (by decide +kernel) (by decide +kernel)
set_option maxRecDepth 20000 in
theorem gX4_parse_X4_endRow : GoodIn wsX4_parse (wsV RX4 49 RX4 yX4_endRow wsX4_endRow) := goodIn_app (goodIn_of _ (by decide +kernel)) ggX4_parse_X4_endRow
set_option maxRecDepth 20000 in
theorem ggX4_parse_X4_takeSign : GoodIn wsX4_parse wsX4_takeSign := goodIn_r _ [43, 5, 4, 3, 1, 2, 21, 22, 23, 24, 25, 26, 27, 32, 33, 34, 9, 35, 36, 37, 38, 39, 44, 45, 46, 47, 48, 49, 50, 51] (by decide +kernel) (by decide +kernel)
set_option maxRecDepth 20000 in
theorem gX4_parse_X4_takeSign : GoodIn wsX4_parse (wsV RX4 52 RX4 yX4_takeSign wsX4_takeSign) := goodIn_app (goodIn_of _ (by decide +kernel)) ggX4_parse_X4_takeSign
theorem dX4_parse_0 : decode cX4_parse 0 = .ok (.aload_n 0, 1) := by decide +kernel
theorem dX4_parse_1 : decode cX4_parse 1 = .ok (.iconst 0, 1) := by decide +kernel
theorem dX4_parse_2 : decode cX4_parse 2 = .ok (.putfield 20, 3) := by decide +kernel
theorem dX4_parse_5 : decode cX4_parse 5 = .ok (.aload_n 0, 1) := by decide +kernel
theorem dX4_parse_6 : decode cX4_parse 6 = .ok (.iconst 0, 1) := by decide +kernel
theorem dX4_parse_7 : decode cX4_parse 7 = .ok (.putfield 24, 3) := by decide +kernel
theorem dX4_parse_10 : decode cX4_parse 10 = .ok (.aload_n 0, 1) := by decide +kernel
theorem dX4_parse_11 : decode cX4_parse 11 = .ok (.iconst 0, 1) := by decide +kernel
theorem dX4_parse_12 : decode cX4_parse 12 = .ok (.putfield 27, 3) := by decide +kernel
theorem dX4_parse_15 : decode cX4_parse 15 = .ok (.aload_n 0, 1) := by decide +kernel
theorem dX4_parse_16 : decode cX4_parse 16 = .ok (.iconst 0, 1) := by decide +kernel
theorem dX4_parse_17 : decode cX4_parse 17 = .ok (.putfield 30, 3) := by decide +kernel
theorem dX4_parse_20 : decode cX4_parse 20 = .ok (.iconst 0, 1) := by decide +kernel
theorem dX4_parse_21 : decode cX4_parse 21 = .ok (.istore_n 1, 1) := by decide +kernel
theorem dX4_parse_22 : decode cX4_parse 22 = .ok (.iload_n 1, 1) := by decide +kernel
theorem dX4_parse_23 : decode cX4_parse 23 = .ok (.bipush 20, 2) := by decide +kernel
theorem dX4_parse_25 : decode cX4_parse 25 = .ok (.if_icmp .ge 71, 3) := by decide +kernel
theorem dX4_parse_28 : decode cX4_parse 28 = .ok (.aload_n 0, 1) := by decide +kernel
theorem dX4_parse_29 : decode cX4_parse 29 = .ok (.invokevirtual 33, 3) := by decide +kernel
theorem dX4_parse_32 : decode cX4_parse 32 = .ok (.ifCond .ne 11, 3) := by decide +kernel
theorem dX4_parse_35 : decode cX4_parse 35 = .ok (.bipush (-20), 2) := by decide +kernel
theorem dX4_parse_37 : decode cX4_parse 37 = .ok (.aload_n 0, 1) := by decide +kernel
theorem dX4_parse_38 : decode cX4_parse 38 = .ok (.getfield 30, 3) := by decide +kernel
theorem dX4_parse_41 : decode cX4_parse 41 = .ok (.isub, 1) := by decide +kernel
theorem dX4_parse_42 : decode cX4_parse 42 = .ok (.ireturn, 1) := by decide +kernel
theorem dX4_parse_43 : decode cX4_parse 43 = .ok (.aload_n 0, 1) := by decide +kernel
theorem dX4_parse_44 : decode cX4_parse 44 = .ok (.invokevirtual 37, 3) := by decide +kernel
theorem dX4_parse_47 : decode cX4_parse 47 = .ok (.aload_n 0, 1) := by decide +kernel
theorem dX4_parse_48 : decode cX4_parse 48 = .ok (.getfield 16, 3) := by decide +kernel
theorem dX4_parse_51 : decode cX4_parse 51 = .ok (.aload_n 0, 1) := by decide +kernel
theorem dX4_parse_52 : decode cX4_parse 52 = .ok (.getfield 30, 3) := by decide +kernel
theorem dX4_parse_55 : decode cX4_parse 55 = .ok (.invokevirtual 40, 3) := by decide +kernel
theorem dX4_parse_58 : decode cX4_parse 58 = .ok (.iconst (-1), 1) := by decide +kernel
theorem dX4_parse_59 : decode cX4_parse 59 = .ok (.if_icmp .ne 16, 3) := by decide +kernel
theorem dX4_parse_62 : decode cX4_parse 62 = .ok (.aload_n 0, 1) := by decide +kernel
theorem dX4_parse_63 : decode cX4_parse 63 = .ok (.invokevirtual 46, 3) := by decide +kernel
theorem dX4_parse_66 : decode cX4_parse 66 = .ok (.ifCond .eq 9, 3) := by decide +kernel
theorem dX4_parse_69 : decode cX4_parse 69 = .ok (.aload_n 0, 1) := by decide +kernel
theorem dX4_parse_70 : decode cX4_parse 70 = .ok (.invokevirtual 49, 3) := by decide +kernel
theorem dX4_parse_73 : decode cX4_parse 73 = .ok (.iconst 0, 1) := by decide +kernel
theorem dX4_parse_74 : decode cX4_parse 74 = .ok (.ireturn, 1) := by decide +kernel
theorem dX4_parse_75 : decode cX4_parse 75 = .ok (.aload_n 0, 1) := by decide +kernel
theorem dX4_parse_76 : decode cX4_parse 76 = .ok (.invokevirtual 52, 3) := by decide +kernel
theorem dX4_parse_79 : decode cX4_parse 79 = .ok (.ifCond .ne 11, 3) := by decide +kernel
theorem dX4_parse_82 : decode cX4_parse 82 = .ok (.bipush (-20), 2) := by decide +kernel
theorem dX4_parse_84 : decode cX4_parse 84 = .ok (.aload_n 0, 1) := by decide +kernel
theorem dX4_parse_85 : decode cX4_parse 85 = .ok (.getfield 30, 3) := by decide +kernel
theorem dX4_parse_88 : decode cX4_parse 88 = .ok (.isub, 1) := by decide +kernel
theorem dX4_parse_89 : decode cX4_parse 89 = .ok (.ireturn, 1) := by decide +kernel
theorem dX4_parse_90 : decode cX4_parse 90 = .ok (.iinc 1 1, 3) := by decide +kernel
theorem dX4_parse_93 : decode cX4_parse 93 = .ok (.goto (-71), 3) := by decide +kernel
theorem dX4_parse_96 : decode cX4_parse 96 = .ok (.bipush (-20), 2) := by decide +kernel
theorem dX4_parse_98 : decode cX4_parse 98 = .ok (.aload_n 0, 1) := by decide +kernel
theorem dX4_parse_99 : decode cX4_parse 99 = .ok (.getfield 30, 3) := by decide +kernel
theorem dX4_parse_102 : decode cX4_parse 102 = .ok (.isub, 1) := by decide +kernel
theorem dX4_parse_103 : decode cX4_parse 103 = .ok (.ireturn, 1) := by decide +kernel
set_option maxRecDepth 20000 in
theorem ggX4_skipBlanks_X7_at : GoodIn wsX4_skipBlanks wsX7_at := goodIn_r _ [8, 9, 10, 17, 18] (by decide +kernel) (by decide +kernel)
set_option maxRecDepth 20000 in
theorem gX4_skipBlanks_X7_at : GoodIn wsX4_skipBlanks (wsV RX4 40 RX7 yX7_at wsX7_at) := goodIn_app (goodIn_of _ (by decide +kernel)) ggX4_skipBlanks_X7_at
theorem dX4_skipBlanks_0 : decode cX4_skipBlanks 0 = .ok (.aload_n 0, 1) := by decide +kernel
theorem dX4_skipBlanks_1 : decode cX4_skipBlanks 1 = .ok (.getfield 30, 3) := by decide +kernel
theorem dX4_skipBlanks_4 : decode cX4_skipBlanks 4 = .ok (.aload_n 0, 1) := by decide +kernel
theorem dX4_skipBlanks_5 : decode cX4_skipBlanks 5 = .ok (.getfield 16, 3) := by decide +kernel
theorem dX4_skipBlanks_8 : decode cX4_skipBlanks 8 = .ok (.getfield 55, 3) := by decide +kernel
theorem dX4_skipBlanks_11 : decode cX4_skipBlanks 11 = .ok (.if_icmp .ge 32, 3) := by decide +kernel
theorem dX4_skipBlanks_14 : decode cX4_skipBlanks 14 = .ok (.aload_n 0, 1) := by decide +kernel
theorem dX4_skipBlanks_15 : decode cX4_skipBlanks 15 = .ok (.getfield 16, 3) := by decide +kernel
theorem dX4_skipBlanks_18 : decode cX4_skipBlanks 18 = .ok (.aload_n 0, 1) := by decide +kernel
theorem dX4_skipBlanks_19 : decode cX4_skipBlanks 19 = .ok (.getfield 30, 3) := by decide +kernel
theorem dX4_skipBlanks_22 : decode cX4_skipBlanks 22 = .ok (.invokevirtual 40, 3) := by decide +kernel
theorem dX4_skipBlanks_25 : decode cX4_skipBlanks 25 = .ok (.bipush 32, 2) := by decide +kernel
theorem dX4_skipBlanks_27 : decode cX4_skipBlanks 27 = .ok (.if_icmp .ne 16, 3) := by decide +kernel
theorem dX4_skipBlanks_30 : decode cX4_skipBlanks 30 = .ok (.aload_n 0, 1) := by decide +kernel
theorem dX4_skipBlanks_31 : decode cX4_skipBlanks 31 = .ok (.dup, 1) := by decide +kernel
theorem dX4_skipBlanks_32 : decode cX4_skipBlanks 32 = .ok (.getfield 30, 3) := by decide +kernel
theorem dX4_skipBlanks_35 : decode cX4_skipBlanks 35 = .ok (.iconst 1, 1) := by decide +kernel
theorem dX4_skipBlanks_36 : decode cX4_skipBlanks 36 = .ok (.iadd, 1) := by decide +kernel
theorem dX4_skipBlanks_37 : decode cX4_skipBlanks 37 = .ok (.putfield 30, 3) := by decide +kernel
theorem dX4_skipBlanks_40 : decode cX4_skipBlanks 40 = .ok (.goto (-40), 3) := by decide +kernel
theorem dX4_skipBlanks_43 : decode cX4_skipBlanks 43 = .ok (.return_, 1) := by decide +kernel
set_option maxRecDepth 20000 in
theorem ggX4_isDigit_X7_at : GoodIn wsX4_isDigit wsX7_at := goodIn_r _ [7, 8, 9, 16, 17] (by decide +kernel) (by decide +kernel)
set_option maxRecDepth 20000 in
theorem gX4_isDigit_X7_at : GoodIn wsX4_isDigit (wsV RX4 40 RX7 yX7_at wsX7_at) := goodIn_app (goodIn_of _ (by decide +kernel)) ggX4_isDigit_X7_at
theorem dX4_isDigit_0 : decode cX4_isDigit 0 = .ok (.aload_n 0, 1) := by decide +kernel
theorem dX4_isDigit_1 : decode cX4_isDigit 1 = .ok (.getfield 16, 3) := by decide +kernel
theorem dX4_isDigit_4 : decode cX4_isDigit 4 = .ok (.aload_n 0, 1) := by decide +kernel
theorem dX4_isDigit_5 : decode cX4_isDigit 5 = .ok (.getfield 30, 3) := by decide +kernel
theorem dX4_isDigit_8 : decode cX4_isDigit 8 = .ok (.invokevirtual 40, 3) := by decide +kernel
theorem dX4_isDigit_11 : decode cX4_isDigit 11 = .ok (.bipush 48, 2) := by decide +kernel
theorem dX4_isDigit_13 : decode cX4_isDigit 13 = .ok (.if_icmp .lt 23, 3) := by decide +kernel
theorem dX4_isDigit_16 : decode cX4_isDigit 16 = .ok (.aload_n 0, 1) := by decide +kernel
theorem dX4_isDigit_17 : decode cX4_isDigit 17 = .ok (.getfield 16, 3) := by decide +kernel
theorem dX4_isDigit_20 : decode cX4_isDigit 20 = .ok (.aload_n 0, 1) := by decide +kernel
theorem dX4_isDigit_21 : decode cX4_isDigit 21 = .ok (.getfield 30, 3) := by decide +kernel
theorem dX4_isDigit_24 : decode cX4_isDigit 24 = .ok (.invokevirtual 40, 3) := by decide +kernel
theorem dX4_isDigit_27 : decode cX4_isDigit 27 = .ok (.bipush 57, 2) := by decide +kernel
theorem dX4_isDigit_29 : decode cX4_isDigit 29 = .ok (.if_icmp .gt 7, 3) := by decide +kernel
theorem dX4_isDigit_32 : decode cX4_isDigit 32 = .ok (.iconst 1, 1) := by decide +kernel
theorem dX4_isDigit_33 : decode cX4_isDigit 33 = .ok (.goto 4, 3) := by decide +kernel
theorem dX4_isDigit_36 : decode cX4_isDigit 36 = .ok (.iconst 0, 1) := by decide +kernel
theorem dX4_isDigit_37 : decode cX4_isDigit 37 = .ok (.ireturn, 1) := by decide +kernel
set_option maxRecDepth 20000 in
theorem ggX4_takeNumber_X4_skipBlanks : GoodIn wsX4_takeNumber wsX4_skipBlanks := goodIn_r _ [15, 2, 1, 5, 16, 17, 18, 19, 20, 21, 22, 27, 28, 29, 30, 31, 32, 33, 34] (by decide +kernel) (by decide +kernel)
set_option maxRecDepth 20000 in
theorem gX4_takeNumber_X4_skipBlanks : GoodIn wsX4_takeNumber (wsV RX4 37 RX4 yX4_skipBlanks wsX4_skipBlanks) := goodIn_app (goodIn_of _ (by decide +kernel)) ggX4_takeNumber_X4_skipBlanks
set_option maxRecDepth 20000 in
theorem ggX4_takeNumber_X7_at : GoodIn wsX4_takeNumber wsX7_at := goodIn_r _ [20, 21, 22, 33, 34] (by decide +kernel) (by decide +kernel)
set_option maxRecDepth 20000 in
theorem gX4_takeNumber_X7_at : GoodIn wsX4_takeNumber (wsV RX4 40 RX7 yX7_at wsX7_at) := goodIn_app (goodIn_of _ (by decide +kernel)) ggX4_takeNumber_X7_at
set_option maxRecDepth 20000 in
theorem ggX4_takeNumber_X4_isDigit : GoodIn wsX4_takeNumber wsX4_isDigit := goodIn_r _ [26, 1, 2, 16, 17, 18, 19, 20, 21, 22, 27, 28, 29, 30, 31, 32, 33, 34] (by decide +kernel) (by decide +kernel)
set_option maxRecDepth 20000 in
theorem gX4_takeNumber_X4_isDigit : GoodIn wsX4_takeNumber (wsV RX4 58 RX4 yX4_isDigit wsX4_isDigit) := goodIn_app (goodIn_of _ (by decide +kernel)) ggX4_takeNumber_X4_isDigit
theorem dX4_takeNumber_0 : decode cX4_takeNumber 0 = .ok (.aload_n 0, 1) := by decide +kernel
theorem dX4_takeNumber_1 : decode cX4_takeNumber 1 = .ok (.invokevirtual 37, 3) := by decide +kernel
theorem dX4_takeNumber_4 : decode cX4_takeNumber 4 = .ok (.aload_n 0, 1) := by decide +kernel
theorem dX4_takeNumber_5 : decode cX4_takeNumber 5 = .ok (.getfield 16, 3) := by decide +kernel
theorem dX4_takeNumber_8 : decode cX4_takeNumber 8 = .ok (.aload_n 0, 1) := by decide +kernel
theorem dX4_takeNumber_9 : decode cX4_takeNumber 9 = .ok (.getfield 30, 3) := by decide +kernel
theorem dX4_takeNumber_12 : decode cX4_takeNumber 12 = .ok (.invokevirtual 40, 3) := by decide +kernel
theorem dX4_takeNumber_15 : decode cX4_takeNumber 15 = .ok (.bipush 45, 2) := by decide +kernel
theorem dX4_takeNumber_17 : decode cX4_takeNumber 17 = .ok (.if_icmp .ne 7, 3) := by decide +kernel
theorem dX4_takeNumber_20 : decode cX4_takeNumber 20 = .ok (.iconst 1, 1) := by decide +kernel
theorem dX4_takeNumber_21 : decode cX4_takeNumber 21 = .ok (.goto 4, 3) := by decide +kernel
theorem dX4_takeNumber_24 : decode cX4_takeNumber 24 = .ok (.iconst 0, 1) := by decide +kernel
theorem dX4_takeNumber_25 : decode cX4_takeNumber 25 = .ok (.istore_n 1, 1) := by decide +kernel
theorem dX4_takeNumber_26 : decode cX4_takeNumber 26 = .ok (.iload_n 1, 1) := by decide +kernel
theorem dX4_takeNumber_27 : decode cX4_takeNumber 27 = .ok (.ifCond .eq 17, 3) := by decide +kernel
theorem dX4_takeNumber_30 : decode cX4_takeNumber 30 = .ok (.aload_n 0, 1) := by decide +kernel
theorem dX4_takeNumber_31 : decode cX4_takeNumber 31 = .ok (.dup, 1) := by decide +kernel
theorem dX4_takeNumber_32 : decode cX4_takeNumber 32 = .ok (.getfield 30, 3) := by decide +kernel
theorem dX4_takeNumber_35 : decode cX4_takeNumber 35 = .ok (.iconst 1, 1) := by decide +kernel
theorem dX4_takeNumber_36 : decode cX4_takeNumber 36 = .ok (.iadd, 1) := by decide +kernel
theorem dX4_takeNumber_37 : decode cX4_takeNumber 37 = .ok (.putfield 30, 3) := by decide +kernel
theorem dX4_takeNumber_40 : decode cX4_takeNumber 40 = .ok (.aload_n 0, 1) := by decide +kernel
theorem dX4_takeNumber_41 : decode cX4_takeNumber 41 = .ok (.invokevirtual 37, 3) := by decide +kernel
theorem dX4_takeNumber_44 : decode cX4_takeNumber 44 = .ok (.aload_n 0, 1) := by decide +kernel
theorem dX4_takeNumber_45 : decode cX4_takeNumber 45 = .ok (.invokevirtual 58, 3) := by decide +kernel
theorem dX4_takeNumber_48 : decode cX4_takeNumber 48 = .ok (.ifCond .eq 19, 3) := by decide +kernel
theorem dX4_takeNumber_51 : decode cX4_takeNumber 51 = .ok (.aload_n 0, 1) := by decide +kernel
theorem dX4_takeNumber_52 : decode cX4_takeNumber 52 = .ok (.getfield 20, 3) := by decide +kernel
theorem dX4_takeNumber_55 : decode cX4_takeNumber 55 = .ok (.iconst 5, 1) := by decide +kernel
theorem dX4_takeNumber_56 : decode cX4_takeNumber 56 = .ok (.if_icmp .ge 11, 3) := by decide +kernel
theorem dX4_takeNumber_59 : decode cX4_takeNumber 59 = .ok (.aload_n 0, 1) := by decide +kernel
theorem dX4_takeNumber_60 : decode cX4_takeNumber 60 = .ok (.getfield 27, 3) := by decide +kernel
theorem dX4_takeNumber_63 : decode cX4_takeNumber 63 = .ok (.iconst 4, 1) := by decide +kernel
theorem dX4_takeNumber_64 : decode cX4_takeNumber 64 = .ok (.if_icmp .lt 5, 3) := by decide +kernel
theorem dX4_takeNumber_67 : decode cX4_takeNumber 67 = .ok (.iconst 0, 1) := by decide +kernel
theorem dX4_takeNumber_68 : decode cX4_takeNumber 68 = .ok (.ireturn, 1) := by decide +kernel
theorem dX4_takeNumber_69 : decode cX4_takeNumber 69 = .ok (.aload_n 0, 1) := by decide +kernel
theorem dX4_takeNumber_70 : decode cX4_takeNumber 70 = .ok (.getfield 30, 3) := by decide +kernel
theorem dX4_takeNumber_73 : decode cX4_takeNumber 73 = .ok (.istore_n 2, 1) := by decide +kernel
theorem dX4_takeNumber_74 : decode cX4_takeNumber 74 = .ok (.iconst 0, 1) := by decide +kernel
theorem dX4_takeNumber_75 : decode cX4_takeNumber 75 = .ok (.istore_n 3, 1) := by decide +kernel
theorem dX4_takeNumber_76 : decode cX4_takeNumber 76 = .ok (.aload_n 0, 1) := by decide +kernel
theorem dX4_takeNumber_77 : decode cX4_takeNumber 77 = .ok (.getfield 30, 3) := by decide +kernel
theorem dX4_takeNumber_80 : decode cX4_takeNumber 80 = .ok (.aload_n 0, 1) := by decide +kernel
theorem dX4_takeNumber_81 : decode cX4_takeNumber 81 = .ok (.getfield 16, 3) := by decide +kernel
theorem dX4_takeNumber_84 : decode cX4_takeNumber 84 = .ok (.getfield 55, 3) := by decide +kernel
theorem dX4_takeNumber_87 : decode cX4_takeNumber 87 = .ok (.if_icmp .ge 48, 3) := by decide +kernel
theorem dX4_takeNumber_90 : decode cX4_takeNumber 90 = .ok (.aload_n 0, 1) := by decide +kernel
theorem dX4_takeNumber_91 : decode cX4_takeNumber 91 = .ok (.invokevirtual 58, 3) := by decide +kernel
theorem dX4_takeNumber_94 : decode cX4_takeNumber 94 = .ok (.ifCond .eq 41, 3) := by decide +kernel
theorem dX4_takeNumber_97 : decode cX4_takeNumber 97 = .ok (.iload_n 3, 1) := by decide +kernel
theorem dX4_takeNumber_98 : decode cX4_takeNumber 98 = .ok (.bipush 10, 2) := by decide +kernel
theorem dX4_takeNumber_100 : decode cX4_takeNumber 100 = .ok (.imul, 1) := by decide +kernel
theorem dX4_takeNumber_101 : decode cX4_takeNumber 101 = .ok (.aload_n 0, 1) := by decide +kernel
theorem dX4_takeNumber_102 : decode cX4_takeNumber 102 = .ok (.getfield 16, 3) := by decide +kernel
theorem dX4_takeNumber_105 : decode cX4_takeNumber 105 = .ok (.aload_n 0, 1) := by decide +kernel
theorem dX4_takeNumber_106 : decode cX4_takeNumber 106 = .ok (.getfield 30, 3) := by decide +kernel
theorem dX4_takeNumber_109 : decode cX4_takeNumber 109 = .ok (.invokevirtual 40, 3) := by decide +kernel
theorem dX4_takeNumber_112 : decode cX4_takeNumber 112 = .ok (.iadd, 1) := by decide +kernel
theorem dX4_takeNumber_113 : decode cX4_takeNumber 113 = .ok (.bipush 48, 2) := by decide +kernel
theorem dX4_takeNumber_115 : decode cX4_takeNumber 115 = .ok (.isub, 1) := by decide +kernel
theorem dX4_takeNumber_116 : decode cX4_takeNumber 116 = .ok (.bipush 10, 2) := by decide +kernel
theorem dX4_takeNumber_118 : decode cX4_takeNumber 118 = .ok (.invokestatic 61, 3) := by decide +kernel
theorem dX4_takeNumber_121 : decode cX4_takeNumber 121 = .ok (.istore_n 3, 1) := by decide +kernel
theorem dX4_takeNumber_122 : decode cX4_takeNumber 122 = .ok (.aload_n 0, 1) := by decide +kernel
theorem dX4_takeNumber_123 : decode cX4_takeNumber 123 = .ok (.dup, 1) := by decide +kernel
theorem dX4_takeNumber_124 : decode cX4_takeNumber 124 = .ok (.getfield 30, 3) := by decide +kernel
theorem dX4_takeNumber_127 : decode cX4_takeNumber 127 = .ok (.iconst 1, 1) := by decide +kernel
theorem dX4_takeNumber_128 : decode cX4_takeNumber 128 = .ok (.iadd, 1) := by decide +kernel
theorem dX4_takeNumber_129 : decode cX4_takeNumber 129 = .ok (.putfield 30, 3) := by decide +kernel
theorem dX4_takeNumber_132 : decode cX4_takeNumber 132 = .ok (.goto (-56), 3) := by decide +kernel
theorem dX4_takeNumber_135 : decode cX4_takeNumber 135 = .ok (.iload_n 3, 1) := by decide +kernel
theorem dX4_takeNumber_136 : decode cX4_takeNumber 136 = .ok (.bipush 9, 2) := by decide +kernel
theorem dX4_takeNumber_138 : decode cX4_takeNumber 138 = .ok (.if_icmp .le 10, 3) := by decide +kernel
theorem dX4_takeNumber_141 : decode cX4_takeNumber 141 = .ok (.aload_n 0, 1) := by decide +kernel
theorem dX4_takeNumber_142 : decode cX4_takeNumber 142 = .ok (.iload_n 2, 1) := by decide +kernel
theorem dX4_takeNumber_143 : decode cX4_takeNumber 143 = .ok (.putfield 30, 3) := by decide +kernel
theorem dX4_takeNumber_146 : decode cX4_takeNumber 146 = .ok (.iconst 0, 1) := by decide +kernel
theorem dX4_takeNumber_147 : decode cX4_takeNumber 147 = .ok (.ireturn, 1) := by decide +kernel
theorem dX4_takeNumber_148 : decode cX4_takeNumber 148 = .ok (.aload_n 0, 1) := by decide +kernel
theorem dX4_takeNumber_149 : decode cX4_takeNumber 149 = .ok (.getfield 11, 3) := by decide +kernel
theorem dX4_takeNumber_152 : decode cX4_takeNumber 152 = .ok (.aload_n 0, 1) := by decide +kernel
theorem dX4_takeNumber_153 : decode cX4_takeNumber 153 = .ok (.getfield 20, 3) := by decide +kernel
theorem dX4_takeNumber_156 : decode cX4_takeNumber 156 = .ok (.aaload, 1) := by decide +kernel
theorem dX4_takeNumber_157 : decode cX4_takeNumber 157 = .ok (.aload_n 0, 1) := by decide +kernel
theorem dX4_takeNumber_158 : decode cX4_takeNumber 158 = .ok (.getfield 27, 3) := by decide +kernel
theorem dX4_takeNumber_161 : decode cX4_takeNumber 161 = .ok (.iload_n 1, 1) := by decide +kernel
theorem dX4_takeNumber_162 : decode cX4_takeNumber 162 = .ok (.ifCond .eq 8, 3) := by decide +kernel
theorem dX4_takeNumber_165 : decode cX4_takeNumber 165 = .ok (.iload_n 3, 1) := by decide +kernel
theorem dX4_takeNumber_166 : decode cX4_takeNumber 166 = .ok (.ineg, 1) := by decide +kernel
theorem dX4_takeNumber_167 : decode cX4_takeNumber 167 = .ok (.goto 4, 3) := by decide +kernel
theorem dX4_takeNumber_170 : decode cX4_takeNumber 170 = .ok (.iload_n 3, 1) := by decide +kernel
theorem dX4_takeNumber_171 : decode cX4_takeNumber 171 = .ok (.iastore, 1) := by decide +kernel
theorem dX4_takeNumber_172 : decode cX4_takeNumber 172 = .ok (.aload_n 0, 1) := by decide +kernel
theorem dX4_takeNumber_173 : decode cX4_takeNumber 173 = .ok (.dup, 1) := by decide +kernel
theorem dX4_takeNumber_174 : decode cX4_takeNumber 174 = .ok (.getfield 27, 3) := by decide +kernel
theorem dX4_takeNumber_177 : decode cX4_takeNumber 177 = .ok (.iconst 1, 1) := by decide +kernel
theorem dX4_takeNumber_178 : decode cX4_takeNumber 178 = .ok (.iadd, 1) := by decide +kernel
theorem dX4_takeNumber_179 : decode cX4_takeNumber 179 = .ok (.putfield 27, 3) := by decide +kernel
theorem dX4_takeNumber_182 : decode cX4_takeNumber 182 = .ok (.iconst 1, 1) := by decide +kernel
theorem dX4_takeNumber_183 : decode cX4_takeNumber 183 = .ok (.ireturn, 1) := by decide +kernel
theorem dX4_isRowWhole_0 : decode cX4_isRowWhole 0 = .ok (.aload_n 0, 1) := by decide +kernel
theorem dX4_isRowWhole_1 : decode cX4_isRowWhole 1 = .ok (.getfield 20, 3) := by decide +kernel
theorem dX4_isRowWhole_4 : decode cX4_isRowWhole 4 = .ok (.ifCond .eq 14, 3) := by decide +kernel
theorem dX4_isRowWhole_7 : decode cX4_isRowWhole 7 = .ok (.aload_n 0, 1) := by decide +kernel
theorem dX4_isRowWhole_8 : decode cX4_isRowWhole 8 = .ok (.getfield 27, 3) := by decide +kernel
theorem dX4_isRowWhole_11 : decode cX4_isRowWhole 11 = .ok (.aload_n 0, 1) := by decide +kernel
theorem dX4_isRowWhole_12 : decode cX4_isRowWhole 12 = .ok (.getfield 24, 3) := by decide +kernel
theorem dX4_isRowWhole_15 : decode cX4_isRowWhole 15 = .ok (.if_icmp .ne 7, 3) := by decide +kernel
theorem dX4_isRowWhole_18 : decode cX4_isRowWhole 18 = .ok (.iconst 1, 1) := by decide +kernel
theorem dX4_isRowWhole_19 : decode cX4_isRowWhole 19 = .ok (.goto 4, 3) := by decide +kernel
theorem dX4_isRowWhole_22 : decode cX4_isRowWhole 22 = .ok (.iconst 0, 1) := by decide +kernel
theorem dX4_isRowWhole_23 : decode cX4_isRowWhole 23 = .ok (.ireturn, 1) := by decide +kernel
theorem dX4_endRow_0 : decode cX4_endRow 0 = .ok (.aload_n 0, 1) := by decide +kernel
theorem dX4_endRow_1 : decode cX4_endRow 1 = .ok (.aload_n 0, 1) := by decide +kernel
theorem dX4_endRow_2 : decode cX4_endRow 2 = .ok (.getfield 27, 3) := by decide +kernel
theorem dX4_endRow_5 : decode cX4_endRow 5 = .ok (.putfield 24, 3) := by decide +kernel
theorem dX4_endRow_8 : decode cX4_endRow 8 = .ok (.aload_n 0, 1) := by decide +kernel
theorem dX4_endRow_9 : decode cX4_endRow 9 = .ok (.iconst 0, 1) := by decide +kernel
theorem dX4_endRow_10 : decode cX4_endRow 10 = .ok (.putfield 27, 3) := by decide +kernel
theorem dX4_endRow_13 : decode cX4_endRow 13 = .ok (.aload_n 0, 1) := by decide +kernel
theorem dX4_endRow_14 : decode cX4_endRow 14 = .ok (.dup, 1) := by decide +kernel
theorem dX4_endRow_15 : decode cX4_endRow 15 = .ok (.getfield 20, 3) := by decide +kernel
theorem dX4_endRow_18 : decode cX4_endRow 18 = .ok (.iconst 1, 1) := by decide +kernel
theorem dX4_endRow_19 : decode cX4_endRow 19 = .ok (.iadd, 1) := by decide +kernel
theorem dX4_endRow_20 : decode cX4_endRow 20 = .ok (.putfield 20, 3) := by decide +kernel
theorem dX4_endRow_23 : decode cX4_endRow 23 = .ok (.return_, 1) := by decide +kernel
set_option maxRecDepth 20000 in
theorem ggX4_takeSign_X7_at : GoodIn wsX4_takeSign wsX7_at := goodIn_r _ [10, 11, 12, 28, 29] (by decide +kernel) (by decide +kernel)
set_option maxRecDepth 20000 in
theorem gX4_takeSign_X7_at : GoodIn wsX4_takeSign (wsV RX4 40 RX7 yX7_at wsX7_at) := goodIn_app (goodIn_of _ (by decide +kernel)) ggX4_takeSign_X7_at
set_option maxRecDepth 20000 in
theorem ggX4_takeSign_X4_isRowWhole : GoodIn wsX4_takeSign wsX4_isRowWhole := goodIn_r _ [17, 4, 3, 5, 22, 23, 24, 25, 26, 27] (by decide +kernel) (by decide +kernel)
set_option maxRecDepth 20000 in
theorem gX4_takeSign_X4_isRowWhole : GoodIn wsX4_takeSign (wsV RX4 46 RX4 yX4_isRowWhole wsX4_isRowWhole) := goodIn_app (goodIn_of _ (by decide +kernel)) ggX4_takeSign_X4_isRowWhole
set_option maxRecDepth 20000 in
theorem ggX4_takeSign_X4_endRow : GoodIn wsX4_takeSign wsX4_endRow := goodIn_r _ [21, 3, 5, 4, 22, 23, 24, 25, 26, 27] (by decide +kernel) (by decide +kernel)
set_option maxRecDepth 20000 in
theorem gX4_takeSign_X4_endRow : GoodIn wsX4_takeSign (wsV RX4 49 RX4 yX4_endRow wsX4_endRow) := goodIn_app (goodIn_of _ (by decide +kernel)) ggX4_takeSign_X4_endRow
theorem dX4_takeSign_0 : decode cX4_takeSign 0 = .ok (.aload_n 0, 1) := by decide +kernel
theorem dX4_takeSign_1 : decode cX4_takeSign 1 = .ok (.getfield 16, 3) := by decide +kernel
theorem dX4_takeSign_4 : decode cX4_takeSign 4 = .ok (.aload_n 0, 1) := by decide +kernel
theorem dX4_takeSign_5 : decode cX4_takeSign 5 = .ok (.getfield 30, 3) := by decide +kernel
theorem dX4_takeSign_8 : decode cX4_takeSign 8 = .ok (.invokevirtual 40, 3) := by decide +kernel
theorem dX4_takeSign_11 : decode cX4_takeSign 11 = .ok (.istore_n 1, 1) := by decide +kernel
theorem dX4_takeSign_12 : decode cX4_takeSign 12 = .ok (.iload_n 1, 1) := by decide +kernel
theorem dX4_takeSign_13 : decode cX4_takeSign 13 = .ok (.bipush 44, 2) := by decide +kernel
theorem dX4_takeSign_15 : decode cX4_takeSign 15 = .ok (.if_icmp .ne 37, 3) := by decide +kernel
theorem dX4_takeSign_18 : decode cX4_takeSign 18 = .ok (.aload_n 0, 1) := by decide +kernel
theorem dX4_takeSign_19 : decode cX4_takeSign 19 = .ok (.getfield 27, 3) := by decide +kernel
theorem dX4_takeSign_22 : decode cX4_takeSign 22 = .ok (.aload_n 0, 1) := by decide +kernel
theorem dX4_takeSign_23 : decode cX4_takeSign 23 = .ok (.getfield 20, 3) := by decide +kernel
theorem dX4_takeSign_26 : decode cX4_takeSign 26 = .ok (.ifCond .ne 7, 3) := by decide +kernel
theorem dX4_takeSign_29 : decode cX4_takeSign 29 = .ok (.iconst 4, 1) := by decide +kernel
theorem dX4_takeSign_30 : decode cX4_takeSign 30 = .ok (.goto 7, 3) := by decide +kernel
theorem dX4_takeSign_33 : decode cX4_takeSign 33 = .ok (.aload_n 0, 1) := by decide +kernel
theorem dX4_takeSign_34 : decode cX4_takeSign 34 = .ok (.getfield 24, 3) := by decide +kernel
theorem dX4_takeSign_37 : decode cX4_takeSign 37 = .ok (.if_icmp .ge 15, 3) := by decide +kernel
theorem dX4_takeSign_40 : decode cX4_takeSign 40 = .ok (.aload_n 0, 1) := by decide +kernel
theorem dX4_takeSign_41 : decode cX4_takeSign 41 = .ok (.dup, 1) := by decide +kernel
theorem dX4_takeSign_42 : decode cX4_takeSign 42 = .ok (.getfield 30, 3) := by decide +kernel
theorem dX4_takeSign_45 : decode cX4_takeSign 45 = .ok (.iconst 1, 1) := by decide +kernel
theorem dX4_takeSign_46 : decode cX4_takeSign 46 = .ok (.iadd, 1) := by decide +kernel
theorem dX4_takeSign_47 : decode cX4_takeSign 47 = .ok (.putfield 30, 3) := by decide +kernel
theorem dX4_takeSign_50 : decode cX4_takeSign 50 = .ok (.iconst 1, 1) := by decide +kernel
theorem dX4_takeSign_51 : decode cX4_takeSign 51 = .ok (.ireturn, 1) := by decide +kernel
theorem dX4_takeSign_52 : decode cX4_takeSign 52 = .ok (.iload_n 1, 1) := by decide +kernel
theorem dX4_takeSign_53 : decode cX4_takeSign 53 = .ok (.bipush 59, 2) := by decide +kernel
theorem dX4_takeSign_55 : decode cX4_takeSign 55 = .ok (.if_icmp .ne 34, 3) := by decide +kernel
theorem dX4_takeSign_58 : decode cX4_takeSign 58 = .ok (.aload_n 0, 1) := by decide +kernel
theorem dX4_takeSign_59 : decode cX4_takeSign 59 = .ok (.invokevirtual 46, 3) := by decide +kernel
theorem dX4_takeSign_62 : decode cX4_takeSign 62 = .ok (.ifCond .eq 27, 3) := by decide +kernel
theorem dX4_takeSign_65 : decode cX4_takeSign 65 = .ok (.aload_n 0, 1) := by decide +kernel
theorem dX4_takeSign_66 : decode cX4_takeSign 66 = .ok (.getfield 20, 3) := by decide +kernel
theorem dX4_takeSign_69 : decode cX4_takeSign 69 = .ok (.iconst 4, 1) := by decide +kernel
theorem dX4_takeSign_70 : decode cX4_takeSign 70 = .ok (.if_icmp .ge 19, 3) := by decide +kernel
theorem dX4_takeSign_73 : decode cX4_takeSign 73 = .ok (.aload_n 0, 1) := by decide +kernel
theorem dX4_takeSign_74 : decode cX4_takeSign 74 = .ok (.invokevirtual 49, 3) := by decide +kernel
theorem dX4_takeSign_77 : decode cX4_takeSign 77 = .ok (.aload_n 0, 1) := by decide +kernel
theorem dX4_takeSign_78 : decode cX4_takeSign 78 = .ok (.dup, 1) := by decide +kernel
theorem dX4_takeSign_79 : decode cX4_takeSign 79 = .ok (.getfield 30, 3) := by decide +kernel
theorem dX4_takeSign_82 : decode cX4_takeSign 82 = .ok (.iconst 1, 1) := by decide +kernel
theorem dX4_takeSign_83 : decode cX4_takeSign 83 = .ok (.iadd, 1) := by decide +kernel
theorem dX4_takeSign_84 : decode cX4_takeSign 84 = .ok (.putfield 30, 3) := by decide +kernel
theorem dX4_takeSign_87 : decode cX4_takeSign 87 = .ok (.iconst 1, 1) := by decide +kernel
theorem dX4_takeSign_88 : decode cX4_takeSign 88 = .ok (.ireturn, 1) := by decide +kernel
theorem dX4_takeSign_89 : decode cX4_takeSign 89 = .ok (.iconst 0, 1) := by decide +kernel
theorem dX4_takeSign_90 : decode cX4_takeSign 90 = .ok (.ireturn, 1) := by decide +kernel
theorem dX5_init_0 : decode cX5_init 0 = .ok (.aload_n 0, 1) := by decide +kernel
theorem dX5_init_1 : decode cX5_init 1 = .ok (.invokespecial 3, 3) := by decide +kernel
theorem dX5_init_4 : decode cX5_init 4 = .ok (.aload_n 0, 1) := by decide +kernel
theorem dX5_init_5 : decode cX5_init 5 = .ok (.iconst (-1), 1) := by decide +kernel
theorem dX5_init_6 : decode cX5_init 6 = .ok (.putfield 11, 3) := by decide +kernel
theorem dX5_init_9 : decode cX5_init 9 = .ok (.aload_n 0, 1) := by decide +kernel
theorem dX5_init_10 : decode cX5_init 10 = .ok (.iconst 0, 1) := by decide +kernel
theorem dX5_init_11 : decode cX5_init 11 = .ok (.putfield 15, 3) := by decide +kernel
theorem dX5_init_14 : decode cX5_init 14 = .ok (.aload_n 0, 1) := by decide +kernel
theorem dX5_init_15 : decode cX5_init 15 = .ok (.bipush 25, 2) := by decide +kernel
theorem dX5_init_17 : decode cX5_init 17 = .ok (.newarray .long, 2) := by decide +kernel
theorem dX5_init_19 : decode cX5_init 19 = .ok (.putfield 18, 3) := by decide +kernel
theorem dX5_init_22 : decode cX5_init 22 = .ok (.return_, 1) := by decide +kernel
theorem dX5_holds_0 : decode cX5_holds 0 = .ok (.aload_n 0, 1) := by decide +kernel
theorem dX5_holds_1 : decode cX5_holds 1 = .ok (.getfield 11, 3) := by decide +kernel
theorem dX5_holds_4 : decode cX5_holds 4 = .ok (.iconst (-1), 1) := by decide +kernel
theorem dX5_holds_5 : decode cX5_holds 5 = .ok (.if_icmp .eq 7, 3) := by decide +kernel
theorem dX5_holds_8 : decode cX5_holds 8 = .ok (.iconst 1, 1) := by decide +kernel
theorem dX5_holds_9 : decode cX5_holds 9 = .ok (.goto 4, 3) := by decide +kernel
theorem dX5_holds_12 : decode cX5_holds 12 = .ok (.iconst 0, 1) := by decide +kernel
theorem dX5_holds_13 : decode cX5_holds 13 = .ok (.ireturn, 1) := by decide +kernel
set_option maxRecDepth 20000 in
theorem ggX5_renew_J7_fill_d0a16 : GoodIn wsX5_renew wsJ7_fill_d0a16 := goodIn_r _ [7] (by decide +kernel) (by decide +kernel)
set_option maxRecDepth 20000 in
theorem gX5_renew_J7_fill_d0a16 : GoodIn wsX5_renew (va_wsS RX5 22 yJ7_fill_d0a16 wsJ7_fill_d0a16) := goodIn_app (goodIn_of _ (by decide +kernel)) ggX5_renew_J7_fill_d0a16
theorem dX5_renew_0 : decode cX5_renew 0 = .ok (.aload_n 0, 1) := by decide +kernel
theorem dX5_renew_1 : decode cX5_renew 1 = .ok (.iload_n 1, 1) := by decide +kernel
theorem dX5_renew_2 : decode cX5_renew 2 = .ok (.putfield 11, 3) := by decide +kernel
theorem dX5_renew_5 : decode cX5_renew 5 = .ok (.aload_n 0, 1) := by decide +kernel
theorem dX5_renew_6 : decode cX5_renew 6 = .ok (.iload_n 2, 1) := by decide +kernel
theorem dX5_renew_7 : decode cX5_renew 7 = .ok (.putfield 15, 3) := by decide +kernel
theorem dX5_renew_10 : decode cX5_renew 10 = .ok (.aload_n 0, 1) := by decide +kernel
theorem dX5_renew_11 : decode cX5_renew 11 = .ok (.getfield 18, 3) := by decide +kernel
theorem dX5_renew_14 : decode cX5_renew 14 = .ok (.lconst 0, 1) := by decide +kernel
theorem dX5_renew_15 : decode cX5_renew 15 = .ok (.invokestatic 22, 3) := by decide +kernel
theorem dX5_renew_18 : decode cX5_renew 18 = .ok (.return_, 1) := by decide +kernel
theorem dX5_empty_0 : decode cX5_empty 0 = .ok (.aload_n 0, 1) := by decide +kernel
theorem dX5_empty_1 : decode cX5_empty 1 = .ok (.iconst (-1), 1) := by decide +kernel
theorem dX5_empty_2 : decode cX5_empty 2 = .ok (.putfield 11, 3) := by decide +kernel
theorem dX5_empty_5 : decode cX5_empty 5 = .ok (.aload_n 0, 1) := by decide +kernel
theorem dX5_empty_6 : decode cX5_empty 6 = .ok (.iconst 0, 1) := by decide +kernel
theorem dX5_empty_7 : decode cX5_empty 7 = .ok (.putfield 15, 3) := by decide +kernel
theorem dX5_empty_10 : decode cX5_empty 10 = .ok (.return_, 1) := by decide +kernel
theorem dX5_put_0 : decode cX5_put 0 = .ok (.aload_n 0, 1) := by decide +kernel
theorem dX5_put_1 : decode cX5_put 1 = .ok (.getfield 18, 3) := by decide +kernel
theorem dX5_put_4 : decode cX5_put 4 = .ok (.iload_n 1, 1) := by decide +kernel
theorem dX5_put_5 : decode cX5_put 5 = .ok (.aload_n 0, 1) := by decide +kernel
theorem dX5_put_6 : decode cX5_put 6 = .ok (.getfield 11, 3) := by decide +kernel
theorem dX5_put_9 : decode cX5_put 9 = .ok (.ifCond .ne 9, 3) := by decide +kernel
theorem dX5_put_12 : decode cX5_put 12 = .ok (.iload_n 2, 1) := by decide +kernel
theorem dX5_put_13 : decode cX5_put 13 = .ok (.i2b, 1) := by decide +kernel
theorem dX5_put_14 : decode cX5_put 14 = .ok (.i2l, 1) := by decide +kernel
theorem dX5_put_15 : decode cX5_put 15 = .ok (.goto 5, 3) := by decide +kernel
theorem dX5_put_18 : decode cX5_put 18 = .ok (.iload_n 2, 1) := by decide +kernel
theorem dX5_put_19 : decode cX5_put 19 = .ok (.i2l, 1) := by decide +kernel
theorem dX5_put_20 : decode cX5_put 20 = .ok (.lastore, 1) := by decide +kernel
theorem dX5_put_21 : decode cX5_put 21 = .ok (.return_, 1) := by decide +kernel
theorem dX6_init_0 : decode cX6_init 0 = .ok (.aload_n 0, 1) := by decide +kernel
theorem dX6_init_1 : decode cX6_init 1 = .ok (.invokespecial 3, 3) := by decide +kernel
theorem dX6_init_4 : decode cX6_init 4 = .ok (.aload_n 0, 1) := by decide +kernel
theorem dX6_init_5 : decode cX6_init 5 = .ok (.iconst 5, 1) := by decide +kernel
theorem dX6_init_6 : decode cX6_init 6 = .ok (.newarray .int, 2) := by decide +kernel
theorem dX6_init_8 : decode cX6_init 8 = .ok (.putfield 9, 3) := by decide +kernel
theorem dX6_init_11 : decode cX6_init 11 = .ok (.aload_n 0, 1) := by decide +kernel
theorem dX6_init_12 : decode cX6_init 12 = .ok (.iconst 4, 1) := by decide +kernel
theorem dX6_init_13 : decode cX6_init 13 = .ok (.newarray .int, 2) := by decide +kernel
theorem dX6_init_15 : decode cX6_init 15 = .ok (.putfield 15, 3) := by decide +kernel
theorem dX6_init_18 : decode cX6_init 18 = .ok (.aload_n 0, 1) := by decide +kernel
theorem dX6_init_19 : decode cX6_init 19 = .ok (.iconst 4, 1) := by decide +kernel
theorem dX6_init_20 : decode cX6_init 20 = .ok (.newarray .int, 2) := by decide +kernel
theorem dX6_init_22 : decode cX6_init 22 = .ok (.putfield 18, 3) := by decide +kernel
theorem dX6_init_25 : decode cX6_init 25 = .ok (.aload_n 0, 1) := by decide +kernel
theorem dX6_init_26 : decode cX6_init 26 = .ok (.aload_n 1, 1) := by decide +kernel
theorem dX6_init_27 : decode cX6_init 27 = .ok (.putfield 21, 3) := by decide +kernel
theorem dX6_init_30 : decode cX6_init 30 = .ok (.return_, 1) := by decide +kernel
set_option maxRecDepth 20000 in
theorem ggX6_takeAll_X6_greatest : GoodIn wsX6_takeAll wsX6_greatest := goodIn_r _ [14, 1, 8, 15, 16, 17, 18, 19, 49, 50, 51, 52, 53, 54, 55, 56, 57, 58] (by decide +kernel) (by decide +kernel)
set_option maxRecDepth 20000 in
theorem gX6_takeAll_X6_greatest : GoodIn wsX6_takeAll (wsV RX6 40 RX6 yX6_greatest wsX6_greatest) := goodIn_app (goodIn_of _ (by decide +kernel)) ggX6_takeAll_X6_greatest
set_option maxRecDepth 20000 in
theorem ggX6_takeAll_X6_takeOff : GoodIn wsX6_takeAll wsX6_takeOff := goodIn_r _ [23, 1, 16, 15, 3, 24, 25, 26, 27, 28, 29, 17, 18, 19, 30, 31, 32, 33, 34, 35, 36, 37, 38, 39, 40, 41, 42, 43, 44, 45, 46, 47, 48, 49, 50, 51, 52, 53, 54, 55, 56, 57, 58] (by decide +kernel) (by decide +kernel)
set_option maxRecDepth 20000 in
theorem gX6_takeAll_X6_takeOff : GoodIn wsX6_takeAll (wsV RX6 44 RX6 yX6_takeOff wsX6_takeOff) := goodIn_app (goodIn_of _ (by decide +kernel)) ggX6_takeAll_X6_takeOff
theorem dX6_takeAll_0 : decode cX6_takeAll 0 = .ok (.aload_n 0, 1) := by decide +kernel
theorem dX6_takeAll_1 : decode cX6_takeAll 1 = .ok (.getfield 21, 3) := by decide +kernel
theorem dX6_takeAll_4 : decode cX6_takeAll 4 = .ok (.getfield 25, 3) := by decide +kernel
theorem dX6_takeAll_7 : decode cX6_takeAll 7 = .ok (.iconst 0, 1) := by decide +kernel
theorem dX6_takeAll_8 : decode cX6_takeAll 8 = .ok (.aload_n 0, 1) := by decide +kernel
theorem dX6_takeAll_9 : decode cX6_takeAll 9 = .ok (.getfield 9, 3) := by decide +kernel
theorem dX6_takeAll_12 : decode cX6_takeAll 12 = .ok (.iconst 0, 1) := by decide +kernel
theorem dX6_takeAll_13 : decode cX6_takeAll 13 = .ok (.iconst 5, 1) := by decide +kernel
theorem dX6_takeAll_14 : decode cX6_takeAll 14 = .ok (.invokestatic 30, 3) := by decide +kernel
theorem dX6_takeAll_17 : decode cX6_takeAll 17 = .ok (.iconst 0, 1) := by decide +kernel
theorem dX6_takeAll_18 : decode cX6_takeAll 18 = .ok (.istore_n 1, 1) := by decide +kernel
theorem dX6_takeAll_19 : decode cX6_takeAll 19 = .ok (.iconst 0, 1) := by decide +kernel
theorem dX6_takeAll_20 : decode cX6_takeAll 20 = .ok (.istore_n 2, 1) := by decide +kernel
theorem dX6_takeAll_21 : decode cX6_takeAll 21 = .ok (.iload_n 2, 1) := by decide +kernel
theorem dX6_takeAll_22 : decode cX6_takeAll 22 = .ok (.aload_n 0, 1) := by decide +kernel
theorem dX6_takeAll_23 : decode cX6_takeAll 23 = .ok (.getfield 21, 3) := by decide +kernel
theorem dX6_takeAll_26 : decode cX6_takeAll 26 = .ok (.getfield 36, 3) := by decide +kernel
theorem dX6_takeAll_29 : decode cX6_takeAll 29 = .ok (.if_icmp .ge 33, 3) := by decide +kernel
theorem dX6_takeAll_32 : decode cX6_takeAll 32 = .ok (.aload_n 0, 1) := by decide +kernel
theorem dX6_takeAll_33 : decode cX6_takeAll 33 = .ok (.iload_n 1, 1) := by decide +kernel
theorem dX6_takeAll_34 : decode cX6_takeAll 34 = .ok (.invokevirtual 40, 3) := by decide +kernel
theorem dX6_takeAll_37 : decode cX6_takeAll 37 = .ok (.istore_n 3, 1) := by decide +kernel
theorem dX6_takeAll_38 : decode cX6_takeAll 38 = .ok (.aload_n 0, 1) := by decide +kernel
theorem dX6_takeAll_39 : decode cX6_takeAll 39 = .ok (.getfield 15, 3) := by decide +kernel
theorem dX6_takeAll_42 : decode cX6_takeAll 42 = .ok (.iload_n 2, 1) := by decide +kernel
theorem dX6_takeAll_43 : decode cX6_takeAll 43 = .ok (.iload_n 3, 1) := by decide +kernel
theorem dX6_takeAll_44 : decode cX6_takeAll 44 = .ok (.iastore, 1) := by decide +kernel
theorem dX6_takeAll_45 : decode cX6_takeAll 45 = .ok (.iload_n 1, 1) := by decide +kernel
theorem dX6_takeAll_46 : decode cX6_takeAll 46 = .ok (.iconst 1, 1) := by decide +kernel
theorem dX6_takeAll_47 : decode cX6_takeAll 47 = .ok (.iload_n 3, 1) := by decide +kernel
theorem dX6_takeAll_48 : decode cX6_takeAll 48 = .ok (.ishl, 1) := by decide +kernel
theorem dX6_takeAll_49 : decode cX6_takeAll 49 = .ok (.ior, 1) := by decide +kernel
theorem dX6_takeAll_50 : decode cX6_takeAll 50 = .ok (.istore_n 1, 1) := by decide +kernel
theorem dX6_takeAll_51 : decode cX6_takeAll 51 = .ok (.aload_n 0, 1) := by decide +kernel
theorem dX6_takeAll_52 : decode cX6_takeAll 52 = .ok (.iload_n 3, 1) := by decide +kernel
theorem dX6_takeAll_53 : decode cX6_takeAll 53 = .ok (.invokevirtual 44, 3) := by decide +kernel
theorem dX6_takeAll_56 : decode cX6_takeAll 56 = .ok (.iinc 2 1, 3) := by decide +kernel
theorem dX6_takeAll_59 : decode cX6_takeAll 59 = .ok (.goto (-38), 3) := by decide +kernel
theorem dX6_takeAll_62 : decode cX6_takeAll 62 = .ok (.return_, 1) := by decide +kernel
set_option maxRecDepth 20000 in
theorem ggX6_greatest_X9_product : GoodIn wsX6_greatest wsX9_product := goodIn_r _ [7] (by decide +kernel) (by decide +kernel)
set_option maxRecDepth 20000 in
theorem gX6_greatest_X9_product_n55 : GoodIn wsX6_greatest (wsX9_product) := ggX6_greatest_X9_product
theorem dX6_greatest_0 : decode cX6_greatest 0 = .ok (.iconst 0, 1) := by decide +kernel
theorem dX6_greatest_1 : decode cX6_greatest 1 = .ok (.istore_n 2, 1) := by decide +kernel
theorem dX6_greatest_2 : decode cX6_greatest 2 = .ok (.iconst (-1), 1) := by decide +kernel
theorem dX6_greatest_3 : decode cX6_greatest 3 = .ok (.istore_n 3, 1) := by decide +kernel
theorem dX6_greatest_4 : decode cX6_greatest 4 = .ok (.iconst 0, 1) := by decide +kernel
theorem dX6_greatest_5 : decode cX6_greatest 5 = .ok (.istore 4, 2) := by decide +kernel
theorem dX6_greatest_7 : decode cX6_greatest 7 = .ok (.iload 4, 2) := by decide +kernel
theorem dX6_greatest_9 : decode cX6_greatest 9 = .ok (.aload_n 0, 1) := by decide +kernel
theorem dX6_greatest_10 : decode cX6_greatest 10 = .ok (.getfield 21, 3) := by decide +kernel
theorem dX6_greatest_13 : decode cX6_greatest 13 = .ok (.getfield 36, 3) := by decide +kernel
theorem dX6_greatest_16 : decode cX6_greatest 16 = .ok (.if_icmp .ge 53, 3) := by decide +kernel
theorem dX6_greatest_19 : decode cX6_greatest 19 = .ok (.aload_n 0, 1) := by decide +kernel
theorem dX6_greatest_20 : decode cX6_greatest 20 = .ok (.getfield 21, 3) := by decide +kernel
theorem dX6_greatest_23 : decode cX6_greatest 23 = .ok (.getfield 48, 3) := by decide +kernel
theorem dX6_greatest_26 : decode cX6_greatest 26 = .ok (.aload_n 0, 1) := by decide +kernel
theorem dX6_greatest_27 : decode cX6_greatest 27 = .ok (.getfield 21, 3) := by decide +kernel
theorem dX6_greatest_30 : decode cX6_greatest 30 = .ok (.getfield 52, 3) := by decide +kernel
theorem dX6_greatest_33 : decode cX6_greatest 33 = .ok (.iload 4, 2) := by decide +kernel
theorem dX6_greatest_35 : decode cX6_greatest 35 = .ok (.iload 4, 2) := by decide +kernel
theorem dX6_greatest_37 : decode cX6_greatest 37 = .ok (.invokestatic 55, 3) := by decide +kernel
theorem dX6_greatest_40 : decode cX6_greatest 40 = .ok (.istore 5, 2) := by decide +kernel
theorem dX6_greatest_42 : decode cX6_greatest 42 = .ok (.iload_n 1, 1) := by decide +kernel
theorem dX6_greatest_43 : decode cX6_greatest 43 = .ok (.iload 4, 2) := by decide +kernel
theorem dX6_greatest_45 : decode cX6_greatest 45 = .ok (.ishr, 1) := by decide +kernel
theorem dX6_greatest_46 : decode cX6_greatest 46 = .ok (.iconst 1, 1) := by decide +kernel
theorem dX6_greatest_47 : decode cX6_greatest 47 = .ok (.iand, 1) := by decide +kernel
theorem dX6_greatest_48 : decode cX6_greatest 48 = .ok (.ifCond .ne 15, 3) := by decide +kernel
theorem dX6_greatest_51 : decode cX6_greatest 51 = .ok (.iload 5, 2) := by decide +kernel
theorem dX6_greatest_53 : decode cX6_greatest 53 = .ok (.iload_n 3, 1) := by decide +kernel
theorem dX6_greatest_54 : decode cX6_greatest 54 = .ok (.if_icmp .le 9, 3) := by decide +kernel
theorem dX6_greatest_57 : decode cX6_greatest 57 = .ok (.iload 4, 2) := by decide +kernel
theorem dX6_greatest_59 : decode cX6_greatest 59 = .ok (.istore_n 2, 1) := by decide +kernel
theorem dX6_greatest_60 : decode cX6_greatest 60 = .ok (.iload 5, 2) := by decide +kernel
theorem dX6_greatest_62 : decode cX6_greatest 62 = .ok (.istore_n 3, 1) := by decide +kernel
theorem dX6_greatest_63 : decode cX6_greatest 63 = .ok (.iinc 4 1, 3) := by decide +kernel
theorem dX6_greatest_66 : decode cX6_greatest 66 = .ok (.goto (-59), 3) := by decide +kernel
theorem dX6_greatest_69 : decode cX6_greatest 69 = .ok (.iload_n 2, 1) := by decide +kernel
theorem dX6_greatest_70 : decode cX6_greatest 70 = .ok (.ireturn, 1) := by decide +kernel
set_option maxRecDepth 20000 in
theorem ggX6_takeOff_X9_product : GoodIn wsX6_takeOff wsX9_product := goodIn_r _ [13] (by decide +kernel) (by decide +kernel)
set_option maxRecDepth 20000 in
theorem gX6_takeOff_X9_product_n55 : GoodIn wsX6_takeOff (wsX9_product) := ggX6_takeOff_X9_product
set_option maxRecDepth 20000 in
theorem ggX6_takeOff_X9_nearestLetter : GoodIn wsX6_takeOff wsX9_nearestLetter := goodIn_r _ [15, 16, 17, 18, 12, 19, 20, 21, 22, 23, 24, 25, 26, 27, 28, 7, 29, 30, 31, 32] (by decide +kernel) (by decide +kernel)
set_option maxRecDepth 20000 in
theorem gX6_takeOff_X9_nearestLetter_n68 : GoodIn wsX6_takeOff (wsX9_nearestLetter) := ggX6_takeOff_X9_nearestLetter
theorem dX6_takeOff_0 : decode cX6_takeOff 0 = .ok (.iconst 0, 1) := by decide +kernel
theorem dX6_takeOff_1 : decode cX6_takeOff 1 = .ok (.istore_n 2, 1) := by decide +kernel
theorem dX6_takeOff_2 : decode cX6_takeOff 2 = .ok (.iconst 0, 1) := by decide +kernel
theorem dX6_takeOff_3 : decode cX6_takeOff 3 = .ok (.istore_n 3, 1) := by decide +kernel
theorem dX6_takeOff_4 : decode cX6_takeOff 4 = .ok (.iload_n 3, 1) := by decide +kernel
theorem dX6_takeOff_5 : decode cX6_takeOff 5 = .ok (.aload_n 0, 1) := by decide +kernel
theorem dX6_takeOff_6 : decode cX6_takeOff 6 = .ok (.getfield 21, 3) := by decide +kernel
theorem dX6_takeOff_9 : decode cX6_takeOff 9 = .ok (.getfield 52, 3) := by decide +kernel
theorem dX6_takeOff_12 : decode cX6_takeOff 12 = .ok (.if_icmp .ge 30, 3) := by decide +kernel
theorem dX6_takeOff_15 : decode cX6_takeOff 15 = .ok (.iload_n 2, 1) := by decide +kernel
theorem dX6_takeOff_16 : decode cX6_takeOff 16 = .ok (.aload_n 0, 1) := by decide +kernel
theorem dX6_takeOff_17 : decode cX6_takeOff 17 = .ok (.getfield 21, 3) := by decide +kernel
theorem dX6_takeOff_20 : decode cX6_takeOff 20 = .ok (.getfield 48, 3) := by decide +kernel
theorem dX6_takeOff_23 : decode cX6_takeOff 23 = .ok (.iload_n 3, 1) := by decide +kernel
theorem dX6_takeOff_24 : decode cX6_takeOff 24 = .ok (.aaload, 1) := by decide +kernel
theorem dX6_takeOff_25 : decode cX6_takeOff 25 = .ok (.iload_n 1, 1) := by decide +kernel
theorem dX6_takeOff_26 : decode cX6_takeOff 26 = .ok (.iaload, 1) := by decide +kernel
theorem dX6_takeOff_27 : decode cX6_takeOff 27 = .ok (.aload_n 0, 1) := by decide +kernel
theorem dX6_takeOff_28 : decode cX6_takeOff 28 = .ok (.getfield 9, 3) := by decide +kernel
theorem dX6_takeOff_31 : decode cX6_takeOff 31 = .ok (.iload_n 3, 1) := by decide +kernel
theorem dX6_takeOff_32 : decode cX6_takeOff 32 = .ok (.iaload, 1) := by decide +kernel
theorem dX6_takeOff_33 : decode cX6_takeOff 33 = .ok (.imul, 1) := by decide +kernel
theorem dX6_takeOff_34 : decode cX6_takeOff 34 = .ok (.iadd, 1) := by decide +kernel
theorem dX6_takeOff_35 : decode cX6_takeOff 35 = .ok (.istore_n 2, 1) := by decide +kernel
theorem dX6_takeOff_36 : decode cX6_takeOff 36 = .ok (.iinc 3 1, 3) := by decide +kernel
theorem dX6_takeOff_39 : decode cX6_takeOff 39 = .ok (.goto (-35), 3) := by decide +kernel
theorem dX6_takeOff_42 : decode cX6_takeOff 42 = .ok (.iconst 1, 1) := by decide +kernel
theorem dX6_takeOff_43 : decode cX6_takeOff 43 = .ok (.aload_n 0, 1) := by decide +kernel
theorem dX6_takeOff_44 : decode cX6_takeOff 44 = .ok (.getfield 21, 3) := by decide +kernel
theorem dX6_takeOff_47 : decode cX6_takeOff 47 = .ok (.getfield 48, 3) := by decide +kernel
theorem dX6_takeOff_50 : decode cX6_takeOff 50 = .ok (.aload_n 0, 1) := by decide +kernel
theorem dX6_takeOff_51 : decode cX6_takeOff 51 = .ok (.getfield 21, 3) := by decide +kernel
theorem dX6_takeOff_54 : decode cX6_takeOff 54 = .ok (.getfield 52, 3) := by decide +kernel
theorem dX6_takeOff_57 : decode cX6_takeOff 57 = .ok (.iload_n 1, 1) := by decide +kernel
theorem dX6_takeOff_58 : decode cX6_takeOff 58 = .ok (.iload_n 1, 1) := by decide +kernel
theorem dX6_takeOff_59 : decode cX6_takeOff 59 = .ok (.invokestatic 55, 3) := by decide +kernel
theorem dX6_takeOff_62 : decode cX6_takeOff 62 = .ok (.invokestatic 59, 3) := by decide +kernel
theorem dX6_takeOff_65 : decode cX6_takeOff 65 = .ok (.istore_n 3, 1) := by decide +kernel
theorem dX6_takeOff_66 : decode cX6_takeOff 66 = .ok (.aload_n 0, 1) := by decide +kernel
theorem dX6_takeOff_67 : decode cX6_takeOff 67 = .ok (.getfield 18, 3) := by decide +kernel
theorem dX6_takeOff_70 : decode cX6_takeOff 70 = .ok (.iload_n 1, 1) := by decide +kernel
theorem dX6_takeOff_71 : decode cX6_takeOff 71 = .ok (.iload_n 2, 1) := by decide +kernel
theorem dX6_takeOff_72 : decode cX6_takeOff 72 = .ok (.i2l, 1) := by decide +kernel
theorem dX6_takeOff_73 : decode cX6_takeOff 73 = .ok (.iload_n 3, 1) := by decide +kernel
theorem dX6_takeOff_74 : decode cX6_takeOff 74 = .ok (.i2l, 1) := by decide +kernel
theorem dX6_takeOff_75 : decode cX6_takeOff 75 = .ok (.aload_n 0, 1) := by decide +kernel
theorem dX6_takeOff_76 : decode cX6_takeOff 76 = .ok (.getfield 21, 3) := by decide +kernel
theorem dX6_takeOff_79 : decode cX6_takeOff 79 = .ok (.getfield 65, 3) := by decide +kernel
theorem dX6_takeOff_82 : decode cX6_takeOff 82 = .ok (.invokestatic 68, 3) := by decide +kernel
theorem dX6_takeOff_85 : decode cX6_takeOff 85 = .ok (.iastore, 1) := by decide +kernel
theorem dX6_takeOff_86 : decode cX6_takeOff 86 = .ok (.iconst 2, 1) := by decide +kernel
theorem dX6_takeOff_87 : decode cX6_takeOff 87 = .ok (.aload_n 0, 1) := by decide +kernel
theorem dX6_takeOff_88 : decode cX6_takeOff 88 = .ok (.getfield 18, 3) := by decide +kernel
theorem dX6_takeOff_91 : decode cX6_takeOff 91 = .ok (.iload_n 1, 1) := by decide +kernel
theorem dX6_takeOff_92 : decode cX6_takeOff 92 = .ok (.iaload, 1) := by decide +kernel
theorem dX6_takeOff_93 : decode cX6_takeOff 93 = .ok (.imul, 1) := by decide +kernel
theorem dX6_takeOff_94 : decode cX6_takeOff 94 = .ok (.aload_n 0, 1) := by decide +kernel
theorem dX6_takeOff_95 : decode cX6_takeOff 95 = .ok (.getfield 21, 3) := by decide +kernel
theorem dX6_takeOff_98 : decode cX6_takeOff 98 = .ok (.getfield 65, 3) := by decide +kernel
theorem dX6_takeOff_101 : decode cX6_takeOff 101 = .ok (.isub, 1) := by decide +kernel
theorem dX6_takeOff_102 : decode cX6_takeOff 102 = .ok (.iconst 1, 1) := by decide +kernel
theorem dX6_takeOff_103 : decode cX6_takeOff 103 = .ok (.iadd, 1) := by decide +kernel
theorem dX6_takeOff_104 : decode cX6_takeOff 104 = .ok (.istore 4, 2) := by decide +kernel
theorem dX6_takeOff_106 : decode cX6_takeOff 106 = .ok (.iconst 0, 1) := by decide +kernel
theorem dX6_takeOff_107 : decode cX6_takeOff 107 = .ok (.istore 5, 2) := by decide +kernel
theorem dX6_takeOff_109 : decode cX6_takeOff 109 = .ok (.iload 5, 2) := by decide +kernel
theorem dX6_takeOff_111 : decode cX6_takeOff 111 = .ok (.aload_n 0, 1) := by decide +kernel
theorem dX6_takeOff_112 : decode cX6_takeOff 112 = .ok (.getfield 21, 3) := by decide +kernel
theorem dX6_takeOff_115 : decode cX6_takeOff 115 = .ok (.getfield 52, 3) := by decide +kernel
theorem dX6_takeOff_118 : decode cX6_takeOff 118 = .ok (.if_icmp .ge 34, 3) := by decide +kernel
theorem dX6_takeOff_121 : decode cX6_takeOff 121 = .ok (.aload_n 0, 1) := by decide +kernel
theorem dX6_takeOff_122 : decode cX6_takeOff 122 = .ok (.getfield 9, 3) := by decide +kernel
theorem dX6_takeOff_125 : decode cX6_takeOff 125 = .ok (.iload 5, 2) := by decide +kernel
theorem dX6_takeOff_127 : decode cX6_takeOff 127 = .ok (.dup2, 1) := by decide +kernel
theorem dX6_takeOff_128 : decode cX6_takeOff 128 = .ok (.iaload, 1) := by decide +kernel
theorem dX6_takeOff_129 : decode cX6_takeOff 129 = .ok (.iload 4, 2) := by decide +kernel
theorem dX6_takeOff_131 : decode cX6_takeOff 131 = .ok (.aload_n 0, 1) := by decide +kernel
theorem dX6_takeOff_132 : decode cX6_takeOff 132 = .ok (.getfield 21, 3) := by decide +kernel
theorem dX6_takeOff_135 : decode cX6_takeOff 135 = .ok (.getfield 48, 3) := by decide +kernel
theorem dX6_takeOff_138 : decode cX6_takeOff 138 = .ok (.iload 5, 2) := by decide +kernel
theorem dX6_takeOff_140 : decode cX6_takeOff 140 = .ok (.aaload, 1) := by decide +kernel
theorem dX6_takeOff_141 : decode cX6_takeOff 141 = .ok (.iload_n 1, 1) := by decide +kernel
theorem dX6_takeOff_142 : decode cX6_takeOff 142 = .ok (.iaload, 1) := by decide +kernel
theorem dX6_takeOff_143 : decode cX6_takeOff 143 = .ok (.imul, 1) := by decide +kernel
theorem dX6_takeOff_144 : decode cX6_takeOff 144 = .ok (.isub, 1) := by decide +kernel
theorem dX6_takeOff_145 : decode cX6_takeOff 145 = .ok (.iastore, 1) := by decide +kernel
theorem dX6_takeOff_146 : decode cX6_takeOff 146 = .ok (.iinc 5 1, 3) := by decide +kernel
theorem dX6_takeOff_149 : decode cX6_takeOff 149 = .ok (.goto (-40), 3) := by decide +kernel
theorem dX6_takeOff_152 : decode cX6_takeOff 152 = .ok (.return_, 1) := by decide +kernel
theorem dX7_init_0 : decode cX7_init 0 = .ok (.aload_n 0, 1) := by decide +kernel
theorem dX7_init_1 : decode cX7_init 1 = .ok (.invokespecial 1, 3) := by decide +kernel
theorem dX7_init_4 : decode cX7_init 4 = .ok (.aload_n 0, 1) := by decide +kernel
theorem dX7_init_5 : decode cX7_init 5 = .ok (.bipush 90, 2) := by decide +kernel
theorem dX7_init_7 : decode cX7_init 7 = .ok (.newarray .byte, 2) := by decide +kernel
theorem dX7_init_9 : decode cX7_init 9 = .ok (.putfield 9, 3) := by decide +kernel
theorem dX7_init_12 : decode cX7_init 12 = .ok (.aload_n 0, 1) := by decide +kernel
theorem dX7_init_13 : decode cX7_init 13 = .ok (.iconst 0, 1) := by decide +kernel
theorem dX7_init_14 : decode cX7_init 14 = .ok (.putfield 13, 3) := by decide +kernel
theorem dX7_init_17 : decode cX7_init 17 = .ok (.return_, 1) := by decide +kernel
set_option maxRecDepth 20000 in
theorem ggX7_takes_X7_byteOf : GoodIn wsX7_takes wsX7_byteOf := goodIn_r _ [4, 5] (by decide +kernel) (by decide +kernel)
set_option maxRecDepth 20000 in
theorem gX7_takes_X7_byteOf : GoodIn wsX7_takes (va_wsS RX7 17 yX7_byteOf wsX7_byteOf) := goodIn_app (goodIn_of _ (by decide +kernel)) ggX7_takes_X7_byteOf
theorem dX7_takes_0 : decode cX7_takes 0 = .ok (.iconst 0, 1) := by decide +kernel
theorem dX7_takes_1 : decode cX7_takes 1 = .ok (.istore_n 3, 1) := by decide +kernel
theorem dX7_takes_2 : decode cX7_takes 2 = .ok (.iload_n 3, 1) := by decide +kernel
theorem dX7_takes_3 : decode cX7_takes 3 = .ok (.iload_n 2, 1) := by decide +kernel
theorem dX7_takes_4 : decode cX7_takes 4 = .ok (.if_icmp .ge 32, 3) := by decide +kernel
theorem dX7_takes_7 : decode cX7_takes 7 = .ok (.lload_n 0, 1) := by decide +kernel
theorem dX7_takes_8 : decode cX7_takes 8 = .ok (.iload_n 3, 1) := by decide +kernel
theorem dX7_takes_9 : decode cX7_takes 9 = .ok (.invokestatic 17, 3) := by decide +kernel
theorem dX7_takes_12 : decode cX7_takes 12 = .ok (.istore 4, 2) := by decide +kernel
theorem dX7_takes_14 : decode cX7_takes 14 = .ok (.iload 4, 2) := by decide +kernel
theorem dX7_takes_16 : decode cX7_takes 16 = .ok (.bipush 32, 2) := by decide +kernel
theorem dX7_takes_18 : decode cX7_takes 18 = .ok (.if_icmp .lt 10, 3) := by decide +kernel
theorem dX7_takes_21 : decode cX7_takes 21 = .ok (.iload 4, 2) := by decide +kernel
theorem dX7_takes_23 : decode cX7_takes 23 = .ok (.bipush 126, 2) := by decide +kernel
theorem dX7_takes_25 : decode cX7_takes 25 = .ok (.if_icmp .le 5, 3) := by decide +kernel
theorem dX7_takes_28 : decode cX7_takes 28 = .ok (.iconst 0, 1) := by decide +kernel
theorem dX7_takes_29 : decode cX7_takes 29 = .ok (.ireturn, 1) := by decide +kernel
theorem dX7_takes_30 : decode cX7_takes 30 = .ok (.iinc 3 1, 3) := by decide +kernel
theorem dX7_takes_33 : decode cX7_takes 33 = .ok (.goto (-31), 3) := by decide +kernel
theorem dX7_takes_36 : decode cX7_takes 36 = .ok (.iconst 1, 1) := by decide +kernel
theorem dX7_takes_37 : decode cX7_takes 37 = .ok (.ireturn, 1) := by decide +kernel
theorem dX7_byteOf_0 : decode cX7_byteOf 0 = .ok (.lload_n 0, 1) := by decide +kernel
theorem dX7_byteOf_1 : decode cX7_byteOf 1 = .ok (.bipush 8, 2) := by decide +kernel
theorem dX7_byteOf_3 : decode cX7_byteOf 3 = .ok (.iload_n 2, 1) := by decide +kernel
theorem dX7_byteOf_4 : decode cX7_byteOf 4 = .ok (.imul, 1) := by decide +kernel
theorem dX7_byteOf_5 : decode cX7_byteOf 5 = .ok (.lshr, 1) := by decide +kernel
theorem dX7_byteOf_6 : decode cX7_byteOf 6 = .ok (.ldc2_w 21, 3) := by decide +kernel
theorem dX7_byteOf_9 : decode cX7_byteOf 9 = .ok (.land, 1) := by decide +kernel
theorem dX7_byteOf_10 : decode cX7_byteOf 10 = .ok (.l2i, 1) := by decide +kernel
theorem dX7_byteOf_11 : decode cX7_byteOf 11 = .ok (.ireturn, 1) := by decide +kernel
theorem dX7_hasRoom_0 : decode cX7_hasRoom 0 = .ok (.aload_n 0, 1) := by decide +kernel
theorem dX7_hasRoom_1 : decode cX7_hasRoom 1 = .ok (.getfield 13, 3) := by decide +kernel
theorem dX7_hasRoom_4 : decode cX7_hasRoom 4 = .ok (.bipush 90, 2) := by decide +kernel
theorem dX7_hasRoom_6 : decode cX7_hasRoom 6 = .ok (.iload_n 1, 1) := by decide +kernel
theorem dX7_hasRoom_7 : decode cX7_hasRoom 7 = .ok (.isub, 1) := by decide +kernel
theorem dX7_hasRoom_8 : decode cX7_hasRoom 8 = .ok (.if_icmp .gt 7, 3) := by decide +kernel
theorem dX7_hasRoom_11 : decode cX7_hasRoom 11 = .ok (.iconst 1, 1) := by decide +kernel
theorem dX7_hasRoom_12 : decode cX7_hasRoom 12 = .ok (.goto 4, 3) := by decide +kernel
theorem dX7_hasRoom_15 : decode cX7_hasRoom 15 = .ok (.iconst 0, 1) := by decide +kernel
theorem dX7_hasRoom_16 : decode cX7_hasRoom 16 = .ok (.ireturn, 1) := by decide +kernel
set_option maxRecDepth 20000 in
theorem ggX7_append_X7_byteOf : GoodIn wsX7_append wsX7_byteOf := goodIn_r _ [6, 7] (by decide +kernel) (by decide +kernel)
set_option maxRecDepth 20000 in
theorem gX7_append_X7_byteOf : GoodIn wsX7_append (va_wsS RX7 17 yX7_byteOf wsX7_byteOf) := goodIn_app (goodIn_of _ (by decide +kernel)) ggX7_append_X7_byteOf
theorem dX7_append_0 : decode cX7_append 0 = .ok (.iload_n 3, 1) := by decide +kernel
theorem dX7_append_1 : decode cX7_append 1 = .ok (.iconst 1, 1) := by decide +kernel
theorem dX7_append_2 : decode cX7_append 2 = .ok (.isub, 1) := by decide +kernel
theorem dX7_append_3 : decode cX7_append 3 = .ok (.istore 4, 2) := by decide +kernel
theorem dX7_append_5 : decode cX7_append 5 = .ok (.iload 4, 2) := by decide +kernel
theorem dX7_append_7 : decode cX7_append 7 = .ok (.ifCond .lt 35, 3) := by decide +kernel
theorem dX7_append_10 : decode cX7_append 10 = .ok (.aload_n 0, 1) := by decide +kernel
theorem dX7_append_11 : decode cX7_append 11 = .ok (.getfield 9, 3) := by decide +kernel
theorem dX7_append_14 : decode cX7_append 14 = .ok (.aload_n 0, 1) := by decide +kernel
theorem dX7_append_15 : decode cX7_append 15 = .ok (.getfield 13, 3) := by decide +kernel
theorem dX7_append_18 : decode cX7_append 18 = .ok (.lload_n 1, 1) := by decide +kernel
theorem dX7_append_19 : decode cX7_append 19 = .ok (.iload 4, 2) := by decide +kernel
theorem dX7_append_21 : decode cX7_append 21 = .ok (.invokestatic 17, 3) := by decide +kernel
theorem dX7_append_24 : decode cX7_append 24 = .ok (.i2b, 1) := by decide +kernel
theorem dX7_append_25 : decode cX7_append 25 = .ok (.bastore, 1) := by decide +kernel
theorem dX7_append_26 : decode cX7_append 26 = .ok (.aload_n 0, 1) := by decide +kernel
theorem dX7_append_27 : decode cX7_append 27 = .ok (.dup, 1) := by decide +kernel
theorem dX7_append_28 : decode cX7_append 28 = .ok (.getfield 13, 3) := by decide +kernel
theorem dX7_append_31 : decode cX7_append 31 = .ok (.iconst 1, 1) := by decide +kernel
theorem dX7_append_32 : decode cX7_append 32 = .ok (.iadd, 1) := by decide +kernel
theorem dX7_append_33 : decode cX7_append 33 = .ok (.putfield 13, 3) := by decide +kernel
theorem dX7_append_36 : decode cX7_append 36 = .ok (.iinc 4 (-1), 3) := by decide +kernel
theorem dX7_append_39 : decode cX7_append 39 = .ok (.goto (-34), 3) := by decide +kernel
theorem dX7_append_42 : decode cX7_append 42 = .ok (.aload_n 0, 1) := by decide +kernel
theorem dX7_append_43 : decode cX7_append 43 = .ok (.getfield 13, 3) := by decide +kernel
theorem dX7_append_46 : decode cX7_append 46 = .ok (.ireturn, 1) := by decide +kernel
theorem dX7_at_0 : decode cX7_at 0 = .ok (.iload_n 1, 1) := by decide +kernel
theorem dX7_at_1 : decode cX7_at 1 = .ok (.ifCond .lt 20, 3) := by decide +kernel
theorem dX7_at_4 : decode cX7_at 4 = .ok (.iload_n 1, 1) := by decide +kernel
theorem dX7_at_5 : decode cX7_at 5 = .ok (.aload_n 0, 1) := by decide +kernel
theorem dX7_at_6 : decode cX7_at 6 = .ok (.getfield 13, 3) := by decide +kernel
theorem dX7_at_9 : decode cX7_at 9 = .ok (.if_icmp .ge 12, 3) := by decide +kernel
theorem dX7_at_12 : decode cX7_at 12 = .ok (.aload_n 0, 1) := by decide +kernel
theorem dX7_at_13 : decode cX7_at 13 = .ok (.getfield 9, 3) := by decide +kernel
theorem dX7_at_16 : decode cX7_at 16 = .ok (.iload_n 1, 1) := by decide +kernel
theorem dX7_at_17 : decode cX7_at 17 = .ok (.baload, 1) := by decide +kernel
theorem dX7_at_18 : decode cX7_at 18 = .ok (.goto 4, 3) := by decide +kernel
theorem dX7_at_21 : decode cX7_at 21 = .ok (.iconst (-1), 1) := by decide +kernel
theorem dX7_at_22 : decode cX7_at 22 = .ok (.ireturn, 1) := by decide +kernel
theorem dX7_clear_0 : decode cX7_clear 0 = .ok (.aload_n 0, 1) := by decide +kernel
theorem dX7_clear_1 : decode cX7_clear 1 = .ok (.iconst 0, 1) := by decide +kernel
theorem dX7_clear_2 : decode cX7_clear 2 = .ok (.putfield 13, 3) := by decide +kernel
theorem dX7_clear_5 : decode cX7_clear 5 = .ok (.return_, 1) := by decide +kernel
theorem dX8_init_0 : decode cX8_init 0 = .ok (.aload_n 0, 1) := by decide +kernel
theorem dX8_init_1 : decode cX8_init 1 = .ok (.invokespecial 3, 3) := by decide +kernel
theorem dX8_init_4 : decode cX8_init 4 = .ok (.aload_n 0, 1) := by decide +kernel
theorem dX8_init_5 : decode cX8_init 5 = .ok (.sipush 256, 3) := by decide +kernel
theorem dX8_init_8 : decode cX8_init 8 = .ok (.newarray .int, 2) := by decide +kernel
theorem dX8_init_10 : decode cX8_init 10 = .ok (.putfield 9, 3) := by decide +kernel
theorem dX8_init_13 : decode cX8_init 13 = .ok (.aload_n 0, 1) := by decide +kernel
theorem dX8_init_14 : decode cX8_init 14 = .ok (.sipush 256, 3) := by decide +kernel
theorem dX8_init_17 : decode cX8_init 17 = .ok (.newarray .int, 2) := by decide +kernel
theorem dX8_init_19 : decode cX8_init 19 = .ok (.putfield 15, 3) := by decide +kernel
theorem dX8_init_22 : decode cX8_init 22 = .ok (.aload_n 0, 1) := by decide +kernel
theorem dX8_init_23 : decode cX8_init 23 = .ok (.sipush 256, 3) := by decide +kernel
theorem dX8_init_26 : decode cX8_init 26 = .ok (.newarray .int, 2) := by decide +kernel
theorem dX8_init_28 : decode cX8_init 28 = .ok (.putfield 18, 3) := by decide +kernel
theorem dX8_init_31 : decode cX8_init 31 = .ok (.aload_n 0, 1) := by decide +kernel
theorem dX8_init_32 : decode cX8_init 32 = .ok (.iconst 0, 1) := by decide +kernel
theorem dX8_init_33 : decode cX8_init 33 = .ok (.putfield 21, 3) := by decide +kernel
theorem dX8_init_36 : decode cX8_init 36 = .ok (.aload_n 0, 1) := by decide +kernel
theorem dX8_init_37 : decode cX8_init 37 = .ok (.iconst 0, 1) := by decide +kernel
theorem dX8_init_38 : decode cX8_init 38 = .ok (.putfield 25, 3) := by decide +kernel
theorem dX8_init_41 : decode cX8_init 41 = .ok (.aload_n 0, 1) := by decide +kernel
theorem dX8_init_42 : decode cX8_init 42 = .ok (.aload_n 1, 1) := by decide +kernel
theorem dX8_init_43 : decode cX8_init 43 = .ok (.putfield 28, 3) := by decide +kernel
theorem dX8_init_46 : decode cX8_init 46 = .ok (.return_, 1) := by decide +kernel
set_option maxRecDepth 20000 in
theorem ggX8_offOf_X8_indexOf : GoodIn wsX8_offOf wsX8_indexOf := goodIn_r _ [11, 1, 4, 6, 12, 13, 14, 15, 16, 17, 18, 19, 20, 21, 22, 23, 24, 25, 26, 27, 28, 29] (by decide +kernel) (by decide +kernel)
set_option maxRecDepth 20000 in
theorem gX8_offOf_X8_indexOf : GoodIn wsX8_offOf (wsV RX8 47 RX8 yX8_indexOf wsX8_indexOf) := goodIn_app (goodIn_of _ (by decide +kernel)) ggX8_offOf_X8_indexOf
theorem dX8_offOf_0 : decode cX8_offOf 0 = .ok (.iconst 0, 1) := by decide +kernel
theorem dX8_offOf_1 : decode cX8_offOf 1 = .ok (.istore_n 2, 1) := by decide +kernel
theorem dX8_offOf_2 : decode cX8_offOf 2 = .ok (.iconst 0, 1) := by decide +kernel
theorem dX8_offOf_3 : decode cX8_offOf 3 = .ok (.istore_n 3, 1) := by decide +kernel
theorem dX8_offOf_4 : decode cX8_offOf 4 = .ok (.iload_n 3, 1) := by decide +kernel
theorem dX8_offOf_5 : decode cX8_offOf 5 = .ok (.aload_n 0, 1) := by decide +kernel
theorem dX8_offOf_6 : decode cX8_offOf 6 = .ok (.getfield 28, 3) := by decide +kernel
theorem dX8_offOf_9 : decode cX8_offOf 9 = .ok (.getfield 32, 3) := by decide +kernel
theorem dX8_offOf_12 : decode cX8_offOf 12 = .ok (.if_icmp .ge 86, 3) := by decide +kernel
theorem dX8_offOf_15 : decode cX8_offOf 15 = .ok (.aload_n 0, 1) := by decide +kernel
theorem dX8_offOf_16 : decode cX8_offOf 16 = .ok (.getfield 28, 3) := by decide +kernel
theorem dX8_offOf_19 : decode cX8_offOf 19 = .ok (.getfield 37, 3) := by decide +kernel
theorem dX8_offOf_22 : decode cX8_offOf 22 = .ok (.iload_n 3, 1) := by decide +kernel
theorem dX8_offOf_23 : decode cX8_offOf 23 = .ok (.iaload, 1) := by decide +kernel
theorem dX8_offOf_24 : decode cX8_offOf 24 = .ok (.istore 4, 2) := by decide +kernel
theorem dX8_offOf_26 : decode cX8_offOf 26 = .ok (.iconst 0, 1) := by decide +kernel
theorem dX8_offOf_27 : decode cX8_offOf 27 = .ok (.istore 5, 2) := by decide +kernel
theorem dX8_offOf_29 : decode cX8_offOf 29 = .ok (.iload 5, 2) := by decide +kernel
theorem dX8_offOf_31 : decode cX8_offOf 31 = .ok (.aload_n 0, 1) := by decide +kernel
theorem dX8_offOf_32 : decode cX8_offOf 32 = .ok (.getfield 28, 3) := by decide +kernel
theorem dX8_offOf_35 : decode cX8_offOf 35 = .ok (.getfield 40, 3) := by decide +kernel
theorem dX8_offOf_38 : decode cX8_offOf 38 = .ok (.if_icmp .ge 46, 3) := by decide +kernel
theorem dX8_offOf_41 : decode cX8_offOf 41 = .ok (.iload 4, 2) := by decide +kernel
theorem dX8_offOf_43 : decode cX8_offOf 43 = .ok (.aload_n 0, 1) := by decide +kernel
theorem dX8_offOf_44 : decode cX8_offOf 44 = .ok (.getfield 28, 3) := by decide +kernel
theorem dX8_offOf_47 : decode cX8_offOf 47 = .ok (.getfield 43, 3) := by decide +kernel
theorem dX8_offOf_50 : decode cX8_offOf 50 = .ok (.iload_n 3, 1) := by decide +kernel
theorem dX8_offOf_51 : decode cX8_offOf 51 = .ok (.aaload, 1) := by decide +kernel
theorem dX8_offOf_52 : decode cX8_offOf 52 = .ok (.iload 5, 2) := by decide +kernel
theorem dX8_offOf_54 : decode cX8_offOf 54 = .ok (.iaload, 1) := by decide +kernel
theorem dX8_offOf_55 : decode cX8_offOf 55 = .ok (.iconst 2, 1) := by decide +kernel
theorem dX8_offOf_56 : decode cX8_offOf 56 = .ok (.aload_n 0, 1) := by decide +kernel
theorem dX8_offOf_57 : decode cX8_offOf 57 = .ok (.iload_n 1, 1) := by decide +kernel
theorem dX8_offOf_58 : decode cX8_offOf 58 = .ok (.iload 5, 2) := by decide +kernel
theorem dX8_offOf_60 : decode cX8_offOf 60 = .ok (.invokevirtual 47, 3) := by decide +kernel
theorem dX8_offOf_63 : decode cX8_offOf 63 = .ok (.imul, 1) := by decide +kernel
theorem dX8_offOf_64 : decode cX8_offOf 64 = .ok (.aload_n 0, 1) := by decide +kernel
theorem dX8_offOf_65 : decode cX8_offOf 65 = .ok (.getfield 28, 3) := by decide +kernel
theorem dX8_offOf_68 : decode cX8_offOf 68 = .ok (.getfield 51, 3) := by decide +kernel
theorem dX8_offOf_71 : decode cX8_offOf 71 = .ok (.isub, 1) := by decide +kernel
theorem dX8_offOf_72 : decode cX8_offOf 72 = .ok (.iconst 1, 1) := by decide +kernel
theorem dX8_offOf_73 : decode cX8_offOf 73 = .ok (.iadd, 1) := by decide +kernel
theorem dX8_offOf_74 : decode cX8_offOf 74 = .ok (.imul, 1) := by decide +kernel
theorem dX8_offOf_75 : decode cX8_offOf 75 = .ok (.isub, 1) := by decide +kernel
theorem dX8_offOf_76 : decode cX8_offOf 76 = .ok (.istore 4, 2) := by decide +kernel
theorem dX8_offOf_78 : decode cX8_offOf 78 = .ok (.iinc 5 1, 3) := by decide +kernel
theorem dX8_offOf_81 : decode cX8_offOf 81 = .ok (.goto (-52), 3) := by decide +kernel
theorem dX8_offOf_84 : decode cX8_offOf 84 = .ok (.iload_n 2, 1) := by decide +kernel
theorem dX8_offOf_85 : decode cX8_offOf 85 = .ok (.iload 4, 2) := by decide +kernel
theorem dX8_offOf_87 : decode cX8_offOf 87 = .ok (.iload 4, 2) := by decide +kernel
theorem dX8_offOf_89 : decode cX8_offOf 89 = .ok (.imul, 1) := by decide +kernel
theorem dX8_offOf_90 : decode cX8_offOf 90 = .ok (.iadd, 1) := by decide +kernel
theorem dX8_offOf_91 : decode cX8_offOf 91 = .ok (.istore_n 2, 1) := by decide +kernel
theorem dX8_offOf_92 : decode cX8_offOf 92 = .ok (.iinc 3 1, 3) := by decide +kernel
theorem dX8_offOf_95 : decode cX8_offOf 95 = .ok (.goto (-91), 3) := by decide +kernel
theorem dX8_offOf_98 : decode cX8_offOf 98 = .ok (.iload_n 2, 1) := by decide +kernel
theorem dX8_offOf_99 : decode cX8_offOf 99 = .ok (.ireturn, 1) := by decide +kernel
set_option maxRecDepth 20000 in
theorem ggX8_indexOf_X3_bitsOfLetter : GoodIn wsX8_indexOf wsX3_bitsOfLetter := goodIn_r _ [8, 9, 16, 17, 18, 19, 20, 21] (by decide +kernel) (by decide +kernel)
set_option maxRecDepth 20000 in
theorem gX8_indexOf_X3_bitsOfLetter : GoodIn wsX8_indexOf (wsV RX8 54 RX3 yX3_bitsOfLetter wsX3_bitsOfLetter) := goodIn_app (goodIn_of _ (by decide +kernel)) ggX8_indexOf_X3_bitsOfLetter
theorem dX8_indexOf_0 : decode cX8_indexOf 0 = .ok (.iload_n 1, 1) := by decide +kernel
theorem dX8_indexOf_1 : decode cX8_indexOf 1 = .ok (.aload_n 0, 1) := by decide +kernel
theorem dX8_indexOf_2 : decode cX8_indexOf 2 = .ok (.getfield 28, 3) := by decide +kernel
theorem dX8_indexOf_5 : decode cX8_indexOf 5 = .ok (.invokevirtual 54, 3) := by decide +kernel
theorem dX8_indexOf_8 : decode cX8_indexOf 8 = .ok (.aload_n 0, 1) := by decide +kernel
theorem dX8_indexOf_9 : decode cX8_indexOf 9 = .ok (.getfield 28, 3) := by decide +kernel
theorem dX8_indexOf_12 : decode cX8_indexOf 12 = .ok (.getfield 40, 3) := by decide +kernel
theorem dX8_indexOf_15 : decode cX8_indexOf 15 = .ok (.iconst 1, 1) := by decide +kernel
theorem dX8_indexOf_16 : decode cX8_indexOf 16 = .ok (.isub, 1) := by decide +kernel
theorem dX8_indexOf_17 : decode cX8_indexOf 17 = .ok (.iload_n 2, 1) := by decide +kernel
theorem dX8_indexOf_18 : decode cX8_indexOf 18 = .ok (.isub, 1) := by decide +kernel
theorem dX8_indexOf_19 : decode cX8_indexOf 19 = .ok (.imul, 1) := by decide +kernel
theorem dX8_indexOf_20 : decode cX8_indexOf 20 = .ok (.ishr, 1) := by decide +kernel
theorem dX8_indexOf_21 : decode cX8_indexOf 21 = .ok (.aload_n 0, 1) := by decide +kernel
theorem dX8_indexOf_22 : decode cX8_indexOf 22 = .ok (.getfield 28, 3) := by decide +kernel
theorem dX8_indexOf_25 : decode cX8_indexOf 25 = .ok (.getfield 51, 3) := by decide +kernel
theorem dX8_indexOf_28 : decode cX8_indexOf 28 = .ok (.iconst 1, 1) := by decide +kernel
theorem dX8_indexOf_29 : decode cX8_indexOf 29 = .ok (.isub, 1) := by decide +kernel
theorem dX8_indexOf_30 : decode cX8_indexOf 30 = .ok (.iand, 1) := by decide +kernel
theorem dX8_indexOf_31 : decode cX8_indexOf 31 = .ok (.ireturn, 1) := by decide +kernel
set_option maxRecDepth 20000 in
theorem ggX8_bitOf_X8_indexOf : GoodIn wsX8_bitOf wsX8_indexOf := goodIn_r _ [7, 1, 8, 2, 9, 10, 11, 12, 13, 14, 15, 16, 17, 18, 19, 20, 21, 22, 23, 24, 25, 26] (by decide +kernel) (by decide +kernel)
set_option maxRecDepth 20000 in
theorem gX8_bitOf_X8_indexOf : GoodIn wsX8_bitOf (wsV RX8 47 RX8 yX8_indexOf wsX8_indexOf) := goodIn_app (goodIn_of _ (by decide +kernel)) ggX8_bitOf_X8_indexOf
theorem dX8_bitOf_0 : decode cX8_bitOf 0 = .ok (.aload_n 0, 1) := by decide +kernel
theorem dX8_bitOf_1 : decode cX8_bitOf 1 = .ok (.iload_n 1, 1) := by decide +kernel
theorem dX8_bitOf_2 : decode cX8_bitOf 2 = .ok (.iload_n 2, 1) := by decide +kernel
theorem dX8_bitOf_3 : decode cX8_bitOf 3 = .ok (.invokevirtual 47, 3) := by decide +kernel
theorem dX8_bitOf_6 : decode cX8_bitOf 6 = .ok (.istore 4, 2) := by decide +kernel
theorem dX8_bitOf_8 : decode cX8_bitOf 8 = .ok (.aload_n 0, 1) := by decide +kernel
theorem dX8_bitOf_9 : decode cX8_bitOf 9 = .ok (.getfield 28, 3) := by decide +kernel
theorem dX8_bitOf_12 : decode cX8_bitOf 12 = .ok (.getfield 51, 3) := by decide +kernel
theorem dX8_bitOf_15 : decode cX8_bitOf 15 = .ok (.iconst 2, 1) := by decide +kernel
theorem dX8_bitOf_16 : decode cX8_bitOf 16 = .ok (.if_icmp .ne 6, 3) := by decide +kernel
theorem dX8_bitOf_19 : decode cX8_bitOf 19 = .ok (.iload 4, 2) := by decide +kernel
theorem dX8_bitOf_21 : decode cX8_bitOf 21 = .ok (.ireturn, 1) := by decide +kernel
theorem dX8_bitOf_22 : decode cX8_bitOf 22 = .ok (.iload_n 3, 1) := by decide +kernel
theorem dX8_bitOf_23 : decode cX8_bitOf 23 = .ok (.ifCond .ne 10, 3) := by decide +kernel
theorem dX8_bitOf_26 : decode cX8_bitOf 26 = .ok (.iload 4, 2) := by decide +kernel
theorem dX8_bitOf_28 : decode cX8_bitOf 28 = .ok (.iconst 1, 1) := by decide +kernel
theorem dX8_bitOf_29 : decode cX8_bitOf 29 = .ok (.ishr, 1) := by decide +kernel
theorem dX8_bitOf_30 : decode cX8_bitOf 30 = .ok (.goto 12, 3) := by decide +kernel
theorem dX8_bitOf_33 : decode cX8_bitOf 33 = .ok (.iload 4, 2) := by decide +kernel
theorem dX8_bitOf_35 : decode cX8_bitOf 35 = .ok (.iconst 1, 1) := by decide +kernel
theorem dX8_bitOf_36 : decode cX8_bitOf 36 = .ok (.ishr, 1) := by decide +kernel
theorem dX8_bitOf_37 : decode cX8_bitOf 37 = .ok (.iload 4, 2) := by decide +kernel
theorem dX8_bitOf_39 : decode cX8_bitOf 39 = .ok (.ixor, 1) := by decide +kernel
theorem dX8_bitOf_40 : decode cX8_bitOf 40 = .ok (.iconst 1, 1) := by decide +kernel
theorem dX8_bitOf_41 : decode cX8_bitOf 41 = .ok (.iand, 1) := by decide +kernel
theorem dX8_bitOf_42 : decode cX8_bitOf 42 = .ok (.ireturn, 1) := by decide +kernel
set_option maxRecDepth 20000 in
theorem ggX8_leastWith_X8_workOutOffs : GoodIn wsX8_leastWith wsX8_workOutOffs := goodIn_r _ [12, 13, 2, 14, 3, 15, 16, 17, 18, 19, 20, 21, 22, 23, 24, 25, 26, 27, 28, 11, 29, 30, 31, 32, 33, 34, 35, 36, 37, 38, 39, 44, 45, 46, 47, 48, 49, 50, 51, 52, 53, 54, 55] (by decide +kernel) (by decide +kernel)
set_option maxRecDepth 20000 in
theorem gX8_leastWith_X8_workOutOffs : GoodIn wsX8_leastWith (wsV RX8 58 RX8 yX8_workOutOffs wsX8_workOutOffs) := goodIn_app (goodIn_of _ (by decide +kernel)) ggX8_leastWith_X8_workOutOffs
set_option maxRecDepth 20000 in
theorem ggX8_leastWith_X3_wordCount : GoodIn wsX8_leastWith wsX3_wordCount := goodIn_r _ [19, 20, 21, 22, 23, 18, 24, 25, 50, 51, 52, 53, 54, 55] (by decide +kernel) (by decide +kernel)
set_option maxRecDepth 20000 in
theorem gX8_leastWith_X3_wordCount : GoodIn wsX8_leastWith (wsV RX8 62 RX3 yX3_wordCount wsX3_wordCount) := goodIn_app (goodIn_of _ (by decide +kernel)) ggX8_leastWith_X3_wordCount
set_option maxRecDepth 20000 in
theorem ggX8_leastWith_X8_bitOf : GoodIn wsX8_leastWith wsX8_bitOf := goodIn_r _ [43, 2, 34, 35, 36, 37, 11, 38, 32, 39, 22, 23, 18, 24, 25, 44, 45, 46, 47, 48, 49, 50, 51, 52, 53, 54, 55] (by decide +kernel) (by decide +kernel)
set_option maxRecDepth 20000 in
theorem gX8_leastWith_X8_bitOf : GoodIn wsX8_leastWith (wsV RX8 65 RX8 yX8_bitOf wsX8_bitOf) := goodIn_app (goodIn_of _ (by decide +kernel)) ggX8_leastWith_X8_bitOf
theorem dX8_leastWith_0 : decode cX8_leastWith 0 = .ok (.aload_n 0, 1) := by decide +kernel
theorem dX8_leastWith_1 : decode cX8_leastWith 1 = .ok (.invokevirtual 58, 3) := by decide +kernel
theorem dX8_leastWith_4 : decode cX8_leastWith 4 = .ok (.ldc 61, 2) := by decide +kernel
theorem dX8_leastWith_6 : decode cX8_leastWith 6 = .ok (.istore 4, 2) := by decide +kernel
theorem dX8_leastWith_8 : decode cX8_leastWith 8 = .ok (.iconst 0, 1) := by decide +kernel
theorem dX8_leastWith_9 : decode cX8_leastWith 9 = .ok (.istore 5, 2) := by decide +kernel
theorem dX8_leastWith_11 : decode cX8_leastWith 11 = .ok (.iload 5, 2) := by decide +kernel
theorem dX8_leastWith_13 : decode cX8_leastWith 13 = .ok (.aload_n 0, 1) := by decide +kernel
theorem dX8_leastWith_14 : decode cX8_leastWith 14 = .ok (.getfield 28, 3) := by decide +kernel
theorem dX8_leastWith_17 : decode cX8_leastWith 17 = .ok (.invokevirtual 62, 3) := by decide +kernel
theorem dX8_leastWith_20 : decode cX8_leastWith 20 = .ok (.if_icmp .ge 35, 3) := by decide +kernel
theorem dX8_leastWith_23 : decode cX8_leastWith 23 = .ok (.aload_n 0, 1) := by decide +kernel
theorem dX8_leastWith_24 : decode cX8_leastWith 24 = .ok (.iload 5, 2) := by decide +kernel
theorem dX8_leastWith_26 : decode cX8_leastWith 26 = .ok (.iload_n 1, 1) := by decide +kernel
theorem dX8_leastWith_27 : decode cX8_leastWith 27 = .ok (.iload_n 2, 1) := by decide +kernel
theorem dX8_leastWith_28 : decode cX8_leastWith 28 = .ok (.invokevirtual 65, 3) := by decide +kernel
theorem dX8_leastWith_31 : decode cX8_leastWith 31 = .ok (.iload_n 3, 1) := by decide +kernel
theorem dX8_leastWith_32 : decode cX8_leastWith 32 = .ok (.if_icmp .ne 17, 3) := by decide +kernel
theorem dX8_leastWith_35 : decode cX8_leastWith 35 = .ok (.iload 4, 2) := by decide +kernel
theorem dX8_leastWith_37 : decode cX8_leastWith 37 = .ok (.aload_n 0, 1) := by decide +kernel
theorem dX8_leastWith_38 : decode cX8_leastWith 38 = .ok (.getfield 9, 3) := by decide +kernel
theorem dX8_leastWith_41 : decode cX8_leastWith 41 = .ok (.iload 5, 2) := by decide +kernel
theorem dX8_leastWith_43 : decode cX8_leastWith 43 = .ok (.iaload, 1) := by decide +kernel
theorem dX8_leastWith_44 : decode cX8_leastWith 44 = .ok (.invokestatic 69, 3) := by decide +kernel
theorem dX8_leastWith_47 : decode cX8_leastWith 47 = .ok (.istore 4, 2) := by decide +kernel
theorem dX8_leastWith_49 : decode cX8_leastWith 49 = .ok (.iinc 5 1, 3) := by decide +kernel
theorem dX8_leastWith_52 : decode cX8_leastWith 52 = .ok (.goto (-41), 3) := by decide +kernel
theorem dX8_leastWith_55 : decode cX8_leastWith 55 = .ok (.iload 4, 2) := by decide +kernel
theorem dX8_leastWith_57 : decode cX8_leastWith 57 = .ok (.ireturn, 1) := by decide +kernel
set_option maxRecDepth 20000 in
theorem ggX8_ranked_X8_workOutOffs : GoodIn wsX8_ranked wsX8_workOutOffs := goodIn_r _ [6, 7, 8, 9, 10, 11, 12, 13, 14, 15, 16, 17, 18, 19, 20, 21, 22, 23, 24, 5, 25, 26, 27, 28, 29, 30, 31, 32, 33, 34, 35, 54, 55, 56, 57, 58, 59, 60, 61, 62, 63, 64, 65] (by decide +kernel) (by decide +kernel)
set_option maxRecDepth 20000 in
theorem gX8_ranked_X8_workOutOffs : GoodIn wsX8_ranked (wsV RX8 58 RX8 yX8_workOutOffs wsX8_workOutOffs) := goodIn_app (goodIn_of _ (by decide +kernel)) ggX8_ranked_X8_workOutOffs
set_option maxRecDepth 20000 in
theorem ggX8_ranked_X8_sortByOff : GoodIn wsX8_ranked wsX8_sortByOff := goodIn_r _ [39, 40, 8, 9, 1, 41, 42, 43, 44, 45, 46, 47, 48, 49, 11, 12, 13, 14, 15, 16, 17, 18, 19, 20, 21, 50, 51, 52, 5, 53, 10, 54, 55, 56, 57, 58, 59, 60, 61, 62, 63, 64, 65] (by decide +kernel) (by decide +kernel)
set_option maxRecDepth 20000 in
theorem gX8_ranked_X8_sortByOff : GoodIn wsX8_ranked (wsV RX8 74 RX8 yX8_sortByOff wsX8_sortByOff) := goodIn_app (goodIn_of _ (by decide +kernel)) ggX8_ranked_X8_sortByOff
theorem dX8_ranked_0 : decode cX8_ranked 0 = .ok (.aload_n 0, 1) := by decide +kernel
theorem dX8_ranked_1 : decode cX8_ranked 1 = .ok (.invokevirtual 58, 3) := by decide +kernel
theorem dX8_ranked_4 : decode cX8_ranked 4 = .ok (.aload_n 0, 1) := by decide +kernel
theorem dX8_ranked_5 : decode cX8_ranked 5 = .ok (.invokevirtual 74, 3) := by decide +kernel
theorem dX8_ranked_8 : decode cX8_ranked 8 = .ok (.aload_n 0, 1) := by decide +kernel
theorem dX8_ranked_9 : decode cX8_ranked 9 = .ok (.getfield 15, 3) := by decide +kernel
theorem dX8_ranked_12 : decode cX8_ranked 12 = .ok (.iload_n 1, 1) := by decide +kernel
theorem dX8_ranked_13 : decode cX8_ranked 13 = .ok (.iaload, 1) := by decide +kernel
theorem dX8_ranked_14 : decode cX8_ranked 14 = .ok (.ireturn, 1) := by decide +kernel
set_option maxRecDepth 20000 in
theorem ggX8_workOutOffs_X3_wordCount : GoodIn wsX8_workOutOffs wsX3_wordCount := goodIn_r _ [9, 10, 11, 12, 13, 8, 14, 15, 37, 38, 39, 40, 41, 42] (by decide +kernel) (by decide +kernel)
set_option maxRecDepth 20000 in
theorem gX8_workOutOffs_X3_wordCount : GoodIn wsX8_workOutOffs (wsV RX8 62 RX3 yX3_wordCount wsX3_wordCount) := goodIn_app (goodIn_of _ (by decide +kernel)) ggX8_workOutOffs_X3_wordCount
set_option maxRecDepth 20000 in
theorem ggX8_workOutOffs_X8_offOf : GoodIn wsX8_workOutOffs wsX8_offOf := goodIn_r _ [20, 2, 21, 22, 23, 24, 25, 26, 27, 28, 19, 29, 30, 12, 13, 8, 14, 15, 31, 32, 33, 34, 35, 36, 37, 38, 39, 40, 41, 42] (by decide +kernel) (by decide +kernel)
set_option maxRecDepth 20000 in
theorem gX8_workOutOffs_X8_offOf : GoodIn wsX8_workOutOffs (wsV RX8 80 RX8 yX8_offOf wsX8_offOf) := goodIn_app (goodIn_of _ (by decide +kernel)) ggX8_workOutOffs_X8_offOf
theorem dX8_workOutOffs_0 : decode cX8_workOutOffs 0 = .ok (.aload_n 0, 1) := by decide +kernel
theorem dX8_workOutOffs_1 : decode cX8_workOutOffs 1 = .ok (.getfield 21, 3) := by decide +kernel
theorem dX8_workOutOffs_4 : decode cX8_workOutOffs 4 = .ok (.aload_n 0, 1) := by decide +kernel
theorem dX8_workOutOffs_5 : decode cX8_workOutOffs 5 = .ok (.getfield 28, 3) := by decide +kernel
theorem dX8_workOutOffs_8 : decode cX8_workOutOffs 8 = .ok (.getfield 77, 3) := by decide +kernel
theorem dX8_workOutOffs_11 : decode cX8_workOutOffs 11 = .ok (.if_icmp .ne 4, 3) := by decide +kernel
theorem dX8_workOutOffs_14 : decode cX8_workOutOffs 14 = .ok (.return_, 1) := by decide +kernel
theorem dX8_workOutOffs_15 : decode cX8_workOutOffs 15 = .ok (.iconst 0, 1) := by decide +kernel
theorem dX8_workOutOffs_16 : decode cX8_workOutOffs 16 = .ok (.istore_n 1, 1) := by decide +kernel
theorem dX8_workOutOffs_17 : decode cX8_workOutOffs 17 = .ok (.iload_n 1, 1) := by decide +kernel
theorem dX8_workOutOffs_18 : decode cX8_workOutOffs 18 = .ok (.aload_n 0, 1) := by decide +kernel
theorem dX8_workOutOffs_19 : decode cX8_workOutOffs 19 = .ok (.getfield 28, 3) := by decide +kernel
theorem dX8_workOutOffs_22 : decode cX8_workOutOffs 22 = .ok (.invokevirtual 62, 3) := by decide +kernel
theorem dX8_workOutOffs_25 : decode cX8_workOutOffs 25 = .ok (.if_icmp .ge 20, 3) := by decide +kernel
theorem dX8_workOutOffs_28 : decode cX8_workOutOffs 28 = .ok (.aload_n 0, 1) := by decide +kernel
theorem dX8_workOutOffs_29 : decode cX8_workOutOffs 29 = .ok (.getfield 9, 3) := by decide +kernel
theorem dX8_workOutOffs_32 : decode cX8_workOutOffs 32 = .ok (.iload_n 1, 1) := by decide +kernel
theorem dX8_workOutOffs_33 : decode cX8_workOutOffs 33 = .ok (.aload_n 0, 1) := by decide +kernel
theorem dX8_workOutOffs_34 : decode cX8_workOutOffs 34 = .ok (.iload_n 1, 1) := by decide +kernel
theorem dX8_workOutOffs_35 : decode cX8_workOutOffs 35 = .ok (.invokevirtual 80, 3) := by decide +kernel
theorem dX8_workOutOffs_38 : decode cX8_workOutOffs 38 = .ok (.iastore, 1) := by decide +kernel
theorem dX8_workOutOffs_39 : decode cX8_workOutOffs 39 = .ok (.iinc 1 1, 3) := by decide +kernel
theorem dX8_workOutOffs_42 : decode cX8_workOutOffs 42 = .ok (.goto (-25), 3) := by decide +kernel
theorem dX8_workOutOffs_45 : decode cX8_workOutOffs 45 = .ok (.aload_n 0, 1) := by decide +kernel
theorem dX8_workOutOffs_46 : decode cX8_workOutOffs 46 = .ok (.aload_n 0, 1) := by decide +kernel
theorem dX8_workOutOffs_47 : decode cX8_workOutOffs 47 = .ok (.getfield 28, 3) := by decide +kernel
theorem dX8_workOutOffs_50 : decode cX8_workOutOffs 50 = .ok (.getfield 77, 3) := by decide +kernel
theorem dX8_workOutOffs_53 : decode cX8_workOutOffs 53 = .ok (.putfield 21, 3) := by decide +kernel
theorem dX8_workOutOffs_56 : decode cX8_workOutOffs 56 = .ok (.return_, 1) := by decide +kernel
set_option maxRecDepth 20000 in
theorem ggX8_sortByOff_X3_wordCount : GoodIn wsX8_sortByOff wsX3_wordCount := goodIn_r _ [18, 19, 20, 21, 22, 17, 23, 24, 37, 38, 39, 40, 41, 42] (by decide +kernel) (by decide +kernel)
set_option maxRecDepth 20000 in
theorem gX8_sortByOff_X3_wordCount : GoodIn wsX8_sortByOff (wsV RX8 62 RX3 yX3_wordCount wsX3_wordCount) := goodIn_app (goodIn_of _ (by decide +kernel)) ggX8_sortByOff_X3_wordCount
set_option maxRecDepth 20000 in
theorem ggX8_sortByOff_X8_mergeRuns : GoodIn wsX8_sortByOff wsX8_mergeRuns := goodIn_r _ [29, 30, 4, 9, 31, 32, 33, 34, 35, 36] (by decide +kernel) (by decide +kernel)
set_option maxRecDepth 20000 in
theorem gX8_sortByOff_X8_mergeRuns : GoodIn wsX8_sortByOff (wsV RX8 84 RX8 yX8_mergeRuns wsX8_mergeRuns) := goodIn_app (goodIn_of _ (by decide +kernel)) ggX8_sortByOff_X8_mergeRuns
theorem dX8_sortByOff_0 : decode cX8_sortByOff 0 = .ok (.aload_n 0, 1) := by decide +kernel
theorem dX8_sortByOff_1 : decode cX8_sortByOff 1 = .ok (.getfield 25, 3) := by decide +kernel
theorem dX8_sortByOff_4 : decode cX8_sortByOff 4 = .ok (.aload_n 0, 1) := by decide +kernel
theorem dX8_sortByOff_5 : decode cX8_sortByOff 5 = .ok (.getfield 28, 3) := by decide +kernel
theorem dX8_sortByOff_8 : decode cX8_sortByOff 8 = .ok (.getfield 77, 3) := by decide +kernel
theorem dX8_sortByOff_11 : decode cX8_sortByOff 11 = .ok (.if_icmp .ne 4, 3) := by decide +kernel
theorem dX8_sortByOff_14 : decode cX8_sortByOff 14 = .ok (.return_, 1) := by decide +kernel
theorem dX8_sortByOff_15 : decode cX8_sortByOff 15 = .ok (.aload_n 0, 1) := by decide +kernel
theorem dX8_sortByOff_16 : decode cX8_sortByOff 16 = .ok (.getfield 28, 3) := by decide +kernel
theorem dX8_sortByOff_19 : decode cX8_sortByOff 19 = .ok (.invokevirtual 62, 3) := by decide +kernel
theorem dX8_sortByOff_22 : decode cX8_sortByOff 22 = .ok (.istore_n 1, 1) := by decide +kernel
theorem dX8_sortByOff_23 : decode cX8_sortByOff 23 = .ok (.iconst 0, 1) := by decide +kernel
theorem dX8_sortByOff_24 : decode cX8_sortByOff 24 = .ok (.istore_n 2, 1) := by decide +kernel
theorem dX8_sortByOff_25 : decode cX8_sortByOff 25 = .ok (.iload_n 2, 1) := by decide +kernel
theorem dX8_sortByOff_26 : decode cX8_sortByOff 26 = .ok (.iload_n 1, 1) := by decide +kernel
theorem dX8_sortByOff_27 : decode cX8_sortByOff 27 = .ok (.if_icmp .ge 16, 3) := by decide +kernel
theorem dX8_sortByOff_30 : decode cX8_sortByOff 30 = .ok (.aload_n 0, 1) := by decide +kernel
theorem dX8_sortByOff_31 : decode cX8_sortByOff 31 = .ok (.getfield 15, 3) := by decide +kernel
theorem dX8_sortByOff_34 : decode cX8_sortByOff 34 = .ok (.iload_n 2, 1) := by decide +kernel
theorem dX8_sortByOff_35 : decode cX8_sortByOff 35 = .ok (.iload_n 2, 1) := by decide +kernel
theorem dX8_sortByOff_36 : decode cX8_sortByOff 36 = .ok (.iastore, 1) := by decide +kernel
theorem dX8_sortByOff_37 : decode cX8_sortByOff 37 = .ok (.iinc 2 1, 3) := by decide +kernel
theorem dX8_sortByOff_40 : decode cX8_sortByOff 40 = .ok (.goto (-15), 3) := by decide +kernel
theorem dX8_sortByOff_43 : decode cX8_sortByOff 43 = .ok (.iconst 1, 1) := by decide +kernel
theorem dX8_sortByOff_44 : decode cX8_sortByOff 44 = .ok (.istore_n 2, 1) := by decide +kernel
theorem dX8_sortByOff_45 : decode cX8_sortByOff 45 = .ok (.iload_n 2, 1) := by decide +kernel
theorem dX8_sortByOff_46 : decode cX8_sortByOff 46 = .ok (.iload_n 1, 1) := by decide +kernel
theorem dX8_sortByOff_47 : decode cX8_sortByOff 47 = .ok (.if_icmp .ge 61, 3) := by decide +kernel
theorem dX8_sortByOff_50 : decode cX8_sortByOff 50 = .ok (.iconst 0, 1) := by decide +kernel
theorem dX8_sortByOff_51 : decode cX8_sortByOff 51 = .ok (.istore_n 3, 1) := by decide +kernel
theorem dX8_sortByOff_52 : decode cX8_sortByOff 52 = .ok (.iload_n 3, 1) := by decide +kernel
theorem dX8_sortByOff_53 : decode cX8_sortByOff 53 = .ok (.iload_n 1, 1) := by decide +kernel
theorem dX8_sortByOff_54 : decode cX8_sortByOff 54 = .ok (.if_icmp .ge 33, 3) := by decide +kernel
theorem dX8_sortByOff_57 : decode cX8_sortByOff 57 = .ok (.aload_n 0, 1) := by decide +kernel
theorem dX8_sortByOff_58 : decode cX8_sortByOff 58 = .ok (.iload_n 3, 1) := by decide +kernel
theorem dX8_sortByOff_59 : decode cX8_sortByOff 59 = .ok (.iload_n 3, 1) := by decide +kernel
theorem dX8_sortByOff_60 : decode cX8_sortByOff 60 = .ok (.iload_n 2, 1) := by decide +kernel
theorem dX8_sortByOff_61 : decode cX8_sortByOff 61 = .ok (.iadd, 1) := by decide +kernel
theorem dX8_sortByOff_62 : decode cX8_sortByOff 62 = .ok (.iload_n 1, 1) := by decide +kernel
theorem dX8_sortByOff_63 : decode cX8_sortByOff 63 = .ok (.invokestatic 69, 3) := by decide +kernel
theorem dX8_sortByOff_66 : decode cX8_sortByOff 66 = .ok (.iload_n 3, 1) := by decide +kernel
theorem dX8_sortByOff_67 : decode cX8_sortByOff 67 = .ok (.iconst 2, 1) := by decide +kernel
theorem dX8_sortByOff_68 : decode cX8_sortByOff 68 = .ok (.iload_n 2, 1) := by decide +kernel
theorem dX8_sortByOff_69 : decode cX8_sortByOff 69 = .ok (.imul, 1) := by decide +kernel
theorem dX8_sortByOff_70 : decode cX8_sortByOff 70 = .ok (.iadd, 1) := by decide +kernel
theorem dX8_sortByOff_71 : decode cX8_sortByOff 71 = .ok (.iload_n 1, 1) := by decide +kernel
theorem dX8_sortByOff_72 : decode cX8_sortByOff 72 = .ok (.invokestatic 69, 3) := by decide +kernel
theorem dX8_sortByOff_75 : decode cX8_sortByOff 75 = .ok (.invokevirtual 84, 3) := by decide +kernel
theorem dX8_sortByOff_78 : decode cX8_sortByOff 78 = .ok (.iload_n 3, 1) := by decide +kernel
theorem dX8_sortByOff_79 : decode cX8_sortByOff 79 = .ok (.iconst 2, 1) := by decide +kernel
theorem dX8_sortByOff_80 : decode cX8_sortByOff 80 = .ok (.iload_n 2, 1) := by decide +kernel
theorem dX8_sortByOff_81 : decode cX8_sortByOff 81 = .ok (.imul, 1) := by decide +kernel
theorem dX8_sortByOff_82 : decode cX8_sortByOff 82 = .ok (.iadd, 1) := by decide +kernel
theorem dX8_sortByOff_83 : decode cX8_sortByOff 83 = .ok (.istore_n 3, 1) := by decide +kernel
theorem dX8_sortByOff_84 : decode cX8_sortByOff 84 = .ok (.goto (-32), 3) := by decide +kernel
theorem dX8_sortByOff_87 : decode cX8_sortByOff 87 = .ok (.aload_n 0, 1) := by decide +kernel
theorem dX8_sortByOff_88 : decode cX8_sortByOff 88 = .ok (.getfield 18, 3) := by decide +kernel
theorem dX8_sortByOff_91 : decode cX8_sortByOff 91 = .ok (.iconst 0, 1) := by decide +kernel
theorem dX8_sortByOff_92 : decode cX8_sortByOff 92 = .ok (.aload_n 0, 1) := by decide +kernel
theorem dX8_sortByOff_93 : decode cX8_sortByOff 93 = .ok (.getfield 15, 3) := by decide +kernel
theorem dX8_sortByOff_96 : decode cX8_sortByOff 96 = .ok (.iconst 0, 1) := by decide +kernel
theorem dX8_sortByOff_97 : decode cX8_sortByOff 97 = .ok (.iload_n 1, 1) := by decide +kernel
theorem dX8_sortByOff_98 : decode cX8_sortByOff 98 = .ok (.invokestatic 88, 3) := by decide +kernel
theorem dX8_sortByOff_101 : decode cX8_sortByOff 101 = .ok (.iload_n 2, 1) := by decide +kernel
theorem dX8_sortByOff_102 : decode cX8_sortByOff 102 = .ok (.iconst 2, 1) := by decide +kernel
theorem dX8_sortByOff_103 : decode cX8_sortByOff 103 = .ok (.imul, 1) := by decide +kernel
theorem dX8_sortByOff_104 : decode cX8_sortByOff 104 = .ok (.istore_n 2, 1) := by decide +kernel
theorem dX8_sortByOff_105 : decode cX8_sortByOff 105 = .ok (.goto (-60), 3) := by decide +kernel
theorem dX8_sortByOff_108 : decode cX8_sortByOff 108 = .ok (.aload_n 0, 1) := by decide +kernel
theorem dX8_sortByOff_109 : decode cX8_sortByOff 109 = .ok (.aload_n 0, 1) := by decide +kernel
theorem dX8_sortByOff_110 : decode cX8_sortByOff 110 = .ok (.getfield 28, 3) := by decide +kernel
theorem dX8_sortByOff_113 : decode cX8_sortByOff 113 = .ok (.getfield 77, 3) := by decide +kernel
theorem dX8_sortByOff_116 : decode cX8_sortByOff 116 = .ok (.putfield 25, 3) := by decide +kernel
theorem dX8_sortByOff_119 : decode cX8_sortByOff 119 = .ok (.return_, 1) := by decide +kernel
theorem dX8_mergeRuns_0 : decode cX8_mergeRuns 0 = .ok (.iload_n 1, 1) := by decide +kernel
theorem dX8_mergeRuns_1 : decode cX8_mergeRuns 1 = .ok (.istore 4, 2) := by decide +kernel
theorem dX8_mergeRuns_3 : decode cX8_mergeRuns 3 = .ok (.iload_n 2, 1) := by decide +kernel
theorem dX8_mergeRuns_4 : decode cX8_mergeRuns 4 = .ok (.istore 5, 2) := by decide +kernel
theorem dX8_mergeRuns_6 : decode cX8_mergeRuns 6 = .ok (.iload_n 1, 1) := by decide +kernel
theorem dX8_mergeRuns_7 : decode cX8_mergeRuns 7 = .ok (.istore 6, 2) := by decide +kernel
theorem dX8_mergeRuns_9 : decode cX8_mergeRuns 9 = .ok (.iload 6, 2) := by decide +kernel
theorem dX8_mergeRuns_11 : decode cX8_mergeRuns 11 = .ok (.iload_n 3, 1) := by decide +kernel
theorem dX8_mergeRuns_12 : decode cX8_mergeRuns 12 = .ok (.if_icmp .ge 85, 3) := by decide +kernel
theorem dX8_mergeRuns_15 : decode cX8_mergeRuns 15 = .ok (.iload 4, 2) := by decide +kernel
theorem dX8_mergeRuns_17 : decode cX8_mergeRuns 17 = .ok (.iload_n 2, 1) := by decide +kernel
theorem dX8_mergeRuns_18 : decode cX8_mergeRuns 18 = .ok (.if_icmp .ge 56, 3) := by decide +kernel
theorem dX8_mergeRuns_21 : decode cX8_mergeRuns 21 = .ok (.iload 5, 2) := by decide +kernel
theorem dX8_mergeRuns_23 : decode cX8_mergeRuns 23 = .ok (.iload_n 3, 1) := by decide +kernel
theorem dX8_mergeRuns_24 : decode cX8_mergeRuns 24 = .ok (.if_icmp .ge 30, 3) := by decide +kernel
theorem dX8_mergeRuns_27 : decode cX8_mergeRuns 27 = .ok (.aload_n 0, 1) := by decide +kernel
theorem dX8_mergeRuns_28 : decode cX8_mergeRuns 28 = .ok (.getfield 9, 3) := by decide +kernel
theorem dX8_mergeRuns_31 : decode cX8_mergeRuns 31 = .ok (.aload_n 0, 1) := by decide +kernel
theorem dX8_mergeRuns_32 : decode cX8_mergeRuns 32 = .ok (.getfield 15, 3) := by decide +kernel
theorem dX8_mergeRuns_35 : decode cX8_mergeRuns 35 = .ok (.iload 4, 2) := by decide +kernel
theorem dX8_mergeRuns_37 : decode cX8_mergeRuns 37 = .ok (.iaload, 1) := by decide +kernel
theorem dX8_mergeRuns_38 : decode cX8_mergeRuns 38 = .ok (.iaload, 1) := by decide +kernel
theorem dX8_mergeRuns_39 : decode cX8_mergeRuns 39 = .ok (.aload_n 0, 1) := by decide +kernel
theorem dX8_mergeRuns_40 : decode cX8_mergeRuns 40 = .ok (.getfield 9, 3) := by decide +kernel
theorem dX8_mergeRuns_43 : decode cX8_mergeRuns 43 = .ok (.aload_n 0, 1) := by decide +kernel
theorem dX8_mergeRuns_44 : decode cX8_mergeRuns 44 = .ok (.getfield 15, 3) := by decide +kernel
theorem dX8_mergeRuns_47 : decode cX8_mergeRuns 47 = .ok (.iload 5, 2) := by decide +kernel
theorem dX8_mergeRuns_49 : decode cX8_mergeRuns 49 = .ok (.iaload, 1) := by decide +kernel
theorem dX8_mergeRuns_50 : decode cX8_mergeRuns 50 = .ok (.iaload, 1) := by decide +kernel
theorem dX8_mergeRuns_51 : decode cX8_mergeRuns 51 = .ok (.if_icmp .gt 23, 3) := by decide +kernel
theorem dX8_mergeRuns_54 : decode cX8_mergeRuns 54 = .ok (.aload_n 0, 1) := by decide +kernel
theorem dX8_mergeRuns_55 : decode cX8_mergeRuns 55 = .ok (.getfield 18, 3) := by decide +kernel
theorem dX8_mergeRuns_58 : decode cX8_mergeRuns 58 = .ok (.iload 6, 2) := by decide +kernel
theorem dX8_mergeRuns_60 : decode cX8_mergeRuns 60 = .ok (.aload_n 0, 1) := by decide +kernel
theorem dX8_mergeRuns_61 : decode cX8_mergeRuns 61 = .ok (.getfield 15, 3) := by decide +kernel
theorem dX8_mergeRuns_64 : decode cX8_mergeRuns 64 = .ok (.iload 4, 2) := by decide +kernel
theorem dX8_mergeRuns_66 : decode cX8_mergeRuns 66 = .ok (.iaload, 1) := by decide +kernel
theorem dX8_mergeRuns_67 : decode cX8_mergeRuns 67 = .ok (.iastore, 1) := by decide +kernel
theorem dX8_mergeRuns_68 : decode cX8_mergeRuns 68 = .ok (.iinc 4 1, 3) := by decide +kernel
theorem dX8_mergeRuns_71 : decode cX8_mergeRuns 71 = .ok (.goto 20, 3) := by decide +kernel
theorem dX8_mergeRuns_74 : decode cX8_mergeRuns 74 = .ok (.aload_n 0, 1) := by decide +kernel
theorem dX8_mergeRuns_75 : decode cX8_mergeRuns 75 = .ok (.getfield 18, 3) := by decide +kernel
theorem dX8_mergeRuns_78 : decode cX8_mergeRuns 78 = .ok (.iload 6, 2) := by decide +kernel
theorem dX8_mergeRuns_80 : decode cX8_mergeRuns 80 = .ok (.aload_n 0, 1) := by decide +kernel
theorem dX8_mergeRuns_81 : decode cX8_mergeRuns 81 = .ok (.getfield 15, 3) := by decide +kernel
theorem dX8_mergeRuns_84 : decode cX8_mergeRuns 84 = .ok (.iload 5, 2) := by decide +kernel
theorem dX8_mergeRuns_86 : decode cX8_mergeRuns 86 = .ok (.iaload, 1) := by decide +kernel
theorem dX8_mergeRuns_87 : decode cX8_mergeRuns 87 = .ok (.iastore, 1) := by decide +kernel
theorem dX8_mergeRuns_88 : decode cX8_mergeRuns 88 = .ok (.iinc 5 1, 3) := by decide +kernel
theorem dX8_mergeRuns_91 : decode cX8_mergeRuns 91 = .ok (.iinc 6 1, 3) := by decide +kernel
theorem dX8_mergeRuns_94 : decode cX8_mergeRuns 94 = .ok (.goto (-85), 3) := by decide +kernel
theorem dX8_mergeRuns_97 : decode cX8_mergeRuns 97 = .ok (.return_, 1) := by decide +kernel
theorem dJ6_bitCount_0f7a4_0 : decode cJ6_bitCount_0f7a4 0 = .ok (.iload_n 0, 1) := by decide +kernel
theorem dJ6_bitCount_0f7a4_1 : decode cJ6_bitCount_0f7a4 1 = .ok (.iload_n 0, 1) := by decide +kernel
theorem dJ6_bitCount_0f7a4_2 : decode cJ6_bitCount_0f7a4 2 = .ok (.iconst 1, 1) := by decide +kernel
theorem dJ6_bitCount_0f7a4_3 : decode cJ6_bitCount_0f7a4 3 = .ok (.iushr, 1) := by decide +kernel
theorem dJ6_bitCount_0f7a4_4 : decode cJ6_bitCount_0f7a4 4 = .ok (.ldc_w 265, 3) := by decide +kernel
theorem dJ6_bitCount_0f7a4_7 : decode cJ6_bitCount_0f7a4 7 = .ok (.iand, 1) := by decide +kernel
theorem dJ6_bitCount_0f7a4_8 : decode cJ6_bitCount_0f7a4 8 = .ok (.isub, 1) := by decide +kernel
theorem dJ6_bitCount_0f7a4_9 : decode cJ6_bitCount_0f7a4 9 = .ok (.istore_n 0, 1) := by decide +kernel
theorem dJ6_bitCount_0f7a4_10 : decode cJ6_bitCount_0f7a4 10 = .ok (.iload_n 0, 1) := by decide +kernel
theorem dJ6_bitCount_0f7a4_11 : decode cJ6_bitCount_0f7a4 11 = .ok (.ldc_w 266, 3) := by decide +kernel
theorem dJ6_bitCount_0f7a4_14 : decode cJ6_bitCount_0f7a4 14 = .ok (.iand, 1) := by decide +kernel
theorem dJ6_bitCount_0f7a4_15 : decode cJ6_bitCount_0f7a4 15 = .ok (.iload_n 0, 1) := by decide +kernel
theorem dJ6_bitCount_0f7a4_16 : decode cJ6_bitCount_0f7a4 16 = .ok (.iconst 2, 1) := by decide +kernel
theorem dJ6_bitCount_0f7a4_17 : decode cJ6_bitCount_0f7a4 17 = .ok (.iushr, 1) := by decide +kernel
theorem dJ6_bitCount_0f7a4_18 : decode cJ6_bitCount_0f7a4 18 = .ok (.ldc_w 266, 3) := by decide +kernel
theorem dJ6_bitCount_0f7a4_21 : decode cJ6_bitCount_0f7a4 21 = .ok (.iand, 1) := by decide +kernel
theorem dJ6_bitCount_0f7a4_22 : decode cJ6_bitCount_0f7a4 22 = .ok (.iadd, 1) := by decide +kernel
theorem dJ6_bitCount_0f7a4_23 : decode cJ6_bitCount_0f7a4 23 = .ok (.istore_n 0, 1) := by decide +kernel
theorem dJ6_bitCount_0f7a4_24 : decode cJ6_bitCount_0f7a4 24 = .ok (.iload_n 0, 1) := by decide +kernel
theorem dJ6_bitCount_0f7a4_25 : decode cJ6_bitCount_0f7a4 25 = .ok (.iload_n 0, 1) := by decide +kernel
theorem dJ6_bitCount_0f7a4_26 : decode cJ6_bitCount_0f7a4 26 = .ok (.iconst 4, 1) := by decide +kernel
theorem dJ6_bitCount_0f7a4_27 : decode cJ6_bitCount_0f7a4 27 = .ok (.iushr, 1) := by decide +kernel
theorem dJ6_bitCount_0f7a4_28 : decode cJ6_bitCount_0f7a4 28 = .ok (.iadd, 1) := by decide +kernel
theorem dJ6_bitCount_0f7a4_29 : decode cJ6_bitCount_0f7a4 29 = .ok (.ldc_w 267, 3) := by decide +kernel
theorem dJ6_bitCount_0f7a4_32 : decode cJ6_bitCount_0f7a4 32 = .ok (.iand, 1) := by decide +kernel
theorem dJ6_bitCount_0f7a4_33 : decode cJ6_bitCount_0f7a4 33 = .ok (.istore_n 0, 1) := by decide +kernel
theorem dJ6_bitCount_0f7a4_34 : decode cJ6_bitCount_0f7a4 34 = .ok (.iload_n 0, 1) := by decide +kernel
theorem dJ6_bitCount_0f7a4_35 : decode cJ6_bitCount_0f7a4 35 = .ok (.iload_n 0, 1) := by decide +kernel
theorem dJ6_bitCount_0f7a4_36 : decode cJ6_bitCount_0f7a4 36 = .ok (.bipush 8, 2) := by decide +kernel
theorem dJ6_bitCount_0f7a4_38 : decode cJ6_bitCount_0f7a4 38 = .ok (.iushr, 1) := by decide +kernel
theorem dJ6_bitCount_0f7a4_39 : decode cJ6_bitCount_0f7a4 39 = .ok (.iadd, 1) := by decide +kernel
theorem dJ6_bitCount_0f7a4_40 : decode cJ6_bitCount_0f7a4 40 = .ok (.istore_n 0, 1) := by decide +kernel
theorem dJ6_bitCount_0f7a4_41 : decode cJ6_bitCount_0f7a4 41 = .ok (.iload_n 0, 1) := by decide +kernel
theorem dJ6_bitCount_0f7a4_42 : decode cJ6_bitCount_0f7a4 42 = .ok (.iload_n 0, 1) := by decide +kernel
theorem dJ6_bitCount_0f7a4_43 : decode cJ6_bitCount_0f7a4 43 = .ok (.bipush 16, 2) := by decide +kernel
theorem dJ6_bitCount_0f7a4_45 : decode cJ6_bitCount_0f7a4 45 = .ok (.iushr, 1) := by decide +kernel
theorem dJ6_bitCount_0f7a4_46 : decode cJ6_bitCount_0f7a4 46 = .ok (.iadd, 1) := by decide +kernel
theorem dJ6_bitCount_0f7a4_47 : decode cJ6_bitCount_0f7a4 47 = .ok (.istore_n 0, 1) := by decide +kernel
theorem dJ6_bitCount_0f7a4_48 : decode cJ6_bitCount_0f7a4 48 = .ok (.iload_n 0, 1) := by decide +kernel
theorem dJ6_bitCount_0f7a4_49 : decode cJ6_bitCount_0f7a4 49 = .ok (.bipush 63, 2) := by decide +kernel
theorem dJ6_bitCount_0f7a4_51 : decode cJ6_bitCount_0f7a4 51 = .ok (.iand, 1) := by decide +kernel
theorem dJ6_bitCount_0f7a4_52 : decode cJ6_bitCount_0f7a4 52 = .ok (.ireturn, 1) := by decide +kernel
theorem dJ9_floorDiv_f86c9_0 : decode cJ9_floorDiv_f86c9 0 = .ok (.lload_n 0, 1) := by decide +kernel
theorem dJ9_floorDiv_f86c9_1 : decode cJ9_floorDiv_f86c9 1 = .ok (.lload_n 2, 1) := by decide +kernel
theorem dJ9_floorDiv_f86c9_2 : decode cJ9_floorDiv_f86c9 2 = .ok (.ldiv, 1) := by decide +kernel
theorem dJ9_floorDiv_f86c9_3 : decode cJ9_floorDiv_f86c9 3 = .ok (.lstore 4, 2) := by decide +kernel
theorem dJ9_floorDiv_f86c9_5 : decode cJ9_floorDiv_f86c9 5 = .ok (.lload_n 0, 1) := by decide +kernel
theorem dJ9_floorDiv_f86c9_6 : decode cJ9_floorDiv_f86c9 6 = .ok (.lload_n 2, 1) := by decide +kernel
theorem dJ9_floorDiv_f86c9_7 : decode cJ9_floorDiv_f86c9 7 = .ok (.lxor, 1) := by decide +kernel
theorem dJ9_floorDiv_f86c9_8 : decode cJ9_floorDiv_f86c9 8 = .ok (.lconst 0, 1) := by decide +kernel
theorem dJ9_floorDiv_f86c9_9 : decode cJ9_floorDiv_f86c9 9 = .ok (.lcmp, 1) := by decide +kernel
theorem dJ9_floorDiv_f86c9_10 : decode cJ9_floorDiv_f86c9 10 = .ok (.ifCond .ge 17, 3) := by decide +kernel
theorem dJ9_floorDiv_f86c9_13 : decode cJ9_floorDiv_f86c9 13 = .ok (.lload 4, 2) := by decide +kernel
theorem dJ9_floorDiv_f86c9_15 : decode cJ9_floorDiv_f86c9 15 = .ok (.lload_n 2, 1) := by decide +kernel
theorem dJ9_floorDiv_f86c9_16 : decode cJ9_floorDiv_f86c9 16 = .ok (.lmul, 1) := by decide +kernel
theorem dJ9_floorDiv_f86c9_17 : decode cJ9_floorDiv_f86c9 17 = .ok (.lload_n 0, 1) := by decide +kernel
theorem dJ9_floorDiv_f86c9_18 : decode cJ9_floorDiv_f86c9 18 = .ok (.lcmp, 1) := by decide +kernel
theorem dJ9_floorDiv_f86c9_19 : decode cJ9_floorDiv_f86c9 19 = .ok (.ifCond .eq 8, 3) := by decide +kernel
theorem dJ9_floorDiv_f86c9_22 : decode cJ9_floorDiv_f86c9 22 = .ok (.lload 4, 2) := by decide +kernel
theorem dJ9_floorDiv_f86c9_24 : decode cJ9_floorDiv_f86c9 24 = .ok (.lconst 1, 1) := by decide +kernel
theorem dJ9_floorDiv_f86c9_25 : decode cJ9_floorDiv_f86c9 25 = .ok (.lsub, 1) := by decide +kernel
theorem dJ9_floorDiv_f86c9_26 : decode cJ9_floorDiv_f86c9 26 = .ok (.lreturn, 1) := by decide +kernel
theorem dJ9_floorDiv_f86c9_27 : decode cJ9_floorDiv_f86c9 27 = .ok (.lload 4, 2) := by decide +kernel
theorem dJ9_floorDiv_f86c9_29 : decode cJ9_floorDiv_f86c9 29 = .ok (.lreturn, 1) := by decide +kernel
theorem dJ9_abs_0f7a4_0 : decode cJ9_abs_0f7a4 0 = .ok (.iload_n 0, 1) := by decide +kernel
theorem dJ9_abs_0f7a4_1 : decode cJ9_abs_0f7a4 1 = .ok (.ifCond .ge 8, 3) := by decide +kernel
theorem dJ9_abs_0f7a4_4 : decode cJ9_abs_0f7a4 4 = .ok (.iload_n 0, 1) := by decide +kernel
theorem dJ9_abs_0f7a4_5 : decode cJ9_abs_0f7a4 5 = .ok (.ineg, 1) := by decide +kernel
theorem dJ9_abs_0f7a4_6 : decode cJ9_abs_0f7a4 6 = .ok (.goto 4, 3) := by decide +kernel
theorem dJ9_abs_0f7a4_9 : decode cJ9_abs_0f7a4 9 = .ok (.iload_n 0, 1) := by decide +kernel
theorem dJ9_abs_0f7a4_10 : decode cJ9_abs_0f7a4 10 = .ok (.ireturn, 1) := by decide +kernel
theorem dJ9_abs_067f4_0 : decode cJ9_abs_067f4 0 = .ok (.lload_n 0, 1) := by decide +kernel
theorem dJ9_abs_067f4_1 : decode cJ9_abs_067f4 1 = .ok (.lconst 0, 1) := by decide +kernel
theorem dJ9_abs_067f4_2 : decode cJ9_abs_067f4 2 = .ok (.lcmp, 1) := by decide +kernel
theorem dJ9_abs_067f4_3 : decode cJ9_abs_067f4 3 = .ok (.ifCond .ge 8, 3) := by decide +kernel
theorem dJ9_abs_067f4_6 : decode cJ9_abs_067f4 6 = .ok (.lload_n 0, 1) := by decide +kernel
theorem dJ9_abs_067f4_7 : decode cJ9_abs_067f4 7 = .ok (.lneg, 1) := by decide +kernel
theorem dJ9_abs_067f4_8 : decode cJ9_abs_067f4 8 = .ok (.goto 4, 3) := by decide +kernel
theorem dJ9_abs_067f4_11 : decode cJ9_abs_067f4 11 = .ok (.lload_n 0, 1) := by decide +kernel
theorem dJ9_abs_067f4_12 : decode cJ9_abs_067f4 12 = .ok (.lreturn, 1) := by decide +kernel
theorem dJ9_max_7cf53_0 : decode cJ9_max_7cf53 0 = .ok (.iload_n 0, 1) := by decide +kernel
theorem dJ9_max_7cf53_1 : decode cJ9_max_7cf53 1 = .ok (.iload_n 1, 1) := by decide +kernel
theorem dJ9_max_7cf53_2 : decode cJ9_max_7cf53 2 = .ok (.if_icmp .lt 7, 3) := by decide +kernel
theorem dJ9_max_7cf53_5 : decode cJ9_max_7cf53 5 = .ok (.iload_n 0, 1) := by decide +kernel
theorem dJ9_max_7cf53_6 : decode cJ9_max_7cf53 6 = .ok (.goto 4, 3) := by decide +kernel
theorem dJ9_max_7cf53_9 : decode cJ9_max_7cf53 9 = .ok (.iload_n 1, 1) := by decide +kernel
theorem dJ9_max_7cf53_10 : decode cJ9_max_7cf53 10 = .ok (.ireturn, 1) := by decide +kernel
theorem dJ9_max_f86c9_0 : decode cJ9_max_f86c9 0 = .ok (.lload_n 0, 1) := by decide +kernel
theorem dJ9_max_f86c9_1 : decode cJ9_max_f86c9 1 = .ok (.lload_n 2, 1) := by decide +kernel
theorem dJ9_max_f86c9_2 : decode cJ9_max_f86c9 2 = .ok (.lcmp, 1) := by decide +kernel
theorem dJ9_max_f86c9_3 : decode cJ9_max_f86c9 3 = .ok (.ifCond .lt 7, 3) := by decide +kernel
theorem dJ9_max_f86c9_6 : decode cJ9_max_f86c9 6 = .ok (.lload_n 0, 1) := by decide +kernel
theorem dJ9_max_f86c9_7 : decode cJ9_max_f86c9 7 = .ok (.goto 4, 3) := by decide +kernel
theorem dJ9_max_f86c9_10 : decode cJ9_max_f86c9 10 = .ok (.lload_n 2, 1) := by decide +kernel
theorem dJ9_max_f86c9_11 : decode cJ9_max_f86c9 11 = .ok (.lreturn, 1) := by decide +kernel
theorem dJ9_min_7cf53_0 : decode cJ9_min_7cf53 0 = .ok (.iload_n 0, 1) := by decide +kernel
theorem dJ9_min_7cf53_1 : decode cJ9_min_7cf53 1 = .ok (.iload_n 1, 1) := by decide +kernel
theorem dJ9_min_7cf53_2 : decode cJ9_min_7cf53 2 = .ok (.if_icmp .gt 7, 3) := by decide +kernel
theorem dJ9_min_7cf53_5 : decode cJ9_min_7cf53 5 = .ok (.iload_n 0, 1) := by decide +kernel
theorem dJ9_min_7cf53_6 : decode cJ9_min_7cf53 6 = .ok (.goto 4, 3) := by decide +kernel
theorem dJ9_min_7cf53_9 : decode cJ9_min_7cf53 9 = .ok (.iload_n 1, 1) := by decide +kernel
theorem dJ9_min_7cf53_10 : decode cJ9_min_7cf53 10 = .ok (.ireturn, 1) := by decide +kernel
theorem dJ9_min_f86c9_0 : decode cJ9_min_f86c9 0 = .ok (.lload_n 0, 1) := by decide +kernel
theorem dJ9_min_f86c9_1 : decode cJ9_min_f86c9 1 = .ok (.lload_n 2, 1) := by decide +kernel
theorem dJ9_min_f86c9_2 : decode cJ9_min_f86c9 2 = .ok (.lcmp, 1) := by decide +kernel
theorem dJ9_min_f86c9_3 : decode cJ9_min_f86c9 3 = .ok (.ifCond .gt 7, 3) := by decide +kernel
theorem dJ9_min_f86c9_6 : decode cJ9_min_f86c9 6 = .ok (.lload_n 0, 1) := by decide +kernel
theorem dJ9_min_f86c9_7 : decode cJ9_min_f86c9 7 = .ok (.goto 4, 3) := by decide +kernel
theorem dJ9_min_f86c9_10 : decode cJ9_min_f86c9 10 = .ok (.lload_n 2, 1) := by decide +kernel
theorem dJ9_min_f86c9_11 : decode cJ9_min_f86c9 11 = .ok (.lreturn, 1) := by decide +kernel
theorem dJ7_fill_d0a16_0 : decode cJ7_fill_d0a16 0 = .ok (.iconst 0, 1) := by decide +kernel
theorem dJ7_fill_d0a16_1 : decode cJ7_fill_d0a16 1 = .ok (.istore_n 3, 1) := by decide +kernel
theorem dJ7_fill_d0a16_2 : decode cJ7_fill_d0a16 2 = .ok (.aload_n 0, 1) := by decide +kernel
theorem dJ7_fill_d0a16_3 : decode cJ7_fill_d0a16 3 = .ok (.arraylength, 1) := by decide +kernel
theorem dJ7_fill_d0a16_4 : decode cJ7_fill_d0a16 4 = .ok (.istore 4, 2) := by decide +kernel
theorem dJ7_fill_d0a16_6 : decode cJ7_fill_d0a16 6 = .ok (.iload_n 3, 1) := by decide +kernel
theorem dJ7_fill_d0a16_7 : decode cJ7_fill_d0a16 7 = .ok (.iload 4, 2) := by decide +kernel
theorem dJ7_fill_d0a16_9 : decode cJ7_fill_d0a16 9 = .ok (.if_icmp .ge 13, 3) := by decide +kernel
theorem dJ7_fill_d0a16_12 : decode cJ7_fill_d0a16 12 = .ok (.aload_n 0, 1) := by decide +kernel
theorem dJ7_fill_d0a16_13 : decode cJ7_fill_d0a16 13 = .ok (.iload_n 3, 1) := by decide +kernel
theorem dJ7_fill_d0a16_14 : decode cJ7_fill_d0a16 14 = .ok (.lload_n 1, 1) := by decide +kernel
theorem dJ7_fill_d0a16_15 : decode cJ7_fill_d0a16 15 = .ok (.lastore, 1) := by decide +kernel
theorem dJ7_fill_d0a16_16 : decode cJ7_fill_d0a16 16 = .ok (.iinc 3 1, 3) := by decide +kernel
theorem dJ7_fill_d0a16_19 : decode cJ7_fill_d0a16 19 = .ok (.goto (-13), 3) := by decide +kernel
theorem dJ7_fill_d0a16_22 : decode cJ7_fill_d0a16 22 = .ok (.return_, 1) := by decide +kernel
theorem dJ7_fill_53178_0 : decode cJ7_fill_53178 0 = .ok (.iconst 0, 1) := by decide +kernel
theorem dJ7_fill_53178_1 : decode cJ7_fill_53178 1 = .ok (.istore_n 2, 1) := by decide +kernel
theorem dJ7_fill_53178_2 : decode cJ7_fill_53178 2 = .ok (.aload_n 0, 1) := by decide +kernel
theorem dJ7_fill_53178_3 : decode cJ7_fill_53178 3 = .ok (.arraylength, 1) := by decide +kernel
theorem dJ7_fill_53178_4 : decode cJ7_fill_53178 4 = .ok (.istore_n 3, 1) := by decide +kernel
theorem dJ7_fill_53178_5 : decode cJ7_fill_53178 5 = .ok (.iload_n 2, 1) := by decide +kernel
theorem dJ7_fill_53178_6 : decode cJ7_fill_53178 6 = .ok (.iload_n 3, 1) := by decide +kernel
theorem dJ7_fill_53178_7 : decode cJ7_fill_53178 7 = .ok (.if_icmp .ge 13, 3) := by decide +kernel
theorem dJ7_fill_53178_10 : decode cJ7_fill_53178 10 = .ok (.aload_n 0, 1) := by decide +kernel
theorem dJ7_fill_53178_11 : decode cJ7_fill_53178 11 = .ok (.iload_n 2, 1) := by decide +kernel
theorem dJ7_fill_53178_12 : decode cJ7_fill_53178 12 = .ok (.iload_n 1, 1) := by decide +kernel
theorem dJ7_fill_53178_13 : decode cJ7_fill_53178 13 = .ok (.iastore, 1) := by decide +kernel
theorem dJ7_fill_53178_14 : decode cJ7_fill_53178 14 = .ok (.iinc 2 1, 3) := by decide +kernel
theorem dJ7_fill_53178_17 : decode cJ7_fill_53178 17 = .ok (.goto (-12), 3) := by decide +kernel
theorem dJ7_fill_53178_20 : decode cJ7_fill_53178 20 = .ok (.return_, 1) := by decide +kernel
