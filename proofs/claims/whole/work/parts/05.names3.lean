theorem dX5_init_0 : decode cX5_init 0 = .ok (.aload_n 0, 1) := by decide +kernel
theorem dX5_init_1 : decode cX5_init 1 = .ok (.invokespecial 1, 3) := by decide +kernel
theorem dX5_init_4 : decode cX5_init 4 = .ok (.aload_n 0, 1) := by decide +kernel
theorem dX5_init_5 : decode cX5_init 5 = .ok (.bipush 12, 2) := by decide +kernel
theorem dX5_init_7 : decode cX5_init 7 = .ok (.newarray .int, 2) := by decide +kernel
theorem dX5_init_9 : decode cX5_init 9 = .ok (.putfield 7, 3) := by decide +kernel
theorem dX5_init_12 : decode cX5_init 12 = .ok (.aload_n 0, 1) := by decide +kernel
theorem dX5_init_13 : decode cX5_init 13 = .ok (.bipush 12, 2) := by decide +kernel
theorem dX5_init_15 : decode cX5_init 15 = .ok (.newarray .int, 2) := by decide +kernel
theorem dX5_init_17 : decode cX5_init 17 = .ok (.putfield 13, 3) := by decide +kernel
theorem dX5_init_20 : decode cX5_init 20 = .ok (.aload_n 0, 1) := by decide +kernel
theorem dX5_init_21 : decode cX5_init 21 = .ok (.bipush 12, 2) := by decide +kernel
theorem dX5_init_23 : decode cX5_init 23 = .ok (.newarray .int, 2) := by decide +kernel
theorem dX5_init_25 : decode cX5_init 25 = .ok (.putfield 16, 3) := by decide +kernel
theorem dX5_init_28 : decode cX5_init 28 = .ok (.aload_n 0, 1) := by decide +kernel
theorem dX5_init_29 : decode cX5_init 29 = .ok (.bipush 12, 2) := by decide +kernel
theorem dX5_init_31 : decode cX5_init 31 = .ok (.newarray .int, 2) := by decide +kernel
theorem dX5_init_33 : decode cX5_init 33 = .ok (.putfield 19, 3) := by decide +kernel
theorem dX5_init_36 : decode cX5_init 36 = .ok (.aload_n 0, 1) := by decide +kernel
theorem dX5_init_37 : decode cX5_init 37 = .ok (.bipush 12, 2) := by decide +kernel
theorem dX5_init_39 : decode cX5_init 39 = .ok (.newarray .int, 2) := by decide +kernel
theorem dX5_init_41 : decode cX5_init 41 = .ok (.putfield 22, 3) := by decide +kernel
theorem dX5_init_44 : decode cX5_init 44 = .ok (.aload_n 0, 1) := by decide +kernel
theorem dX5_init_45 : decode cX5_init 45 = .ok (.bipush 12, 2) := by decide +kernel
theorem dX5_init_47 : decode cX5_init 47 = .ok (.newarray .int, 2) := by decide +kernel
theorem dX5_init_49 : decode cX5_init 49 = .ok (.putfield 25, 3) := by decide +kernel
theorem dX5_init_52 : decode cX5_init 52 = .ok (.aload_n 0, 1) := by decide +kernel
theorem dX5_init_53 : decode cX5_init 53 = .ok (.iconst 4, 1) := by decide +kernel
theorem dX5_init_54 : decode cX5_init 54 = .ok (.newarray .int, 2) := by decide +kernel
theorem dX5_init_56 : decode cX5_init 56 = .ok (.putfield 28, 3) := by decide +kernel
theorem dX5_init_59 : decode cX5_init 59 = .ok (.aload_n 0, 1) := by decide +kernel
theorem dX5_init_60 : decode cX5_init 60 = .ok (.iconst 4, 1) := by decide +kernel
theorem dX5_init_61 : decode cX5_init 61 = .ok (.newarray .int, 2) := by decide +kernel
theorem dX5_init_63 : decode cX5_init 63 = .ok (.putfield 31, 3) := by decide +kernel
theorem dX5_init_66 : decode cX5_init 66 = .ok (.aload_n 0, 1) := by decide +kernel
theorem dX5_init_67 : decode cX5_init 67 = .ok (.iconst 4, 1) := by decide +kernel
theorem dX5_init_68 : decode cX5_init 68 = .ok (.newarray .int, 2) := by decide +kernel
theorem dX5_init_70 : decode cX5_init 70 = .ok (.putfield 34, 3) := by decide +kernel
theorem dX5_init_73 : decode cX5_init 73 = .ok (.aload_n 0, 1) := by decide +kernel
theorem dX5_init_74 : decode cX5_init 74 = .ok (.bipush 12, 2) := by decide +kernel
theorem dX5_init_76 : decode cX5_init 76 = .ok (.newarray .boolean, 2) := by decide +kernel
theorem dX5_init_78 : decode cX5_init 78 = .ok (.putfield 37, 3) := by decide +kernel
theorem dX5_init_81 : decode cX5_init 81 = .ok (.aload_n 0, 1) := by decide +kernel
theorem dX5_init_82 : decode cX5_init 82 = .ok (.bipush 12, 2) := by decide +kernel
theorem dX5_init_84 : decode cX5_init 84 = .ok (.newarray .int, 2) := by decide +kernel
theorem dX5_init_86 : decode cX5_init 86 = .ok (.putfield 41, 3) := by decide +kernel
theorem dX5_init_89 : decode cX5_init 89 = .ok (.aload_n 0, 1) := by decide +kernel
theorem dX5_init_90 : decode cX5_init 90 = .ok (.bipush 12, 2) := by decide +kernel
theorem dX5_init_92 : decode cX5_init 92 = .ok (.newarray .boolean, 2) := by decide +kernel
theorem dX5_init_94 : decode cX5_init 94 = .ok (.putfield 44, 3) := by decide +kernel
theorem dX5_init_97 : decode cX5_init 97 = .ok (.aload_n 0, 1) := by decide +kernel
theorem dX5_init_98 : decode cX5_init 98 = .ok (.iconst 4, 1) := by decide +kernel
theorem dX5_init_99 : decode cX5_init 99 = .ok (.newarray .int, 2) := by decide +kernel
theorem dX5_init_101 : decode cX5_init 101 = .ok (.putfield 47, 3) := by decide +kernel
theorem dX5_init_104 : decode cX5_init 104 = .ok (.aload_n 0, 1) := by decide +kernel
theorem dX5_init_105 : decode cX5_init 105 = .ok (.bipush 12, 2) := by decide +kernel
theorem dX5_init_107 : decode cX5_init 107 = .ok (.newarray .int, 2) := by decide +kernel
theorem dX5_init_109 : decode cX5_init 109 = .ok (.putfield 50, 3) := by decide +kernel
theorem dX5_init_112 : decode cX5_init 112 = .ok (.aload_n 0, 1) := by decide +kernel
theorem dX5_init_113 : decode cX5_init 113 = .ok (.bipush 12, 2) := by decide +kernel
theorem dX5_init_115 : decode cX5_init 115 = .ok (.newarray .int, 2) := by decide +kernel
theorem dX5_init_117 : decode cX5_init 117 = .ok (.putfield 53, 3) := by decide +kernel
theorem dX5_init_120 : decode cX5_init 120 = .ok (.aload_n 0, 1) := by decide +kernel
theorem dX5_init_121 : decode cX5_init 121 = .ok (.bipush 12, 2) := by decide +kernel
theorem dX5_init_123 : decode cX5_init 123 = .ok (.newarray .boolean, 2) := by decide +kernel
theorem dX5_init_125 : decode cX5_init 125 = .ok (.putfield 56, 3) := by decide +kernel
theorem dX5_init_128 : decode cX5_init 128 = .ok (.iconst 1, 1) := by decide +kernel
theorem dX5_init_129 : decode cX5_init 129 = .ok (.istore_n 1, 1) := by decide +kernel
theorem dX5_init_130 : decode cX5_init 130 = .ok (.iload_n 1, 1) := by decide +kernel
theorem dX5_init_131 : decode cX5_init 131 = .ok (.bipush 12, 2) := by decide +kernel
theorem dX5_init_133 : decode cX5_init 133 = .ok (.if_icmp .ge 16, 3) := by decide +kernel
theorem dX5_init_136 : decode cX5_init 136 = .ok (.aload_n 0, 1) := by decide +kernel
theorem dX5_init_137 : decode cX5_init 137 = .ok (.getfield 13, 3) := by decide +kernel
theorem dX5_init_140 : decode cX5_init 140 = .ok (.iload_n 1, 1) := by decide +kernel
theorem dX5_init_141 : decode cX5_init 141 = .ok (.iconst 1, 1) := by decide +kernel
theorem dX5_init_142 : decode cX5_init 142 = .ok (.iastore, 1) := by decide +kernel
theorem dX5_init_143 : decode cX5_init 143 = .ok (.iinc 1 1, 3) := by decide +kernel
theorem dX5_init_146 : decode cX5_init 146 = .ok (.goto (-16), 3) := by decide +kernel
theorem dX5_init_149 : decode cX5_init 149 = .ok (.return_, 1) := by decide +kernel
theorem dX5_thrown_0 : decode cX5_thrown 0 = .ok (.aload_n 0, 1) := by decide +kernel
theorem dX5_thrown_1 : decode cX5_thrown 1 = .ok (.getfield 59, 3) := by decide +kernel
theorem dX5_thrown_4 : decode cX5_thrown 4 = .ok (.ireturn, 1) := by decide +kernel
theorem dX5_holds_0 : decode cX5_holds 0 = .ok (.aload_n 0, 1) := by decide +kernel
theorem dX5_holds_1 : decode cX5_holds 1 = .ok (.iload_n 1, 1) := by decide +kernel
theorem dX5_holds_2 : decode cX5_holds 2 = .ok (.putfield 59, 3) := by decide +kernel
theorem dX5_holds_5 : decode cX5_holds 5 = .ok (.iload_n 1, 1) := by decide +kernel
theorem dX5_holds_6 : decode cX5_holds 6 = .ok (.ifCond .ne 7, 3) := by decide +kernel
theorem dX5_holds_9 : decode cX5_holds 9 = .ok (.iconst 1, 1) := by decide +kernel
theorem dX5_holds_10 : decode cX5_holds 10 = .ok (.goto 4, 3) := by decide +kernel
theorem dX5_holds_13 : decode cX5_holds 13 = .ok (.iconst 0, 1) := by decide +kernel
theorem dX5_holds_14 : decode cX5_holds 14 = .ok (.ireturn, 1) := by decide +kernel
theorem dX5_isIn_0 : decode cX5_isIn 0 = .ok (.iload_n 0, 1) := by decide +kernel
theorem dX5_isIn_1 : decode cX5_isIn 1 = .ok (.iload_n 1, 1) := by decide +kernel
theorem dX5_isIn_2 : decode cX5_isIn 2 = .ok (.if_icmp .lt 12, 3) := by decide +kernel
theorem dX5_isIn_5 : decode cX5_isIn 5 = .ok (.iload_n 0, 1) := by decide +kernel
theorem dX5_isIn_6 : decode cX5_isIn 6 = .ok (.iload_n 2, 1) := by decide +kernel
theorem dX5_isIn_7 : decode cX5_isIn 7 = .ok (.if_icmp .gt 7, 3) := by decide +kernel
theorem dX5_isIn_10 : decode cX5_isIn 10 = .ok (.iconst 1, 1) := by decide +kernel
theorem dX5_isIn_11 : decode cX5_isIn 11 = .ok (.goto 4, 3) := by decide +kernel
theorem dX5_isIn_14 : decode cX5_isIn 14 = .ok (.iconst 0, 1) := by decide +kernel
theorem dX5_isIn_15 : decode cX5_isIn 15 = .ok (.ireturn, 1) := by decide +kernel
set_option maxRecDepth 20000 in
theorem ggX5_isHouse_X5_isIn : GoodIn wsX5_isHouse wsX5_isIn := goodIn_r _ [4] (by decide +kernel) (by decide +kernel)
set_option maxRecDepth 20000 in
theorem gX5_isHouse_X5_isIn : GoodIn wsX5_isHouse (va_wsS RX5 63 yX5_isIn wsX5_isIn) := goodIn_app (goodIn_of _ (by decide +kernel)) ggX5_isHouse_X5_isIn
theorem dX5_isHouse_0 : decode cX5_isHouse 0 = .ok (.iload_n 0, 1) := by decide +kernel
theorem dX5_isHouse_1 : decode cX5_isHouse 1 = .ok (.iconst 1, 1) := by decide +kernel
theorem dX5_isHouse_2 : decode cX5_isHouse 2 = .ok (.bipush 11, 2) := by decide +kernel
theorem dX5_isHouse_4 : decode cX5_isHouse 4 = .ok (.invokestatic 63, 3) := by decide +kernel
theorem dX5_isHouse_7 : decode cX5_isHouse 7 = .ok (.ireturn, 1) := by decide +kernel
set_option maxRecDepth 20000 in
theorem ggX5_feed_X5_isHouse : GoodIn wsX5_feed wsX5_isHouse := goodIn_r _ [7, 8, 9, 6, 10] (by decide +kernel) (by decide +kernel)
set_option maxRecDepth 20000 in
theorem gX5_feed_X5_isHouse : GoodIn wsX5_feed (va_wsS RX5 67 yX5_isHouse wsX5_isHouse) := goodIn_app (goodIn_of _ (by decide +kernel)) ggX5_feed_X5_isHouse
set_option maxRecDepth 20000 in
theorem ggX5_feed_X5_isIn : GoodIn wsX5_feed wsX5_isIn := goodIn_r _ [10] (by decide +kernel) (by decide +kernel)
set_option maxRecDepth 20000 in
theorem gX5_feed_X5_isIn : GoodIn wsX5_feed (va_wsS RX5 63 yX5_isIn wsX5_isIn) := goodIn_app (goodIn_of _ (by decide +kernel)) ggX5_feed_X5_isIn
set_option maxRecDepth 20000 in
theorem ggX5_feed_X5_holds : GoodIn wsX5_feed wsX5_holds := goodIn_r _ [14, 15, 16, 17, 18, 19, 20, 21, 22, 23, 24, 25, 26, 27, 28, 29, 30, 31, 32, 33, 34, 35, 36, 37] (by decide +kernel) (by decide +kernel)
set_option maxRecDepth 20000 in
theorem gX5_feed_X5_holds : GoodIn wsX5_feed (wsV RX5 74 RX5 yX5_holds wsX5_holds) := goodIn_app (goodIn_of _ (by decide +kernel)) ggX5_feed_X5_holds
theorem dX5_feed_0 : decode cX5_feed 0 = .ok (.iload_n 1, 1) := by decide +kernel
theorem dX5_feed_1 : decode cX5_feed 1 = .ok (.invokestatic 67, 3) := by decide +kernel
theorem dX5_feed_4 : decode cX5_feed 4 = .ok (.ifCond .eq 28, 3) := by decide +kernel
theorem dX5_feed_7 : decode cX5_feed 7 = .ok (.iload_n 2, 1) := by decide +kernel
theorem dX5_feed_8 : decode cX5_feed 8 = .ok (.iconst 0, 1) := by decide +kernel
theorem dX5_feed_9 : decode cX5_feed 9 = .ok (.iload_n 1, 1) := by decide +kernel
theorem dX5_feed_10 : decode cX5_feed 10 = .ok (.iconst 1, 1) := by decide +kernel
theorem dX5_feed_11 : decode cX5_feed 11 = .ok (.isub, 1) := by decide +kernel
theorem dX5_feed_12 : decode cX5_feed 12 = .ok (.invokestatic 63, 3) := by decide +kernel
theorem dX5_feed_15 : decode cX5_feed 15 = .ok (.ifCond .eq 17, 3) := by decide +kernel
theorem dX5_feed_18 : decode cX5_feed 18 = .ok (.iload_n 3, 1) := by decide +kernel
theorem dX5_feed_19 : decode cX5_feed 19 = .ok (.iconst 0, 1) := by decide +kernel
theorem dX5_feed_20 : decode cX5_feed 20 = .ok (.bipush 20, 2) := by decide +kernel
theorem dX5_feed_22 : decode cX5_feed 22 = .ok (.invokestatic 63, 3) := by decide +kernel
theorem dX5_feed_25 : decode cX5_feed 25 = .ok (.ifCond .eq 7, 3) := by decide +kernel
theorem dX5_feed_28 : decode cX5_feed 28 = .ok (.iconst 1, 1) := by decide +kernel
theorem dX5_feed_29 : decode cX5_feed 29 = .ok (.goto 4, 3) := by decide +kernel
theorem dX5_feed_32 : decode cX5_feed 32 = .ok (.iconst 0, 1) := by decide +kernel
theorem dX5_feed_33 : decode cX5_feed 33 = .ok (.istore 4, 2) := by decide +kernel
theorem dX5_feed_35 : decode cX5_feed 35 = .ok (.aload_n 0, 1) := by decide +kernel
theorem dX5_feed_36 : decode cX5_feed 36 = .ok (.iload 4, 2) := by decide +kernel
theorem dX5_feed_38 : decode cX5_feed 38 = .ok (.ifCond .ne 7, 3) := by decide +kernel
theorem dX5_feed_41 : decode cX5_feed 41 = .ok (.iconst 1, 1) := by decide +kernel
theorem dX5_feed_42 : decode cX5_feed 42 = .ok (.goto 15, 3) := by decide +kernel
theorem dX5_feed_45 : decode cX5_feed 45 = .ok (.aload_n 0, 1) := by decide +kernel
theorem dX5_feed_46 : decode cX5_feed 46 = .ok (.getfield 71, 3) := by decide +kernel
theorem dX5_feed_49 : decode cX5_feed 49 = .ok (.ifCond .le 7, 3) := by decide +kernel
theorem dX5_feed_52 : decode cX5_feed 52 = .ok (.iconst 2, 1) := by decide +kernel
theorem dX5_feed_53 : decode cX5_feed 53 = .ok (.goto 4, 3) := by decide +kernel
theorem dX5_feed_56 : decode cX5_feed 56 = .ok (.iconst 0, 1) := by decide +kernel
theorem dX5_feed_57 : decode cX5_feed 57 = .ok (.invokevirtual 74, 3) := by decide +kernel
theorem dX5_feed_60 : decode cX5_feed 60 = .ok (.ifCond .ne 5, 3) := by decide +kernel
theorem dX5_feed_63 : decode cX5_feed 63 = .ok (.iconst 0, 1) := by decide +kernel
theorem dX5_feed_64 : decode cX5_feed 64 = .ok (.ireturn, 1) := by decide +kernel
theorem dX5_feed_65 : decode cX5_feed 65 = .ok (.aload_n 0, 1) := by decide +kernel
theorem dX5_feed_66 : decode cX5_feed 66 = .ok (.getfield 7, 3) := by decide +kernel
theorem dX5_feed_69 : decode cX5_feed 69 = .ok (.iload_n 1, 1) := by decide +kernel
theorem dX5_feed_70 : decode cX5_feed 70 = .ok (.iaload, 1) := by decide +kernel
theorem dX5_feed_71 : decode cX5_feed 71 = .ok (.istore 5, 2) := by decide +kernel
theorem dX5_feed_73 : decode cX5_feed 73 = .ok (.aload_n 0, 1) := by decide +kernel
theorem dX5_feed_74 : decode cX5_feed 74 = .ok (.getfield 7, 3) := by decide +kernel
theorem dX5_feed_77 : decode cX5_feed 77 = .ok (.iload_n 1, 1) := by decide +kernel
theorem dX5_feed_78 : decode cX5_feed 78 = .ok (.iload_n 2, 1) := by decide +kernel
theorem dX5_feed_79 : decode cX5_feed 79 = .ok (.iastore, 1) := by decide +kernel
theorem dX5_feed_80 : decode cX5_feed 80 = .ok (.aload_n 0, 1) := by decide +kernel
theorem dX5_feed_81 : decode cX5_feed 81 = .ok (.getfield 13, 3) := by decide +kernel
theorem dX5_feed_84 : decode cX5_feed 84 = .ok (.iload_n 1, 1) := by decide +kernel
theorem dX5_feed_85 : decode cX5_feed 85 = .ok (.iload_n 3, 1) := by decide +kernel
theorem dX5_feed_86 : decode cX5_feed 86 = .ok (.iastore, 1) := by decide +kernel
theorem dX5_feed_87 : decode cX5_feed 87 = .ok (.iload 5, 2) := by decide +kernel
theorem dX5_feed_89 : decode cX5_feed 89 = .ok (.ireturn, 1) := by decide +kernel
set_option maxRecDepth 20000 in
theorem ggX5_setArea_X5_isHouse : GoodIn wsX5_setArea wsX5_isHouse := goodIn_r _ [5, 6, 7, 4, 8] (by decide +kernel) (by decide +kernel)
set_option maxRecDepth 20000 in
theorem gX5_setArea_X5_isHouse : GoodIn wsX5_setArea (va_wsS RX5 67 yX5_isHouse wsX5_isHouse) := goodIn_app (goodIn_of _ (by decide +kernel)) ggX5_setArea_X5_isHouse
set_option maxRecDepth 20000 in
theorem ggX5_setArea_X5_isIn : GoodIn wsX5_setArea wsX5_isIn := goodIn_r _ [8] (by decide +kernel) (by decide +kernel)
set_option maxRecDepth 20000 in
theorem gX5_setArea_X5_isIn : GoodIn wsX5_setArea (va_wsS RX5 63 yX5_isIn wsX5_isIn) := goodIn_app (goodIn_of _ (by decide +kernel)) ggX5_setArea_X5_isIn
set_option maxRecDepth 20000 in
theorem ggX5_setArea_X5_holds : GoodIn wsX5_setArea wsX5_holds := goodIn_r _ [12, 13, 14, 15, 16, 17, 18, 19, 20, 21, 22, 23, 24, 25, 26, 27, 28, 29, 30, 31, 32, 33, 34, 35] (by decide +kernel) (by decide +kernel)
set_option maxRecDepth 20000 in
theorem gX5_setArea_X5_holds : GoodIn wsX5_setArea (wsV RX5 74 RX5 yX5_holds wsX5_holds) := goodIn_app (goodIn_of _ (by decide +kernel)) ggX5_setArea_X5_holds
theorem dX5_setArea_0 : decode cX5_setArea 0 = .ok (.aload_n 0, 1) := by decide +kernel
theorem dX5_setArea_1 : decode cX5_setArea 1 = .ok (.iload_n 1, 1) := by decide +kernel
theorem dX5_setArea_2 : decode cX5_setArea 2 = .ok (.invokestatic 67, 3) := by decide +kernel
theorem dX5_setArea_5 : decode cX5_setArea 5 = .ok (.ifCond .eq 17, 3) := by decide +kernel
theorem dX5_setArea_8 : decode cX5_setArea 8 = .ok (.iload_n 2, 1) := by decide +kernel
theorem dX5_setArea_9 : decode cX5_setArea 9 = .ok (.iconst 0, 1) := by decide +kernel
theorem dX5_setArea_10 : decode cX5_setArea 10 = .ok (.bipush 50, 2) := by decide +kernel
theorem dX5_setArea_12 : decode cX5_setArea 12 = .ok (.invokestatic 63, 3) := by decide +kernel
theorem dX5_setArea_15 : decode cX5_setArea 15 = .ok (.ifCond .eq 7, 3) := by decide +kernel
theorem dX5_setArea_18 : decode cX5_setArea 18 = .ok (.iconst 0, 1) := by decide +kernel
theorem dX5_setArea_19 : decode cX5_setArea 19 = .ok (.goto 4, 3) := by decide +kernel
theorem dX5_setArea_22 : decode cX5_setArea 22 = .ok (.iconst 1, 1) := by decide +kernel
theorem dX5_setArea_23 : decode cX5_setArea 23 = .ok (.invokevirtual 74, 3) := by decide +kernel
theorem dX5_setArea_26 : decode cX5_setArea 26 = .ok (.ifCond .ne 5, 3) := by decide +kernel
theorem dX5_setArea_29 : decode cX5_setArea 29 = .ok (.iconst 0, 1) := by decide +kernel
theorem dX5_setArea_30 : decode cX5_setArea 30 = .ok (.ireturn, 1) := by decide +kernel
theorem dX5_setArea_31 : decode cX5_setArea 31 = .ok (.aload_n 0, 1) := by decide +kernel
theorem dX5_setArea_32 : decode cX5_setArea 32 = .ok (.getfield 16, 3) := by decide +kernel
theorem dX5_setArea_35 : decode cX5_setArea 35 = .ok (.iload_n 1, 1) := by decide +kernel
theorem dX5_setArea_36 : decode cX5_setArea 36 = .ok (.iaload, 1) := by decide +kernel
theorem dX5_setArea_37 : decode cX5_setArea 37 = .ok (.istore_n 3, 1) := by decide +kernel
theorem dX5_setArea_38 : decode cX5_setArea 38 = .ok (.aload_n 0, 1) := by decide +kernel
theorem dX5_setArea_39 : decode cX5_setArea 39 = .ok (.getfield 16, 3) := by decide +kernel
theorem dX5_setArea_42 : decode cX5_setArea 42 = .ok (.iload_n 1, 1) := by decide +kernel
theorem dX5_setArea_43 : decode cX5_setArea 43 = .ok (.iload_n 2, 1) := by decide +kernel
theorem dX5_setArea_44 : decode cX5_setArea 44 = .ok (.iastore, 1) := by decide +kernel
theorem dX5_setArea_45 : decode cX5_setArea 45 = .ok (.iload_n 3, 1) := by decide +kernel
theorem dX5_setArea_46 : decode cX5_setArea 46 = .ok (.ireturn, 1) := by decide +kernel
set_option maxRecDepth 20000 in
theorem ggX5_addBoiler_X5_isIn : GoodIn wsX5_addBoiler wsX5_isIn := goodIn_r _ [8] (by decide +kernel) (by decide +kernel)
set_option maxRecDepth 20000 in
theorem gX5_addBoiler_X5_isIn : GoodIn wsX5_addBoiler (va_wsS RX5 63 yX5_isIn wsX5_isIn) := goodIn_app (goodIn_of _ (by decide +kernel)) ggX5_addBoiler_X5_isIn
set_option maxRecDepth 20000 in
theorem ggX5_addBoiler_X5_holds : GoodIn wsX5_addBoiler wsX5_holds := goodIn_r _ [12, 13, 14, 15, 16, 17, 18, 19, 20, 21, 22, 23, 24, 25, 26, 27, 28, 29, 30, 31, 32, 33, 34, 35] (by decide +kernel) (by decide +kernel)
set_option maxRecDepth 20000 in
theorem gX5_addBoiler_X5_holds : GoodIn wsX5_addBoiler (wsV RX5 74 RX5 yX5_holds wsX5_holds) := goodIn_app (goodIn_of _ (by decide +kernel)) ggX5_addBoiler_X5_holds
theorem dX5_addBoiler_0 : decode cX5_addBoiler 0 = .ok (.iload_n 1, 1) := by decide +kernel
theorem dX5_addBoiler_1 : decode cX5_addBoiler 1 = .ok (.iconst 1, 1) := by decide +kernel
theorem dX5_addBoiler_2 : decode cX5_addBoiler 2 = .ok (.iconst 5, 1) := by decide +kernel
theorem dX5_addBoiler_3 : decode cX5_addBoiler 3 = .ok (.invokestatic 63, 3) := by decide +kernel
theorem dX5_addBoiler_6 : decode cX5_addBoiler 6 = .ok (.ifCond .eq 27, 3) := by decide +kernel
theorem dX5_addBoiler_9 : decode cX5_addBoiler 9 = .ok (.iload_n 2, 1) := by decide +kernel
theorem dX5_addBoiler_10 : decode cX5_addBoiler 10 = .ok (.iconst 1, 1) := by decide +kernel
theorem dX5_addBoiler_11 : decode cX5_addBoiler 11 = .ok (.bipush 100, 2) := by decide +kernel
theorem dX5_addBoiler_13 : decode cX5_addBoiler 13 = .ok (.invokestatic 63, 3) := by decide +kernel
theorem dX5_addBoiler_16 : decode cX5_addBoiler 16 = .ok (.ifCond .eq 17, 3) := by decide +kernel
theorem dX5_addBoiler_19 : decode cX5_addBoiler 19 = .ok (.iload_n 3, 1) := by decide +kernel
theorem dX5_addBoiler_20 : decode cX5_addBoiler 20 = .ok (.iconst 1, 1) := by decide +kernel
theorem dX5_addBoiler_21 : decode cX5_addBoiler 21 = .ok (.bipush 100, 2) := by decide +kernel
theorem dX5_addBoiler_23 : decode cX5_addBoiler 23 = .ok (.invokestatic 63, 3) := by decide +kernel
theorem dX5_addBoiler_26 : decode cX5_addBoiler 26 = .ok (.ifCond .eq 7, 3) := by decide +kernel
theorem dX5_addBoiler_29 : decode cX5_addBoiler 29 = .ok (.iconst 1, 1) := by decide +kernel
theorem dX5_addBoiler_30 : decode cX5_addBoiler 30 = .ok (.goto 4, 3) := by decide +kernel
theorem dX5_addBoiler_33 : decode cX5_addBoiler 33 = .ok (.iconst 0, 1) := by decide +kernel
theorem dX5_addBoiler_34 : decode cX5_addBoiler 34 = .ok (.istore 4, 2) := by decide +kernel
theorem dX5_addBoiler_36 : decode cX5_addBoiler 36 = .ok (.aload_n 0, 1) := by decide +kernel
theorem dX5_addBoiler_37 : decode cX5_addBoiler 37 = .ok (.iload 4, 2) := by decide +kernel
theorem dX5_addBoiler_39 : decode cX5_addBoiler 39 = .ok (.ifCond .ne 7, 3) := by decide +kernel
theorem dX5_addBoiler_42 : decode cX5_addBoiler 42 = .ok (.iconst 1, 1) := by decide +kernel
theorem dX5_addBoiler_43 : decode cX5_addBoiler 43 = .ok (.goto 16, 3) := by decide +kernel
theorem dX5_addBoiler_46 : decode cX5_addBoiler 46 = .ok (.aload_n 0, 1) := by decide +kernel
theorem dX5_addBoiler_47 : decode cX5_addBoiler 47 = .ok (.getfield 77, 3) := by decide +kernel
theorem dX5_addBoiler_50 : decode cX5_addBoiler 50 = .ok (.iconst 4, 1) := by decide +kernel
theorem dX5_addBoiler_51 : decode cX5_addBoiler 51 = .ok (.if_icmp .ne 7, 3) := by decide +kernel
theorem dX5_addBoiler_54 : decode cX5_addBoiler 54 = .ok (.iconst 2, 1) := by decide +kernel
theorem dX5_addBoiler_55 : decode cX5_addBoiler 55 = .ok (.goto 4, 3) := by decide +kernel
theorem dX5_addBoiler_58 : decode cX5_addBoiler 58 = .ok (.iconst 0, 1) := by decide +kernel
theorem dX5_addBoiler_59 : decode cX5_addBoiler 59 = .ok (.invokevirtual 74, 3) := by decide +kernel
theorem dX5_addBoiler_62 : decode cX5_addBoiler 62 = .ok (.ifCond .ne 5, 3) := by decide +kernel
theorem dX5_addBoiler_65 : decode cX5_addBoiler 65 = .ok (.iconst 0, 1) := by decide +kernel
theorem dX5_addBoiler_66 : decode cX5_addBoiler 66 = .ok (.ireturn, 1) := by decide +kernel
theorem dX5_addBoiler_67 : decode cX5_addBoiler 67 = .ok (.aload_n 0, 1) := by decide +kernel
theorem dX5_addBoiler_68 : decode cX5_addBoiler 68 = .ok (.getfield 28, 3) := by decide +kernel
theorem dX5_addBoiler_71 : decode cX5_addBoiler 71 = .ok (.aload_n 0, 1) := by decide +kernel
theorem dX5_addBoiler_72 : decode cX5_addBoiler 72 = .ok (.getfield 77, 3) := by decide +kernel
theorem dX5_addBoiler_75 : decode cX5_addBoiler 75 = .ok (.iload_n 1, 1) := by decide +kernel
theorem dX5_addBoiler_76 : decode cX5_addBoiler 76 = .ok (.iastore, 1) := by decide +kernel
theorem dX5_addBoiler_77 : decode cX5_addBoiler 77 = .ok (.aload_n 0, 1) := by decide +kernel
theorem dX5_addBoiler_78 : decode cX5_addBoiler 78 = .ok (.getfield 31, 3) := by decide +kernel
theorem dX5_addBoiler_81 : decode cX5_addBoiler 81 = .ok (.aload_n 0, 1) := by decide +kernel
theorem dX5_addBoiler_82 : decode cX5_addBoiler 82 = .ok (.getfield 77, 3) := by decide +kernel
theorem dX5_addBoiler_85 : decode cX5_addBoiler 85 = .ok (.iload_n 2, 1) := by decide +kernel
theorem dX5_addBoiler_86 : decode cX5_addBoiler 86 = .ok (.iastore, 1) := by decide +kernel
theorem dX5_addBoiler_87 : decode cX5_addBoiler 87 = .ok (.aload_n 0, 1) := by decide +kernel
theorem dX5_addBoiler_88 : decode cX5_addBoiler 88 = .ok (.getfield 34, 3) := by decide +kernel
theorem dX5_addBoiler_91 : decode cX5_addBoiler 91 = .ok (.aload_n 0, 1) := by decide +kernel
theorem dX5_addBoiler_92 : decode cX5_addBoiler 92 = .ok (.getfield 77, 3) := by decide +kernel
theorem dX5_addBoiler_95 : decode cX5_addBoiler 95 = .ok (.iload_n 3, 1) := by decide +kernel
theorem dX5_addBoiler_96 : decode cX5_addBoiler 96 = .ok (.iastore, 1) := by decide +kernel
theorem dX5_addBoiler_97 : decode cX5_addBoiler 97 = .ok (.aload_n 0, 1) := by decide +kernel
theorem dX5_addBoiler_98 : decode cX5_addBoiler 98 = .ok (.dup, 1) := by decide +kernel
theorem dX5_addBoiler_99 : decode cX5_addBoiler 99 = .ok (.getfield 77, 3) := by decide +kernel
theorem dX5_addBoiler_102 : decode cX5_addBoiler 102 = .ok (.iconst 1, 1) := by decide +kernel
theorem dX5_addBoiler_103 : decode cX5_addBoiler 103 = .ok (.iadd, 1) := by decide +kernel
theorem dX5_addBoiler_104 : decode cX5_addBoiler 104 = .ok (.putfield 77, 3) := by decide +kernel
theorem dX5_addBoiler_107 : decode cX5_addBoiler 107 = .ok (.aload_n 0, 1) := by decide +kernel
theorem dX5_addBoiler_108 : decode cX5_addBoiler 108 = .ok (.getfield 77, 3) := by decide +kernel
theorem dX5_addBoiler_111 : decode cX5_addBoiler 111 = .ok (.iconst 1, 1) := by decide +kernel
theorem dX5_addBoiler_112 : decode cX5_addBoiler 112 = .ok (.isub, 1) := by decide +kernel
theorem dX5_addBoiler_113 : decode cX5_addBoiler 113 = .ok (.ireturn, 1) := by decide +kernel
set_option maxRecDepth 20000 in
theorem ggX5_setError_X5_isHouse : GoodIn wsX5_setError wsX5_isHouse := goodIn_r _ [5, 6, 7, 4, 8] (by decide +kernel) (by decide +kernel)
set_option maxRecDepth 20000 in
theorem gX5_setError_X5_isHouse : GoodIn wsX5_setError (va_wsS RX5 67 yX5_isHouse wsX5_isHouse) := goodIn_app (goodIn_of _ (by decide +kernel)) ggX5_setError_X5_isHouse
set_option maxRecDepth 20000 in
theorem ggX5_setError_X5_isIn : GoodIn wsX5_setError wsX5_isIn := goodIn_r _ [8] (by decide +kernel) (by decide +kernel)
set_option maxRecDepth 20000 in
theorem gX5_setError_X5_isIn : GoodIn wsX5_setError (va_wsS RX5 63 yX5_isIn wsX5_isIn) := goodIn_app (goodIn_of _ (by decide +kernel)) ggX5_setError_X5_isIn
set_option maxRecDepth 20000 in
theorem ggX5_setError_X5_holds : GoodIn wsX5_setError wsX5_holds := goodIn_r _ [12, 13, 14, 15, 16, 17, 18, 19, 20, 21, 22, 23, 24, 25, 26, 27, 28, 29, 30, 31, 32, 33, 34, 35] (by decide +kernel) (by decide +kernel)
set_option maxRecDepth 20000 in
theorem gX5_setError_X5_holds : GoodIn wsX5_setError (wsV RX5 74 RX5 yX5_holds wsX5_holds) := goodIn_app (goodIn_of _ (by decide +kernel)) ggX5_setError_X5_holds
theorem dX5_setError_0 : decode cX5_setError 0 = .ok (.aload_n 0, 1) := by decide +kernel
theorem dX5_setError_1 : decode cX5_setError 1 = .ok (.iload_n 1, 1) := by decide +kernel
theorem dX5_setError_2 : decode cX5_setError 2 = .ok (.invokestatic 67, 3) := by decide +kernel
theorem dX5_setError_5 : decode cX5_setError 5 = .ok (.ifCond .eq 18, 3) := by decide +kernel
theorem dX5_setError_8 : decode cX5_setError 8 = .ok (.iload_n 2, 1) := by decide +kernel
theorem dX5_setError_9 : decode cX5_setError 9 = .ok (.bipush (-20), 2) := by decide +kernel
theorem dX5_setError_11 : decode cX5_setError 11 = .ok (.bipush 20, 2) := by decide +kernel
theorem dX5_setError_13 : decode cX5_setError 13 = .ok (.invokestatic 63, 3) := by decide +kernel
theorem dX5_setError_16 : decode cX5_setError 16 = .ok (.ifCond .eq 7, 3) := by decide +kernel
theorem dX5_setError_19 : decode cX5_setError 19 = .ok (.iconst 0, 1) := by decide +kernel
theorem dX5_setError_20 : decode cX5_setError 20 = .ok (.goto 4, 3) := by decide +kernel
theorem dX5_setError_23 : decode cX5_setError 23 = .ok (.iconst 1, 1) := by decide +kernel
theorem dX5_setError_24 : decode cX5_setError 24 = .ok (.invokevirtual 74, 3) := by decide +kernel
theorem dX5_setError_27 : decode cX5_setError 27 = .ok (.ifCond .ne 5, 3) := by decide +kernel
theorem dX5_setError_30 : decode cX5_setError 30 = .ok (.iconst 0, 1) := by decide +kernel
theorem dX5_setError_31 : decode cX5_setError 31 = .ok (.ireturn, 1) := by decide +kernel
theorem dX5_setError_32 : decode cX5_setError 32 = .ok (.aload_n 0, 1) := by decide +kernel
theorem dX5_setError_33 : decode cX5_setError 33 = .ok (.getfield 19, 3) := by decide +kernel
theorem dX5_setError_36 : decode cX5_setError 36 = .ok (.iload_n 1, 1) := by decide +kernel
theorem dX5_setError_37 : decode cX5_setError 37 = .ok (.iaload, 1) := by decide +kernel
theorem dX5_setError_38 : decode cX5_setError 38 = .ok (.istore_n 3, 1) := by decide +kernel
theorem dX5_setError_39 : decode cX5_setError 39 = .ok (.aload_n 0, 1) := by decide +kernel
theorem dX5_setError_40 : decode cX5_setError 40 = .ok (.getfield 19, 3) := by decide +kernel
theorem dX5_setError_43 : decode cX5_setError 43 = .ok (.iload_n 1, 1) := by decide +kernel
theorem dX5_setError_44 : decode cX5_setError 44 = .ok (.iload_n 2, 1) := by decide +kernel
theorem dX5_setError_45 : decode cX5_setError 45 = .ok (.iastore, 1) := by decide +kernel
theorem dX5_setError_46 : decode cX5_setError 46 = .ok (.iload_n 3, 1) := by decide +kernel
theorem dX5_setError_47 : decode cX5_setError 47 = .ok (.ireturn, 1) := by decide +kernel
theorem dX5_heats_0 : decode cX5_heats 0 = .ok (.aload_n 0, 1) := by decide +kernel
theorem dX5_heats_1 : decode cX5_heats 1 = .ok (.getfield 37, 3) := by decide +kernel
theorem dX5_heats_4 : decode cX5_heats 4 = .ok (.iconst 0, 1) := by decide +kernel
theorem dX5_heats_5 : decode cX5_heats 5 = .ok (.iconst 1, 1) := by decide +kernel
theorem dX5_heats_6 : decode cX5_heats 6 = .ok (.bastore, 1) := by decide +kernel
theorem dX5_heats_7 : decode cX5_heats 7 = .ok (.iconst 1, 1) := by decide +kernel
theorem dX5_heats_8 : decode cX5_heats 8 = .ok (.istore_n 1, 1) := by decide +kernel
theorem dX5_heats_9 : decode cX5_heats 9 = .ok (.iload_n 1, 1) := by decide +kernel
theorem dX5_heats_10 : decode cX5_heats 10 = .ok (.bipush 12, 2) := by decide +kernel
theorem dX5_heats_12 : decode cX5_heats 12 = .ok (.if_icmp .ge 43, 3) := by decide +kernel
theorem dX5_heats_15 : decode cX5_heats 15 = .ok (.aload_n 0, 1) := by decide +kernel
theorem dX5_heats_16 : decode cX5_heats 16 = .ok (.getfield 37, 3) := by decide +kernel
theorem dX5_heats_19 : decode cX5_heats 19 = .ok (.iload_n 1, 1) := by decide +kernel
theorem dX5_heats_20 : decode cX5_heats 20 = .ok (.aload_n 0, 1) := by decide +kernel
theorem dX5_heats_21 : decode cX5_heats 21 = .ok (.getfield 22, 3) := by decide +kernel
theorem dX5_heats_24 : decode cX5_heats 24 = .ok (.iload_n 1, 1) := by decide +kernel
theorem dX5_heats_25 : decode cX5_heats 25 = .ok (.iaload, 1) := by decide +kernel
theorem dX5_heats_26 : decode cX5_heats 26 = .ok (.ifCond .ne 21, 3) := by decide +kernel
theorem dX5_heats_29 : decode cX5_heats 29 = .ok (.aload_n 0, 1) := by decide +kernel
theorem dX5_heats_30 : decode cX5_heats 30 = .ok (.getfield 37, 3) := by decide +kernel
theorem dX5_heats_33 : decode cX5_heats 33 = .ok (.aload_n 0, 1) := by decide +kernel
theorem dX5_heats_34 : decode cX5_heats 34 = .ok (.getfield 7, 3) := by decide +kernel
theorem dX5_heats_37 : decode cX5_heats 37 = .ok (.iload_n 1, 1) := by decide +kernel
theorem dX5_heats_38 : decode cX5_heats 38 = .ok (.iaload, 1) := by decide +kernel
theorem dX5_heats_39 : decode cX5_heats 39 = .ok (.baload, 1) := by decide +kernel
theorem dX5_heats_40 : decode cX5_heats 40 = .ok (.ifCond .eq 7, 3) := by decide +kernel
theorem dX5_heats_43 : decode cX5_heats 43 = .ok (.iconst 1, 1) := by decide +kernel
theorem dX5_heats_44 : decode cX5_heats 44 = .ok (.goto 4, 3) := by decide +kernel
theorem dX5_heats_47 : decode cX5_heats 47 = .ok (.iconst 0, 1) := by decide +kernel
theorem dX5_heats_48 : decode cX5_heats 48 = .ok (.bastore, 1) := by decide +kernel
theorem dX5_heats_49 : decode cX5_heats 49 = .ok (.iinc 1 1, 3) := by decide +kernel
theorem dX5_heats_52 : decode cX5_heats 52 = .ok (.goto (-43), 3) := by decide +kernel
theorem dX5_heats_55 : decode cX5_heats 55 = .ok (.return_, 1) := by decide +kernel
set_option maxRecDepth 20000 in
theorem ggX5_repair_X5_isHouse : GoodIn wsX5_repair wsX5_isHouse := goodIn_r _ [9, 10, 11, 8, 12] (by decide +kernel) (by decide +kernel)
set_option maxRecDepth 20000 in
theorem gX5_repair_X5_isHouse : GoodIn wsX5_repair (va_wsS RX5 67 yX5_isHouse wsX5_isHouse) := goodIn_app (goodIn_of _ (by decide +kernel)) ggX5_repair_X5_isHouse
set_option maxRecDepth 20000 in
theorem ggX5_repair_X5_isIn : GoodIn wsX5_repair wsX5_isIn := goodIn_r _ [12] (by decide +kernel) (by decide +kernel)
set_option maxRecDepth 20000 in
theorem gX5_repair_X5_isIn : GoodIn wsX5_repair (va_wsS RX5 63 yX5_isIn wsX5_isIn) := goodIn_app (goodIn_of _ (by decide +kernel)) ggX5_repair_X5_isIn
set_option maxRecDepth 20000 in
theorem ggX5_repair_X5_holds : GoodIn wsX5_repair wsX5_holds := goodIn_r _ [16, 17, 23, 24, 25, 26, 27, 28, 29, 30, 31, 32, 33, 34, 35, 36, 37, 38, 39, 40, 41, 42, 43, 44] (by decide +kernel) (by decide +kernel)
set_option maxRecDepth 20000 in
theorem gX5_repair_X5_holds : GoodIn wsX5_repair (wsV RX5 74 RX5 yX5_holds wsX5_holds) := goodIn_app (goodIn_of _ (by decide +kernel)) ggX5_repair_X5_holds
set_option maxRecDepth 20000 in
theorem ggX5_repair_X5_heats : GoodIn wsX5_repair wsX5_heats := goodIn_r _ [21, 5, 1, 22, 23, 24, 25, 26, 27, 28, 29, 30, 31, 32, 33, 34, 35, 36, 37, 38, 39, 40, 41, 42, 43, 44] (by decide +kernel) (by decide +kernel)
set_option maxRecDepth 20000 in
theorem gX5_repair_X5_heats : GoodIn wsX5_repair (wsV RX5 83 RX5 yX5_heats wsX5_heats) := goodIn_app (goodIn_of _ (by decide +kernel)) ggX5_repair_X5_heats
theorem dX5_repair_0 : decode cX5_repair 0 = .ok (.iload_n 1, 1) := by decide +kernel
theorem dX5_repair_1 : decode cX5_repair 1 = .ok (.invokestatic 67, 3) := by decide +kernel
theorem dX5_repair_4 : decode cX5_repair 4 = .ok (.ifCond .eq 17, 3) := by decide +kernel
theorem dX5_repair_7 : decode cX5_repair 7 = .ok (.iload_n 2, 1) := by decide +kernel
theorem dX5_repair_8 : decode cX5_repair 8 = .ok (.iconst 1, 1) := by decide +kernel
theorem dX5_repair_9 : decode cX5_repair 9 = .ok (.bipush 20, 2) := by decide +kernel
theorem dX5_repair_11 : decode cX5_repair 11 = .ok (.invokestatic 63, 3) := by decide +kernel
theorem dX5_repair_14 : decode cX5_repair 14 = .ok (.ifCond .eq 7, 3) := by decide +kernel
theorem dX5_repair_17 : decode cX5_repair 17 = .ok (.iconst 1, 1) := by decide +kernel
theorem dX5_repair_18 : decode cX5_repair 18 = .ok (.goto 4, 3) := by decide +kernel
theorem dX5_repair_21 : decode cX5_repair 21 = .ok (.iconst 0, 1) := by decide +kernel
theorem dX5_repair_22 : decode cX5_repair 22 = .ok (.istore_n 3, 1) := by decide +kernel
theorem dX5_repair_23 : decode cX5_repair 23 = .ok (.iload_n 3, 1) := by decide +kernel
theorem dX5_repair_24 : decode cX5_repair 24 = .ok (.ifCond .eq 32, 3) := by decide +kernel
theorem dX5_repair_27 : decode cX5_repair 27 = .ok (.aload_n 0, 1) := by decide +kernel
theorem dX5_repair_28 : decode cX5_repair 28 = .ok (.getfield 22, 3) := by decide +kernel
theorem dX5_repair_31 : decode cX5_repair 31 = .ok (.iload_n 1, 1) := by decide +kernel
theorem dX5_repair_32 : decode cX5_repair 32 = .ok (.iaload, 1) := by decide +kernel
theorem dX5_repair_33 : decode cX5_repair 33 = .ok (.ifCond .ne 23, 3) := by decide +kernel
theorem dX5_repair_36 : decode cX5_repair 36 = .ok (.aload_n 0, 1) := by decide +kernel
theorem dX5_repair_37 : decode cX5_repair 37 = .ok (.getfield 71, 3) := by decide +kernel
theorem dX5_repair_40 : decode cX5_repair 40 = .ok (.ifCond .eq 12, 3) := by decide +kernel
theorem dX5_repair_43 : decode cX5_repair 43 = .ok (.aload_n 0, 1) := by decide +kernel
theorem dX5_repair_44 : decode cX5_repair 44 = .ok (.getfield 80, 3) := by decide +kernel
theorem dX5_repair_47 : decode cX5_repair 47 = .ok (.bipush 10, 2) := by decide +kernel
theorem dX5_repair_49 : decode cX5_repair 49 = .ok (.if_icmp .lt 7, 3) := by decide +kernel
theorem dX5_repair_52 : decode cX5_repair 52 = .ok (.iconst 1, 1) := by decide +kernel
theorem dX5_repair_53 : decode cX5_repair 53 = .ok (.goto 4, 3) := by decide +kernel
theorem dX5_repair_56 : decode cX5_repair 56 = .ok (.iconst 0, 1) := by decide +kernel
theorem dX5_repair_57 : decode cX5_repair 57 = .ok (.istore 4, 2) := by decide +kernel
theorem dX5_repair_59 : decode cX5_repair 59 = .ok (.aload_n 0, 1) := by decide +kernel
theorem dX5_repair_60 : decode cX5_repair 60 = .ok (.iload_n 3, 1) := by decide +kernel
theorem dX5_repair_61 : decode cX5_repair 61 = .ok (.ifCond .ne 7, 3) := by decide +kernel
theorem dX5_repair_64 : decode cX5_repair 64 = .ok (.iconst 1, 1) := by decide +kernel
theorem dX5_repair_65 : decode cX5_repair 65 = .ok (.goto 13, 3) := by decide +kernel
theorem dX5_repair_68 : decode cX5_repair 68 = .ok (.iload 4, 2) := by decide +kernel
theorem dX5_repair_70 : decode cX5_repair 70 = .ok (.ifCond .eq 7, 3) := by decide +kernel
theorem dX5_repair_73 : decode cX5_repair 73 = .ok (.iconst 0, 1) := by decide +kernel
theorem dX5_repair_74 : decode cX5_repair 74 = .ok (.goto 4, 3) := by decide +kernel
theorem dX5_repair_77 : decode cX5_repair 77 = .ok (.iconst 2, 1) := by decide +kernel
theorem dX5_repair_78 : decode cX5_repair 78 = .ok (.invokevirtual 74, 3) := by decide +kernel
theorem dX5_repair_81 : decode cX5_repair 81 = .ok (.ifCond .ne 5, 3) := by decide +kernel
theorem dX5_repair_84 : decode cX5_repair 84 = .ok (.iconst 0, 1) := by decide +kernel
theorem dX5_repair_85 : decode cX5_repair 85 = .ok (.ireturn, 1) := by decide +kernel
theorem dX5_repair_86 : decode cX5_repair 86 = .ok (.aload_n 0, 1) := by decide +kernel
theorem dX5_repair_87 : decode cX5_repair 87 = .ok (.getfield 22, 3) := by decide +kernel
theorem dX5_repair_90 : decode cX5_repair 90 = .ok (.iload_n 1, 1) := by decide +kernel
theorem dX5_repair_91 : decode cX5_repair 91 = .ok (.iload_n 2, 1) := by decide +kernel
theorem dX5_repair_92 : decode cX5_repair 92 = .ok (.iastore, 1) := by decide +kernel
theorem dX5_repair_93 : decode cX5_repair 93 = .ok (.aload_n 0, 1) := by decide +kernel
theorem dX5_repair_94 : decode cX5_repair 94 = .ok (.invokevirtual 83, 3) := by decide +kernel
theorem dX5_repair_97 : decode cX5_repair 97 = .ok (.iconst 0, 1) := by decide +kernel
theorem dX5_repair_98 : decode cX5_repair 98 = .ok (.istore 5, 2) := by decide +kernel
theorem dX5_repair_100 : decode cX5_repair 100 = .ok (.iconst 1, 1) := by decide +kernel
theorem dX5_repair_101 : decode cX5_repair 101 = .ok (.istore 6, 2) := by decide +kernel
theorem dX5_repair_103 : decode cX5_repair 103 = .ok (.iload 6, 2) := by decide +kernel
theorem dX5_repair_105 : decode cX5_repair 105 = .ok (.bipush 12, 2) := by decide +kernel
theorem dX5_repair_107 : decode cX5_repair 107 = .ok (.if_icmp .ge 39, 3) := by decide +kernel
theorem dX5_repair_110 : decode cX5_repair 110 = .ok (.iload 5, 2) := by decide +kernel
theorem dX5_repair_112 : decode cX5_repair 112 = .ok (.aload_n 0, 1) := by decide +kernel
theorem dX5_repair_113 : decode cX5_repair 113 = .ok (.getfield 16, 3) := by decide +kernel
theorem dX5_repair_116 : decode cX5_repair 116 = .ok (.iload 6, 2) := by decide +kernel
theorem dX5_repair_118 : decode cX5_repair 118 = .ok (.iaload, 1) := by decide +kernel
theorem dX5_repair_119 : decode cX5_repair 119 = .ok (.ifCond .le 17, 3) := by decide +kernel
theorem dX5_repair_122 : decode cX5_repair 122 = .ok (.aload_n 0, 1) := by decide +kernel
theorem dX5_repair_123 : decode cX5_repair 123 = .ok (.getfield 37, 3) := by decide +kernel
theorem dX5_repair_126 : decode cX5_repair 126 = .ok (.iload 6, 2) := by decide +kernel
theorem dX5_repair_128 : decode cX5_repair 128 = .ok (.baload, 1) := by decide +kernel
theorem dX5_repair_129 : decode cX5_repair 129 = .ok (.ifCond .ne 7, 3) := by decide +kernel
theorem dX5_repair_132 : decode cX5_repair 132 = .ok (.iconst 1, 1) := by decide +kernel
theorem dX5_repair_133 : decode cX5_repair 133 = .ok (.goto 4, 3) := by decide +kernel
theorem dX5_repair_136 : decode cX5_repair 136 = .ok (.iconst 0, 1) := by decide +kernel
theorem dX5_repair_137 : decode cX5_repair 137 = .ok (.iadd, 1) := by decide +kernel
theorem dX5_repair_138 : decode cX5_repair 138 = .ok (.istore 5, 2) := by decide +kernel
theorem dX5_repair_140 : decode cX5_repair 140 = .ok (.iinc 6 1, 3) := by decide +kernel
theorem dX5_repair_143 : decode cX5_repair 143 = .ok (.goto (-40), 3) := by decide +kernel
theorem dX5_repair_146 : decode cX5_repair 146 = .ok (.iload 5, 2) := by decide +kernel
theorem dX5_repair_148 : decode cX5_repair 148 = .ok (.ireturn, 1) := by decide +kernel
theorem dX5_need_0 : decode cX5_need 0 = .ok (.iload_n 1, 1) := by decide +kernel
theorem dX5_need_1 : decode cX5_need 1 = .ok (.bipush 18, 2) := by decide +kernel
theorem dX5_need_3 : decode cX5_need 3 = .ok (.if_icmp .lt 7, 3) := by decide +kernel
theorem dX5_need_6 : decode cX5_need 6 = .ok (.iconst 0, 1) := by decide +kernel
theorem dX5_need_7 : decode cX5_need 7 = .ok (.goto 15, 3) := by decide +kernel
theorem dX5_need_10 : decode cX5_need 10 = .ok (.iload_n 0, 1) := by decide +kernel
theorem dX5_need_11 : decode cX5_need 11 = .ok (.bipush 18, 2) := by decide +kernel
theorem dX5_need_13 : decode cX5_need 13 = .ok (.iload_n 1, 1) := by decide +kernel
theorem dX5_need_14 : decode cX5_need 14 = .ok (.isub, 1) := by decide +kernel
theorem dX5_need_15 : decode cX5_need 15 = .ok (.imul, 1) := by decide +kernel
theorem dX5_need_16 : decode cX5_need 16 = .ok (.bipush 9, 2) := by decide +kernel
theorem dX5_need_18 : decode cX5_need 18 = .ok (.iadd, 1) := by decide +kernel
theorem dX5_need_19 : decode cX5_need 19 = .ok (.bipush 10, 2) := by decide +kernel
theorem dX5_need_21 : decode cX5_need 21 = .ok (.idiv, 1) := by decide +kernel
theorem dX5_need_22 : decode cX5_need 22 = .ok (.ireturn, 1) := by decide +kernel
set_option maxRecDepth 20000 in
theorem ggX5_lays_X5_heats : GoodIn wsX5_lays wsX5_heats := goodIn_r _ [11, 2, 12, 5, 16, 17, 18, 19, 20, 21, 22, 23, 24, 25, 26, 27, 28, 29, 30, 31, 32, 33, 34, 35, 36, 37] (by decide +kernel) (by decide +kernel)
set_option maxRecDepth 20000 in
theorem gX5_lays_X5_heats : GoodIn wsX5_lays (wsV RX5 83 RX5 yX5_heats wsX5_heats) := goodIn_app (goodIn_of _ (by decide +kernel)) ggX5_lays_X5_heats
set_option maxRecDepth 20000 in
theorem ggX5_lays_X5_need : GoodIn wsX5_lays wsX5_need := goodIn_r _ [15] (by decide +kernel) (by decide +kernel)
set_option maxRecDepth 20000 in
theorem gX5_lays_X5_need : GoodIn wsX5_lays (va_wsS RX5 86 yX5_need wsX5_need) := goodIn_app (goodIn_of _ (by decide +kernel)) ggX5_lays_X5_need
theorem dX5_lays_0 : decode cX5_lays 0 = .ok (.iconst 0, 1) := by decide +kernel
theorem dX5_lays_1 : decode cX5_lays 1 = .ok (.istore_n 2, 1) := by decide +kernel
theorem dX5_lays_2 : decode cX5_lays 2 = .ok (.aload_n 0, 1) := by decide +kernel
theorem dX5_lays_3 : decode cX5_lays 3 = .ok (.invokevirtual 83, 3) := by decide +kernel
theorem dX5_lays_6 : decode cX5_lays 6 = .ok (.iconst 1, 1) := by decide +kernel
theorem dX5_lays_7 : decode cX5_lays 7 = .ok (.istore_n 3, 1) := by decide +kernel
theorem dX5_lays_8 : decode cX5_lays 8 = .ok (.iload_n 3, 1) := by decide +kernel
theorem dX5_lays_9 : decode cX5_lays 9 = .ok (.bipush 12, 2) := by decide +kernel
theorem dX5_lays_11 : decode cX5_lays 11 = .ok (.if_icmp .ge 67, 3) := by decide +kernel
theorem dX5_lays_14 : decode cX5_lays 14 = .ok (.aload_n 0, 1) := by decide +kernel
theorem dX5_lays_15 : decode cX5_lays 15 = .ok (.getfield 41, 3) := by decide +kernel
theorem dX5_lays_18 : decode cX5_lays 18 = .ok (.iload_n 3, 1) := by decide +kernel
theorem dX5_lays_19 : decode cX5_lays 19 = .ok (.aload_n 0, 1) := by decide +kernel
theorem dX5_lays_20 : decode cX5_lays 20 = .ok (.getfield 37, 3) := by decide +kernel
theorem dX5_lays_23 : decode cX5_lays 23 = .ok (.iload_n 3, 1) := by decide +kernel
theorem dX5_lays_24 : decode cX5_lays 24 = .ok (.baload, 1) := by decide +kernel
theorem dX5_lays_25 : decode cX5_lays 25 = .ok (.ifCond .eq 16, 3) := by decide +kernel
theorem dX5_lays_28 : decode cX5_lays 28 = .ok (.aload_n 0, 1) := by decide +kernel
theorem dX5_lays_29 : decode cX5_lays 29 = .ok (.getfield 16, 3) := by decide +kernel
theorem dX5_lays_32 : decode cX5_lays 32 = .ok (.iload_n 3, 1) := by decide +kernel
theorem dX5_lays_33 : decode cX5_lays 33 = .ok (.iaload, 1) := by decide +kernel
theorem dX5_lays_34 : decode cX5_lays 34 = .ok (.iload_n 1, 1) := by decide +kernel
theorem dX5_lays_35 : decode cX5_lays 35 = .ok (.invokestatic 86, 3) := by decide +kernel
theorem dX5_lays_38 : decode cX5_lays 38 = .ok (.goto 4, 3) := by decide +kernel
theorem dX5_lays_41 : decode cX5_lays 41 = .ok (.iconst 0, 1) := by decide +kernel
theorem dX5_lays_42 : decode cX5_lays 42 = .ok (.iastore, 1) := by decide +kernel
theorem dX5_lays_43 : decode cX5_lays 43 = .ok (.aload_n 0, 1) := by decide +kernel
theorem dX5_lays_44 : decode cX5_lays 44 = .ok (.getfield 44, 3) := by decide +kernel
theorem dX5_lays_47 : decode cX5_lays 47 = .ok (.iload_n 3, 1) := by decide +kernel
theorem dX5_lays_48 : decode cX5_lays 48 = .ok (.aload_n 0, 1) := by decide +kernel
theorem dX5_lays_49 : decode cX5_lays 49 = .ok (.getfield 41, 3) := by decide +kernel
theorem dX5_lays_52 : decode cX5_lays 52 = .ok (.iload_n 3, 1) := by decide +kernel
theorem dX5_lays_53 : decode cX5_lays 53 = .ok (.iaload, 1) := by decide +kernel
theorem dX5_lays_54 : decode cX5_lays 54 = .ok (.ifCond .le 7, 3) := by decide +kernel
theorem dX5_lays_57 : decode cX5_lays 57 = .ok (.iconst 1, 1) := by decide +kernel
theorem dX5_lays_58 : decode cX5_lays 58 = .ok (.goto 4, 3) := by decide +kernel
theorem dX5_lays_61 : decode cX5_lays 61 = .ok (.iconst 0, 1) := by decide +kernel
theorem dX5_lays_62 : decode cX5_lays 62 = .ok (.bastore, 1) := by decide +kernel
theorem dX5_lays_63 : decode cX5_lays 63 = .ok (.iload_n 2, 1) := by decide +kernel
theorem dX5_lays_64 : decode cX5_lays 64 = .ok (.aload_n 0, 1) := by decide +kernel
theorem dX5_lays_65 : decode cX5_lays 65 = .ok (.getfield 41, 3) := by decide +kernel
theorem dX5_lays_68 : decode cX5_lays 68 = .ok (.iload_n 3, 1) := by decide +kernel
theorem dX5_lays_69 : decode cX5_lays 69 = .ok (.iaload, 1) := by decide +kernel
theorem dX5_lays_70 : decode cX5_lays 70 = .ok (.iadd, 1) := by decide +kernel
theorem dX5_lays_71 : decode cX5_lays 71 = .ok (.istore_n 2, 1) := by decide +kernel
theorem dX5_lays_72 : decode cX5_lays 72 = .ok (.iinc 3 1, 3) := by decide +kernel
theorem dX5_lays_75 : decode cX5_lays 75 = .ok (.goto (-67), 3) := by decide +kernel
theorem dX5_lays_78 : decode cX5_lays 78 = .ok (.bipush 11, 2) := by decide +kernel
theorem dX5_lays_80 : decode cX5_lays 80 = .ok (.istore_n 3, 1) := by decide +kernel
theorem dX5_lays_81 : decode cX5_lays 81 = .ok (.iload_n 3, 1) := by decide +kernel
theorem dX5_lays_82 : decode cX5_lays 82 = .ok (.ifCond .le 70, 3) := by decide +kernel
theorem dX5_lays_85 : decode cX5_lays 85 = .ok (.aload_n 0, 1) := by decide +kernel
theorem dX5_lays_86 : decode cX5_lays 86 = .ok (.getfield 44, 3) := by decide +kernel
theorem dX5_lays_89 : decode cX5_lays 89 = .ok (.aload_n 0, 1) := by decide +kernel
theorem dX5_lays_90 : decode cX5_lays 90 = .ok (.getfield 7, 3) := by decide +kernel
theorem dX5_lays_93 : decode cX5_lays 93 = .ok (.iload_n 3, 1) := by decide +kernel
theorem dX5_lays_94 : decode cX5_lays 94 = .ok (.iaload, 1) := by decide +kernel
theorem dX5_lays_95 : decode cX5_lays 95 = .ok (.aload_n 0, 1) := by decide +kernel
theorem dX5_lays_96 : decode cX5_lays 96 = .ok (.getfield 44, 3) := by decide +kernel
theorem dX5_lays_99 : decode cX5_lays 99 = .ok (.aload_n 0, 1) := by decide +kernel
theorem dX5_lays_100 : decode cX5_lays 100 = .ok (.getfield 7, 3) := by decide +kernel
theorem dX5_lays_103 : decode cX5_lays 103 = .ok (.iload_n 3, 1) := by decide +kernel
theorem dX5_lays_104 : decode cX5_lays 104 = .ok (.iaload, 1) := by decide +kernel
theorem dX5_lays_105 : decode cX5_lays 105 = .ok (.baload, 1) := by decide +kernel
theorem dX5_lays_106 : decode cX5_lays 106 = .ok (.ifCond .ne 12, 3) := by decide +kernel
theorem dX5_lays_109 : decode cX5_lays 109 = .ok (.aload_n 0, 1) := by decide +kernel
theorem dX5_lays_110 : decode cX5_lays 110 = .ok (.getfield 44, 3) := by decide +kernel
theorem dX5_lays_113 : decode cX5_lays 113 = .ok (.iload_n 3, 1) := by decide +kernel
theorem dX5_lays_114 : decode cX5_lays 114 = .ok (.baload, 1) := by decide +kernel
theorem dX5_lays_115 : decode cX5_lays 115 = .ok (.ifCond .eq 7, 3) := by decide +kernel
theorem dX5_lays_118 : decode cX5_lays 118 = .ok (.iconst 1, 1) := by decide +kernel
theorem dX5_lays_119 : decode cX5_lays 119 = .ok (.goto 4, 3) := by decide +kernel
theorem dX5_lays_122 : decode cX5_lays 122 = .ok (.iconst 0, 1) := by decide +kernel
theorem dX5_lays_123 : decode cX5_lays 123 = .ok (.bastore, 1) := by decide +kernel
theorem dX5_lays_124 : decode cX5_lays 124 = .ok (.iload_n 2, 1) := by decide +kernel
theorem dX5_lays_125 : decode cX5_lays 125 = .ok (.aload_n 0, 1) := by decide +kernel
theorem dX5_lays_126 : decode cX5_lays 126 = .ok (.getfield 44, 3) := by decide +kernel
theorem dX5_lays_129 : decode cX5_lays 129 = .ok (.iload_n 3, 1) := by decide +kernel
theorem dX5_lays_130 : decode cX5_lays 130 = .ok (.baload, 1) := by decide +kernel
theorem dX5_lays_131 : decode cX5_lays 131 = .ok (.ifCond .eq 12, 3) := by decide +kernel
theorem dX5_lays_134 : decode cX5_lays 134 = .ok (.aload_n 0, 1) := by decide +kernel
theorem dX5_lays_135 : decode cX5_lays 135 = .ok (.getfield 13, 3) := by decide +kernel
theorem dX5_lays_138 : decode cX5_lays 138 = .ok (.iload_n 3, 1) := by decide +kernel
theorem dX5_lays_139 : decode cX5_lays 139 = .ok (.iaload, 1) := by decide +kernel
theorem dX5_lays_140 : decode cX5_lays 140 = .ok (.goto 4, 3) := by decide +kernel
theorem dX5_lays_143 : decode cX5_lays 143 = .ok (.iconst 0, 1) := by decide +kernel
theorem dX5_lays_144 : decode cX5_lays 144 = .ok (.iadd, 1) := by decide +kernel
theorem dX5_lays_145 : decode cX5_lays 145 = .ok (.istore_n 2, 1) := by decide +kernel
theorem dX5_lays_146 : decode cX5_lays 146 = .ok (.iinc 3 (-1), 3) := by decide +kernel
theorem dX5_lays_149 : decode cX5_lays 149 = .ok (.goto (-68), 3) := by decide +kernel
theorem dX5_lays_152 : decode cX5_lays 152 = .ok (.iload_n 2, 1) := by decide +kernel
theorem dX5_lays_153 : decode cX5_lays 153 = .ok (.ireturn, 1) := by decide +kernel
theorem dX5_next_0 : decode cX5_next 0 = .ok (.iconst (-1), 1) := by decide +kernel
theorem dX5_next_1 : decode cX5_next 1 = .ok (.istore_n 2, 1) := by decide +kernel
theorem dX5_next_2 : decode cX5_next 2 = .ok (.aload_n 0, 1) := by decide +kernel
theorem dX5_next_3 : decode cX5_next 3 = .ok (.getfield 77, 3) := by decide +kernel
theorem dX5_next_6 : decode cX5_next 6 = .ok (.iconst 1, 1) := by decide +kernel
theorem dX5_next_7 : decode cX5_next 7 = .ok (.isub, 1) := by decide +kernel
theorem dX5_next_8 : decode cX5_next 8 = .ok (.istore_n 3, 1) := by decide +kernel
theorem dX5_next_9 : decode cX5_next 9 = .ok (.iload_n 3, 1) := by decide +kernel
theorem dX5_next_10 : decode cX5_next 10 = .ok (.ifCond .lt 85, 3) := by decide +kernel
theorem dX5_next_13 : decode cX5_next 13 = .ok (.iload_n 1, 1) := by decide +kernel
theorem dX5_next_14 : decode cX5_next 14 = .ok (.ifCond .lt 38, 3) := by decide +kernel
theorem dX5_next_17 : decode cX5_next 17 = .ok (.aload_n 0, 1) := by decide +kernel
theorem dX5_next_18 : decode cX5_next 18 = .ok (.getfield 34, 3) := by decide +kernel
theorem dX5_next_21 : decode cX5_next 21 = .ok (.iload_n 3, 1) := by decide +kernel
theorem dX5_next_22 : decode cX5_next 22 = .ok (.iaload, 1) := by decide +kernel
theorem dX5_next_23 : decode cX5_next 23 = .ok (.aload_n 0, 1) := by decide +kernel
theorem dX5_next_24 : decode cX5_next 24 = .ok (.getfield 34, 3) := by decide +kernel
theorem dX5_next_27 : decode cX5_next 27 = .ok (.iload_n 1, 1) := by decide +kernel
theorem dX5_next_28 : decode cX5_next 28 = .ok (.iaload, 1) := by decide +kernel
theorem dX5_next_29 : decode cX5_next 29 = .ok (.if_icmp .gt 23, 3) := by decide +kernel
theorem dX5_next_32 : decode cX5_next 32 = .ok (.aload_n 0, 1) := by decide +kernel
theorem dX5_next_33 : decode cX5_next 33 = .ok (.getfield 34, 3) := by decide +kernel
theorem dX5_next_36 : decode cX5_next 36 = .ok (.iload_n 3, 1) := by decide +kernel
theorem dX5_next_37 : decode cX5_next 37 = .ok (.iaload, 1) := by decide +kernel
theorem dX5_next_38 : decode cX5_next 38 = .ok (.aload_n 0, 1) := by decide +kernel
theorem dX5_next_39 : decode cX5_next 39 = .ok (.getfield 34, 3) := by decide +kernel
theorem dX5_next_42 : decode cX5_next 42 = .ok (.iload_n 1, 1) := by decide +kernel
theorem dX5_next_43 : decode cX5_next 43 = .ok (.iaload, 1) := by decide +kernel
theorem dX5_next_44 : decode cX5_next 44 = .ok (.if_icmp .ne 12, 3) := by decide +kernel
theorem dX5_next_47 : decode cX5_next 47 = .ok (.iload_n 3, 1) := by decide +kernel
theorem dX5_next_48 : decode cX5_next 48 = .ok (.iload_n 1, 1) := by decide +kernel
theorem dX5_next_49 : decode cX5_next 49 = .ok (.if_icmp .le 7, 3) := by decide +kernel
theorem dX5_next_52 : decode cX5_next 52 = .ok (.iconst 1, 1) := by decide +kernel
theorem dX5_next_53 : decode cX5_next 53 = .ok (.goto 4, 3) := by decide +kernel
theorem dX5_next_56 : decode cX5_next 56 = .ok (.iconst 0, 1) := by decide +kernel
theorem dX5_next_57 : decode cX5_next 57 = .ok (.istore 4, 2) := by decide +kernel
theorem dX5_next_59 : decode cX5_next 59 = .ok (.iload 4, 2) := by decide +kernel
theorem dX5_next_61 : decode cX5_next 61 = .ok (.ifCond .eq 26, 3) := by decide +kernel
theorem dX5_next_64 : decode cX5_next 64 = .ok (.iload_n 2, 1) := by decide +kernel
theorem dX5_next_65 : decode cX5_next 65 = .ok (.ifCond .lt 18, 3) := by decide +kernel
theorem dX5_next_68 : decode cX5_next 68 = .ok (.aload_n 0, 1) := by decide +kernel
theorem dX5_next_69 : decode cX5_next 69 = .ok (.getfield 34, 3) := by decide +kernel
theorem dX5_next_72 : decode cX5_next 72 = .ok (.iload_n 3, 1) := by decide +kernel
theorem dX5_next_73 : decode cX5_next 73 = .ok (.iaload, 1) := by decide +kernel
theorem dX5_next_74 : decode cX5_next 74 = .ok (.aload_n 0, 1) := by decide +kernel
theorem dX5_next_75 : decode cX5_next 75 = .ok (.getfield 34, 3) := by decide +kernel
theorem dX5_next_78 : decode cX5_next 78 = .ok (.iload_n 2, 1) := by decide +kernel
theorem dX5_next_79 : decode cX5_next 79 = .ok (.iaload, 1) := by decide +kernel
theorem dX5_next_80 : decode cX5_next 80 = .ok (.if_icmp .gt 7, 3) := by decide +kernel
theorem dX5_next_83 : decode cX5_next 83 = .ok (.iload_n 3, 1) := by decide +kernel
theorem dX5_next_84 : decode cX5_next 84 = .ok (.goto 4, 3) := by decide +kernel
theorem dX5_next_87 : decode cX5_next 87 = .ok (.iload_n 2, 1) := by decide +kernel
theorem dX5_next_88 : decode cX5_next 88 = .ok (.istore_n 2, 1) := by decide +kernel
theorem dX5_next_89 : decode cX5_next 89 = .ok (.iinc 3 (-1), 3) := by decide +kernel
theorem dX5_next_92 : decode cX5_next 92 = .ok (.goto (-83), 3) := by decide +kernel
theorem dX5_next_95 : decode cX5_next 95 = .ok (.iload_n 2, 1) := by decide +kernel
theorem dX5_next_96 : decode cX5_next 96 = .ok (.ireturn, 1) := by decide +kernel
set_option maxRecDepth 20000 in
theorem ggX5_fires_X5_next : GoodIn wsX5_fires wsX5_next := goodIn_r _ [10, 11, 5, 12, 13, 14, 15, 16, 17, 18, 19, 20, 21, 22, 23, 24, 25, 26, 27, 28, 29, 30, 31, 32, 33] (by decide +kernel) (by decide +kernel)
set_option maxRecDepth 20000 in
theorem gX5_fires_X5_next : GoodIn wsX5_fires (wsV RX5 90 RX5 yX5_next wsX5_next) := goodIn_app (goodIn_of _ (by decide +kernel)) ggX5_fires_X5_next
theorem dX5_fires_0 : decode cX5_fires 0 = .ok (.iload_n 1, 1) := by decide +kernel
theorem dX5_fires_1 : decode cX5_fires 1 = .ok (.istore_n 2, 1) := by decide +kernel
theorem dX5_fires_2 : decode cX5_fires 2 = .ok (.aload_n 0, 1) := by decide +kernel
theorem dX5_fires_3 : decode cX5_fires 3 = .ok (.iconst (-1), 1) := by decide +kernel
theorem dX5_fires_4 : decode cX5_fires 4 = .ok (.invokevirtual 90, 3) := by decide +kernel
theorem dX5_fires_7 : decode cX5_fires 7 = .ok (.istore_n 3, 1) := by decide +kernel
theorem dX5_fires_8 : decode cX5_fires 8 = .ok (.iload_n 3, 1) := by decide +kernel
theorem dX5_fires_9 : decode cX5_fires 9 = .ok (.ifCond .lt 114, 3) := by decide +kernel
theorem dX5_fires_12 : decode cX5_fires 12 = .ok (.iload_n 2, 1) := by decide +kernel
theorem dX5_fires_13 : decode cX5_fires 13 = .ok (.aload_n 0, 1) := by decide +kernel
theorem dX5_fires_14 : decode cX5_fires 14 = .ok (.getfield 31, 3) := by decide +kernel
theorem dX5_fires_17 : decode cX5_fires 17 = .ok (.iload_n 3, 1) := by decide +kernel
theorem dX5_fires_18 : decode cX5_fires 18 = .ok (.iaload, 1) := by decide +kernel
theorem dX5_fires_19 : decode cX5_fires 19 = .ok (.iadd, 1) := by decide +kernel
theorem dX5_fires_20 : decode cX5_fires 20 = .ok (.iconst 1, 1) := by decide +kernel
theorem dX5_fires_21 : decode cX5_fires 21 = .ok (.isub, 1) := by decide +kernel
theorem dX5_fires_22 : decode cX5_fires 22 = .ok (.aload_n 0, 1) := by decide +kernel
theorem dX5_fires_23 : decode cX5_fires 23 = .ok (.getfield 31, 3) := by decide +kernel
theorem dX5_fires_26 : decode cX5_fires 26 = .ok (.iload_n 3, 1) := by decide +kernel
theorem dX5_fires_27 : decode cX5_fires 27 = .ok (.iaload, 1) := by decide +kernel
theorem dX5_fires_28 : decode cX5_fires 28 = .ok (.idiv, 1) := by decide +kernel
theorem dX5_fires_29 : decode cX5_fires 29 = .ok (.istore 4, 2) := by decide +kernel
theorem dX5_fires_31 : decode cX5_fires 31 = .ok (.iload 4, 2) := by decide +kernel
theorem dX5_fires_33 : decode cX5_fires 33 = .ok (.aload_n 0, 1) := by decide +kernel
theorem dX5_fires_34 : decode cX5_fires 34 = .ok (.getfield 28, 3) := by decide +kernel
theorem dX5_fires_37 : decode cX5_fires 37 = .ok (.iload_n 3, 1) := by decide +kernel
theorem dX5_fires_38 : decode cX5_fires 38 = .ok (.iaload, 1) := by decide +kernel
theorem dX5_fires_39 : decode cX5_fires 39 = .ok (.if_icmp .le 12, 3) := by decide +kernel
theorem dX5_fires_42 : decode cX5_fires 42 = .ok (.aload_n 0, 1) := by decide +kernel
theorem dX5_fires_43 : decode cX5_fires 43 = .ok (.getfield 28, 3) := by decide +kernel
theorem dX5_fires_46 : decode cX5_fires 46 = .ok (.iload_n 3, 1) := by decide +kernel
theorem dX5_fires_47 : decode cX5_fires 47 = .ok (.iaload, 1) := by decide +kernel
theorem dX5_fires_48 : decode cX5_fires 48 = .ok (.goto 5, 3) := by decide +kernel
theorem dX5_fires_51 : decode cX5_fires 51 = .ok (.iload 4, 2) := by decide +kernel
theorem dX5_fires_53 : decode cX5_fires 53 = .ok (.istore 4, 2) := by decide +kernel
theorem dX5_fires_55 : decode cX5_fires 55 = .ok (.iload 4, 2) := by decide +kernel
theorem dX5_fires_57 : decode cX5_fires 57 = .ok (.aload_n 0, 1) := by decide +kernel
theorem dX5_fires_58 : decode cX5_fires 58 = .ok (.getfield 31, 3) := by decide +kernel
theorem dX5_fires_61 : decode cX5_fires 61 = .ok (.iload_n 3, 1) := by decide +kernel
theorem dX5_fires_62 : decode cX5_fires 62 = .ok (.iaload, 1) := by decide +kernel
theorem dX5_fires_63 : decode cX5_fires 63 = .ok (.imul, 1) := by decide +kernel
theorem dX5_fires_64 : decode cX5_fires 64 = .ok (.iload_n 2, 1) := by decide +kernel
theorem dX5_fires_65 : decode cX5_fires 65 = .ok (.if_icmp .ge 15, 3) := by decide +kernel
theorem dX5_fires_68 : decode cX5_fires 68 = .ok (.iload 4, 2) := by decide +kernel
theorem dX5_fires_70 : decode cX5_fires 70 = .ok (.aload_n 0, 1) := by decide +kernel
theorem dX5_fires_71 : decode cX5_fires 71 = .ok (.getfield 31, 3) := by decide +kernel
theorem dX5_fires_74 : decode cX5_fires 74 = .ok (.iload_n 3, 1) := by decide +kernel
theorem dX5_fires_75 : decode cX5_fires 75 = .ok (.iaload, 1) := by decide +kernel
theorem dX5_fires_76 : decode cX5_fires 76 = .ok (.imul, 1) := by decide +kernel
theorem dX5_fires_77 : decode cX5_fires 77 = .ok (.goto 4, 3) := by decide +kernel
theorem dX5_fires_80 : decode cX5_fires 80 = .ok (.iload_n 2, 1) := by decide +kernel
theorem dX5_fires_81 : decode cX5_fires 81 = .ok (.istore 5, 2) := by decide +kernel
theorem dX5_fires_83 : decode cX5_fires 83 = .ok (.aload_n 0, 1) := by decide +kernel
theorem dX5_fires_84 : decode cX5_fires 84 = .ok (.getfield 47, 3) := by decide +kernel
theorem dX5_fires_87 : decode cX5_fires 87 = .ok (.iload_n 3, 1) := by decide +kernel
theorem dX5_fires_88 : decode cX5_fires 88 = .ok (.iload 4, 2) := by decide +kernel
theorem dX5_fires_90 : decode cX5_fires 90 = .ok (.iastore, 1) := by decide +kernel
theorem dX5_fires_91 : decode cX5_fires 91 = .ok (.aload_n 0, 1) := by decide +kernel
theorem dX5_fires_92 : decode cX5_fires 92 = .ok (.dup, 1) := by decide +kernel
theorem dX5_fires_93 : decode cX5_fires 93 = .ok (.getfield 94, 3) := by decide +kernel
theorem dX5_fires_96 : decode cX5_fires 96 = .ok (.iload 5, 2) := by decide +kernel
theorem dX5_fires_98 : decode cX5_fires 98 = .ok (.aload_n 0, 1) := by decide +kernel
theorem dX5_fires_99 : decode cX5_fires 99 = .ok (.getfield 34, 3) := by decide +kernel
theorem dX5_fires_102 : decode cX5_fires 102 = .ok (.iload_n 3, 1) := by decide +kernel
theorem dX5_fires_103 : decode cX5_fires 103 = .ok (.iaload, 1) := by decide +kernel
theorem dX5_fires_104 : decode cX5_fires 104 = .ok (.imul, 1) := by decide +kernel
theorem dX5_fires_105 : decode cX5_fires 105 = .ok (.iadd, 1) := by decide +kernel
theorem dX5_fires_106 : decode cX5_fires 106 = .ok (.putfield 94, 3) := by decide +kernel
theorem dX5_fires_109 : decode cX5_fires 109 = .ok (.iload_n 2, 1) := by decide +kernel
theorem dX5_fires_110 : decode cX5_fires 110 = .ok (.iload 5, 2) := by decide +kernel
theorem dX5_fires_112 : decode cX5_fires 112 = .ok (.isub, 1) := by decide +kernel
theorem dX5_fires_113 : decode cX5_fires 113 = .ok (.istore_n 2, 1) := by decide +kernel
theorem dX5_fires_114 : decode cX5_fires 114 = .ok (.aload_n 0, 1) := by decide +kernel
theorem dX5_fires_115 : decode cX5_fires 115 = .ok (.iload_n 3, 1) := by decide +kernel
theorem dX5_fires_116 : decode cX5_fires 116 = .ok (.invokevirtual 90, 3) := by decide +kernel
theorem dX5_fires_119 : decode cX5_fires 119 = .ok (.istore_n 3, 1) := by decide +kernel
theorem dX5_fires_120 : decode cX5_fires 120 = .ok (.goto (-112), 3) := by decide +kernel
theorem dX5_fires_123 : decode cX5_fires 123 = .ok (.return_, 1) := by decide +kernel
theorem dX5_power_0 : decode cX5_power 0 = .ok (.iconst 0, 1) := by decide +kernel
theorem dX5_power_1 : decode cX5_power 1 = .ok (.istore_n 1, 1) := by decide +kernel
theorem dX5_power_2 : decode cX5_power 2 = .ok (.iconst 0, 1) := by decide +kernel
theorem dX5_power_3 : decode cX5_power 3 = .ok (.istore_n 2, 1) := by decide +kernel
theorem dX5_power_4 : decode cX5_power 4 = .ok (.iload_n 2, 1) := by decide +kernel
theorem dX5_power_5 : decode cX5_power 5 = .ok (.aload_n 0, 1) := by decide +kernel
theorem dX5_power_6 : decode cX5_power 6 = .ok (.getfield 77, 3) := by decide +kernel
theorem dX5_power_9 : decode cX5_power 9 = .ok (.if_icmp .ge 25, 3) := by decide +kernel
theorem dX5_power_12 : decode cX5_power 12 = .ok (.iload_n 1, 1) := by decide +kernel
theorem dX5_power_13 : decode cX5_power 13 = .ok (.aload_n 0, 1) := by decide +kernel
theorem dX5_power_14 : decode cX5_power 14 = .ok (.getfield 28, 3) := by decide +kernel
theorem dX5_power_17 : decode cX5_power 17 = .ok (.iload_n 2, 1) := by decide +kernel
theorem dX5_power_18 : decode cX5_power 18 = .ok (.iaload, 1) := by decide +kernel
theorem dX5_power_19 : decode cX5_power 19 = .ok (.aload_n 0, 1) := by decide +kernel
theorem dX5_power_20 : decode cX5_power 20 = .ok (.getfield 31, 3) := by decide +kernel
theorem dX5_power_23 : decode cX5_power 23 = .ok (.iload_n 2, 1) := by decide +kernel
theorem dX5_power_24 : decode cX5_power 24 = .ok (.iaload, 1) := by decide +kernel
theorem dX5_power_25 : decode cX5_power 25 = .ok (.imul, 1) := by decide +kernel
theorem dX5_power_26 : decode cX5_power 26 = .ok (.iadd, 1) := by decide +kernel
theorem dX5_power_27 : decode cX5_power 27 = .ok (.istore_n 1, 1) := by decide +kernel
theorem dX5_power_28 : decode cX5_power 28 = .ok (.iinc 2 1, 3) := by decide +kernel
theorem dX5_power_31 : decode cX5_power 31 = .ok (.goto (-27), 3) := by decide +kernel
theorem dX5_power_34 : decode cX5_power 34 = .ok (.iload_n 1, 1) := by decide +kernel
theorem dX5_power_35 : decode cX5_power 35 = .ok (.ireturn, 1) := by decide +kernel
set_option maxRecDepth 20000 in
theorem ggX5_serves_X5_power : GoodIn wsX5_serves wsX5_power := goodIn_r _ [10, 11, 12, 13, 14, 15, 16, 17, 18, 19, 20, 21, 22, 23, 24, 25, 26, 27, 28, 29, 30, 31, 32, 33, 34, 35] (by decide +kernel) (by decide +kernel)
set_option maxRecDepth 20000 in
theorem gX5_serves_X5_power : GoodIn wsX5_serves (wsV RX5 100 RX5 yX5_power wsX5_power) := goodIn_app (goodIn_of _ (by decide +kernel)) ggX5_serves_X5_power
theorem dX5_serves_0 : decode cX5_serves 0 = .ok (.aload_n 0, 1) := by decide +kernel
theorem dX5_serves_1 : decode cX5_serves 1 = .ok (.iconst 0, 1) := by decide +kernel
theorem dX5_serves_2 : decode cX5_serves 2 = .ok (.putfield 97, 3) := by decide +kernel
theorem dX5_serves_5 : decode cX5_serves 5 = .ok (.iconst 1, 1) := by decide +kernel
theorem dX5_serves_6 : decode cX5_serves 6 = .ok (.istore_n 2, 1) := by decide +kernel
theorem dX5_serves_7 : decode cX5_serves 7 = .ok (.iload_n 2, 1) := by decide +kernel
theorem dX5_serves_8 : decode cX5_serves 8 = .ok (.bipush 12, 2) := by decide +kernel
theorem dX5_serves_10 : decode cX5_serves 10 = .ok (.if_icmp .ge 37, 3) := by decide +kernel
theorem dX5_serves_13 : decode cX5_serves 13 = .ok (.aload_n 0, 1) := by decide +kernel
theorem dX5_serves_14 : decode cX5_serves 14 = .ok (.dup, 1) := by decide +kernel
theorem dX5_serves_15 : decode cX5_serves 15 = .ok (.getfield 97, 3) := by decide +kernel
theorem dX5_serves_18 : decode cX5_serves 18 = .ok (.aload_n 0, 1) := by decide +kernel
theorem dX5_serves_19 : decode cX5_serves 19 = .ok (.getfield 44, 3) := by decide +kernel
theorem dX5_serves_22 : decode cX5_serves 22 = .ok (.iload_n 2, 1) := by decide +kernel
theorem dX5_serves_23 : decode cX5_serves 23 = .ok (.baload, 1) := by decide +kernel
theorem dX5_serves_24 : decode cX5_serves 24 = .ok (.ifCond .eq 12, 3) := by decide +kernel
theorem dX5_serves_27 : decode cX5_serves 27 = .ok (.aload_n 0, 1) := by decide +kernel
theorem dX5_serves_28 : decode cX5_serves 28 = .ok (.getfield 13, 3) := by decide +kernel
theorem dX5_serves_31 : decode cX5_serves 31 = .ok (.iload_n 2, 1) := by decide +kernel
theorem dX5_serves_32 : decode cX5_serves 32 = .ok (.iaload, 1) := by decide +kernel
theorem dX5_serves_33 : decode cX5_serves 33 = .ok (.goto 4, 3) := by decide +kernel
theorem dX5_serves_36 : decode cX5_serves 36 = .ok (.iconst 0, 1) := by decide +kernel
theorem dX5_serves_37 : decode cX5_serves 37 = .ok (.iadd, 1) := by decide +kernel
theorem dX5_serves_38 : decode cX5_serves 38 = .ok (.putfield 97, 3) := by decide +kernel
theorem dX5_serves_41 : decode cX5_serves 41 = .ok (.iinc 2 1, 3) := by decide +kernel
theorem dX5_serves_44 : decode cX5_serves 44 = .ok (.goto (-37), 3) := by decide +kernel
theorem dX5_serves_47 : decode cX5_serves 47 = .ok (.aload_n 0, 1) := by decide +kernel
theorem dX5_serves_48 : decode cX5_serves 48 = .ok (.invokevirtual 100, 3) := by decide +kernel
theorem dX5_serves_51 : decode cX5_serves 51 = .ok (.iload_n 1, 1) := by decide +kernel
theorem dX5_serves_52 : decode cX5_serves 52 = .ok (.if_icmp .ge 15, 3) := by decide +kernel
theorem dX5_serves_55 : decode cX5_serves 55 = .ok (.aload_n 0, 1) := by decide +kernel
theorem dX5_serves_56 : decode cX5_serves 56 = .ok (.invokevirtual 100, 3) := by decide +kernel
theorem dX5_serves_59 : decode cX5_serves 59 = .ok (.aload_n 0, 1) := by decide +kernel
theorem dX5_serves_60 : decode cX5_serves 60 = .ok (.getfield 97, 3) := by decide +kernel
theorem dX5_serves_63 : decode cX5_serves 63 = .ok (.isub, 1) := by decide +kernel
theorem dX5_serves_64 : decode cX5_serves 64 = .ok (.goto 4, 3) := by decide +kernel
theorem dX5_serves_67 : decode cX5_serves 67 = .ok (.iload_n 1, 1) := by decide +kernel
theorem dX5_serves_68 : decode cX5_serves 68 = .ok (.istore_n 2, 1) := by decide +kernel
theorem dX5_serves_69 : decode cX5_serves 69 = .ok (.iconst 1, 1) := by decide +kernel
theorem dX5_serves_70 : decode cX5_serves 70 = .ok (.istore_n 3, 1) := by decide +kernel
theorem dX5_serves_71 : decode cX5_serves 71 = .ok (.iload_n 3, 1) := by decide +kernel
theorem dX5_serves_72 : decode cX5_serves 72 = .ok (.bipush 12, 2) := by decide +kernel
theorem dX5_serves_74 : decode cX5_serves 74 = .ok (.if_icmp .ge 57, 3) := by decide +kernel
theorem dX5_serves_77 : decode cX5_serves 77 = .ok (.iload_n 2, 1) := by decide +kernel
theorem dX5_serves_78 : decode cX5_serves 78 = .ok (.ifCond .ge 7, 3) := by decide +kernel
theorem dX5_serves_81 : decode cX5_serves 81 = .ok (.iconst 0, 1) := by decide +kernel
theorem dX5_serves_82 : decode cX5_serves 82 = .ok (.goto 4, 3) := by decide +kernel
theorem dX5_serves_85 : decode cX5_serves 85 = .ok (.iload_n 2, 1) := by decide +kernel
theorem dX5_serves_86 : decode cX5_serves 86 = .ok (.istore 4, 2) := by decide +kernel
theorem dX5_serves_88 : decode cX5_serves 88 = .ok (.aload_n 0, 1) := by decide +kernel
theorem dX5_serves_89 : decode cX5_serves 89 = .ok (.getfield 50, 3) := by decide +kernel
theorem dX5_serves_92 : decode cX5_serves 92 = .ok (.iload_n 3, 1) := by decide +kernel
theorem dX5_serves_93 : decode cX5_serves 93 = .ok (.aload_n 0, 1) := by decide +kernel
theorem dX5_serves_94 : decode cX5_serves 94 = .ok (.getfield 41, 3) := by decide +kernel
theorem dX5_serves_97 : decode cX5_serves 97 = .ok (.iload_n 3, 1) := by decide +kernel
theorem dX5_serves_98 : decode cX5_serves 98 = .ok (.iaload, 1) := by decide +kernel
theorem dX5_serves_99 : decode cX5_serves 99 = .ok (.iload 4, 2) := by decide +kernel
theorem dX5_serves_101 : decode cX5_serves 101 = .ok (.if_icmp .ge 12, 3) := by decide +kernel
theorem dX5_serves_104 : decode cX5_serves 104 = .ok (.aload_n 0, 1) := by decide +kernel
theorem dX5_serves_105 : decode cX5_serves 105 = .ok (.getfield 41, 3) := by decide +kernel
theorem dX5_serves_108 : decode cX5_serves 108 = .ok (.iload_n 3, 1) := by decide +kernel
theorem dX5_serves_109 : decode cX5_serves 109 = .ok (.iaload, 1) := by decide +kernel
theorem dX5_serves_110 : decode cX5_serves 110 = .ok (.goto 5, 3) := by decide +kernel
theorem dX5_serves_113 : decode cX5_serves 113 = .ok (.iload 4, 2) := by decide +kernel
theorem dX5_serves_115 : decode cX5_serves 115 = .ok (.iastore, 1) := by decide +kernel
theorem dX5_serves_116 : decode cX5_serves 116 = .ok (.iload_n 2, 1) := by decide +kernel
theorem dX5_serves_117 : decode cX5_serves 117 = .ok (.aload_n 0, 1) := by decide +kernel
theorem dX5_serves_118 : decode cX5_serves 118 = .ok (.getfield 50, 3) := by decide +kernel
theorem dX5_serves_121 : decode cX5_serves 121 = .ok (.iload_n 3, 1) := by decide +kernel
theorem dX5_serves_122 : decode cX5_serves 122 = .ok (.iaload, 1) := by decide +kernel
theorem dX5_serves_123 : decode cX5_serves 123 = .ok (.isub, 1) := by decide +kernel
theorem dX5_serves_124 : decode cX5_serves 124 = .ok (.istore_n 2, 1) := by decide +kernel
theorem dX5_serves_125 : decode cX5_serves 125 = .ok (.iinc 3 1, 3) := by decide +kernel
theorem dX5_serves_128 : decode cX5_serves 128 = .ok (.goto (-57), 3) := by decide +kernel
theorem dX5_serves_131 : decode cX5_serves 131 = .ok (.return_, 1) := by decide +kernel
theorem dX5_measures_0 : decode cX5_measures 0 = .ok (.iconst 1, 1) := by decide +kernel
theorem dX5_measures_1 : decode cX5_measures 1 = .ok (.istore_n 1, 1) := by decide +kernel
theorem dX5_measures_2 : decode cX5_measures 2 = .ok (.iload_n 1, 1) := by decide +kernel
theorem dX5_measures_3 : decode cX5_measures 3 = .ok (.bipush 12, 2) := by decide +kernel
theorem dX5_measures_5 : decode cX5_measures 5 = .ok (.if_icmp .ge 21, 3) := by decide +kernel
theorem dX5_measures_8 : decode cX5_measures 8 = .ok (.aload_n 0, 1) := by decide +kernel
theorem dX5_measures_9 : decode cX5_measures 9 = .ok (.getfield 53, 3) := by decide +kernel
theorem dX5_measures_12 : decode cX5_measures 12 = .ok (.iload_n 1, 1) := by decide +kernel
theorem dX5_measures_13 : decode cX5_measures 13 = .ok (.aload_n 0, 1) := by decide +kernel
theorem dX5_measures_14 : decode cX5_measures 14 = .ok (.getfield 50, 3) := by decide +kernel
theorem dX5_measures_17 : decode cX5_measures 17 = .ok (.iload_n 1, 1) := by decide +kernel
theorem dX5_measures_18 : decode cX5_measures 18 = .ok (.iaload, 1) := by decide +kernel
theorem dX5_measures_19 : decode cX5_measures 19 = .ok (.iastore, 1) := by decide +kernel
theorem dX5_measures_20 : decode cX5_measures 20 = .ok (.iinc 1 1, 3) := by decide +kernel
theorem dX5_measures_23 : decode cX5_measures 23 = .ok (.goto (-21), 3) := by decide +kernel
theorem dX5_measures_26 : decode cX5_measures 26 = .ok (.bipush 11, 2) := by decide +kernel
theorem dX5_measures_28 : decode cX5_measures 28 = .ok (.istore_n 1, 1) := by decide +kernel
theorem dX5_measures_29 : decode cX5_measures 29 = .ok (.iload_n 1, 1) := by decide +kernel
theorem dX5_measures_30 : decode cX5_measures 30 = .ok (.ifCond .le 51, 3) := by decide +kernel
theorem dX5_measures_33 : decode cX5_measures 33 = .ok (.aload_n 0, 1) := by decide +kernel
theorem dX5_measures_34 : decode cX5_measures 34 = .ok (.getfield 7, 3) := by decide +kernel
theorem dX5_measures_37 : decode cX5_measures 37 = .ok (.iload_n 1, 1) := by decide +kernel
theorem dX5_measures_38 : decode cX5_measures 38 = .ok (.iaload, 1) := by decide +kernel
theorem dX5_measures_39 : decode cX5_measures 39 = .ok (.istore_n 2, 1) := by decide +kernel
theorem dX5_measures_40 : decode cX5_measures 40 = .ok (.iload_n 2, 1) := by decide +kernel
theorem dX5_measures_41 : decode cX5_measures 41 = .ok (.ifCond .le 34, 3) := by decide +kernel
theorem dX5_measures_44 : decode cX5_measures 44 = .ok (.aload_n 0, 1) := by decide +kernel
theorem dX5_measures_45 : decode cX5_measures 45 = .ok (.getfield 44, 3) := by decide +kernel
theorem dX5_measures_48 : decode cX5_measures 48 = .ok (.iload_n 1, 1) := by decide +kernel
theorem dX5_measures_49 : decode cX5_measures 49 = .ok (.baload, 1) := by decide +kernel
theorem dX5_measures_50 : decode cX5_measures 50 = .ok (.ifCond .eq 25, 3) := by decide +kernel
theorem dX5_measures_53 : decode cX5_measures 53 = .ok (.aload_n 0, 1) := by decide +kernel
theorem dX5_measures_54 : decode cX5_measures 54 = .ok (.getfield 53, 3) := by decide +kernel
theorem dX5_measures_57 : decode cX5_measures 57 = .ok (.iload_n 2, 1) := by decide +kernel
theorem dX5_measures_58 : decode cX5_measures 58 = .ok (.dup2, 1) := by decide +kernel
theorem dX5_measures_59 : decode cX5_measures 59 = .ok (.iaload, 1) := by decide +kernel
theorem dX5_measures_60 : decode cX5_measures 60 = .ok (.aload_n 0, 1) := by decide +kernel
theorem dX5_measures_61 : decode cX5_measures 61 = .ok (.getfield 53, 3) := by decide +kernel
theorem dX5_measures_64 : decode cX5_measures 64 = .ok (.iload_n 1, 1) := by decide +kernel
theorem dX5_measures_65 : decode cX5_measures 65 = .ok (.iaload, 1) := by decide +kernel
theorem dX5_measures_66 : decode cX5_measures 66 = .ok (.aload_n 0, 1) := by decide +kernel
theorem dX5_measures_67 : decode cX5_measures 67 = .ok (.getfield 13, 3) := by decide +kernel
theorem dX5_measures_70 : decode cX5_measures 70 = .ok (.iload_n 1, 1) := by decide +kernel
theorem dX5_measures_71 : decode cX5_measures 71 = .ok (.iaload, 1) := by decide +kernel
theorem dX5_measures_72 : decode cX5_measures 72 = .ok (.iadd, 1) := by decide +kernel
theorem dX5_measures_73 : decode cX5_measures 73 = .ok (.iadd, 1) := by decide +kernel
theorem dX5_measures_74 : decode cX5_measures 74 = .ok (.iastore, 1) := by decide +kernel
theorem dX5_measures_75 : decode cX5_measures 75 = .ok (.iinc 1 (-1), 3) := by decide +kernel
theorem dX5_measures_78 : decode cX5_measures 78 = .ok (.goto (-49), 3) := by decide +kernel
theorem dX5_measures_81 : decode cX5_measures 81 = .ok (.iconst 1, 1) := by decide +kernel
theorem dX5_measures_82 : decode cX5_measures 82 = .ok (.istore_n 1, 1) := by decide +kernel
theorem dX5_measures_83 : decode cX5_measures 83 = .ok (.iload_n 1, 1) := by decide +kernel
theorem dX5_measures_84 : decode cX5_measures 84 = .ok (.bipush 12, 2) := by decide +kernel
theorem dX5_measures_86 : decode cX5_measures 86 = .ok (.if_icmp .ge 110, 3) := by decide +kernel
theorem dX5_measures_89 : decode cX5_measures 89 = .ok (.aload_n 0, 1) := by decide +kernel
theorem dX5_measures_90 : decode cX5_measures 90 = .ok (.getfield 44, 3) := by decide +kernel
theorem dX5_measures_93 : decode cX5_measures 93 = .ok (.iload_n 1, 1) := by decide +kernel
theorem dX5_measures_94 : decode cX5_measures 94 = .ok (.baload, 1) := by decide +kernel
theorem dX5_measures_95 : decode cX5_measures 95 = .ok (.ifCond .eq 12, 3) := by decide +kernel
theorem dX5_measures_98 : decode cX5_measures 98 = .ok (.aload_n 0, 1) := by decide +kernel
theorem dX5_measures_99 : decode cX5_measures 99 = .ok (.getfield 19, 3) := by decide +kernel
theorem dX5_measures_102 : decode cX5_measures 102 = .ok (.iload_n 1, 1) := by decide +kernel
theorem dX5_measures_103 : decode cX5_measures 103 = .ok (.iaload, 1) := by decide +kernel
theorem dX5_measures_104 : decode cX5_measures 104 = .ok (.goto 4, 3) := by decide +kernel
theorem dX5_measures_107 : decode cX5_measures 107 = .ok (.iconst 0, 1) := by decide +kernel
theorem dX5_measures_108 : decode cX5_measures 108 = .ok (.istore_n 2, 1) := by decide +kernel
theorem dX5_measures_109 : decode cX5_measures 109 = .ok (.iconst 0, 1) := by decide +kernel
theorem dX5_measures_110 : decode cX5_measures 110 = .ok (.istore_n 3, 1) := by decide +kernel
theorem dX5_measures_111 : decode cX5_measures 111 = .ok (.iload_n 1, 1) := by decide +kernel
theorem dX5_measures_112 : decode cX5_measures 112 = .ok (.iconst 1, 1) := by decide +kernel
theorem dX5_measures_113 : decode cX5_measures 113 = .ok (.iadd, 1) := by decide +kernel
theorem dX5_measures_114 : decode cX5_measures 114 = .ok (.istore 4, 2) := by decide +kernel
theorem dX5_measures_116 : decode cX5_measures 116 = .ok (.iload 4, 2) := by decide +kernel
theorem dX5_measures_118 : decode cX5_measures 118 = .ok (.bipush 12, 2) := by decide +kernel
theorem dX5_measures_120 : decode cX5_measures 120 = .ok (.if_icmp .ge 44, 3) := by decide +kernel
theorem dX5_measures_123 : decode cX5_measures 123 = .ok (.iload_n 3, 1) := by decide +kernel
theorem dX5_measures_124 : decode cX5_measures 124 = .ok (.aload_n 0, 1) := by decide +kernel
theorem dX5_measures_125 : decode cX5_measures 125 = .ok (.getfield 7, 3) := by decide +kernel
theorem dX5_measures_128 : decode cX5_measures 128 = .ok (.iload 4, 2) := by decide +kernel
theorem dX5_measures_130 : decode cX5_measures 130 = .ok (.iaload, 1) := by decide +kernel
theorem dX5_measures_131 : decode cX5_measures 131 = .ok (.iload_n 1, 1) := by decide +kernel
theorem dX5_measures_132 : decode cX5_measures 132 = .ok (.if_icmp .ne 23, 3) := by decide +kernel
theorem dX5_measures_135 : decode cX5_measures 135 = .ok (.aload_n 0, 1) := by decide +kernel
theorem dX5_measures_136 : decode cX5_measures 136 = .ok (.getfield 44, 3) := by decide +kernel
theorem dX5_measures_139 : decode cX5_measures 139 = .ok (.iload 4, 2) := by decide +kernel
theorem dX5_measures_141 : decode cX5_measures 141 = .ok (.baload, 1) := by decide +kernel
theorem dX5_measures_142 : decode cX5_measures 142 = .ok (.ifCond .eq 13, 3) := by decide +kernel
theorem dX5_measures_145 : decode cX5_measures 145 = .ok (.aload_n 0, 1) := by decide +kernel
theorem dX5_measures_146 : decode cX5_measures 146 = .ok (.getfield 19, 3) := by decide +kernel
theorem dX5_measures_149 : decode cX5_measures 149 = .ok (.iload 4, 2) := by decide +kernel
theorem dX5_measures_151 : decode cX5_measures 151 = .ok (.iaload, 1) := by decide +kernel
theorem dX5_measures_152 : decode cX5_measures 152 = .ok (.goto 4, 3) := by decide +kernel
theorem dX5_measures_155 : decode cX5_measures 155 = .ok (.iconst 0, 1) := by decide +kernel
theorem dX5_measures_156 : decode cX5_measures 156 = .ok (.iadd, 1) := by decide +kernel
theorem dX5_measures_157 : decode cX5_measures 157 = .ok (.istore_n 3, 1) := by decide +kernel
theorem dX5_measures_158 : decode cX5_measures 158 = .ok (.iinc 4 1, 3) := by decide +kernel
theorem dX5_measures_161 : decode cX5_measures 161 = .ok (.goto (-45), 3) := by decide +kernel
theorem dX5_measures_164 : decode cX5_measures 164 = .ok (.aload_n 0, 1) := by decide +kernel
theorem dX5_measures_165 : decode cX5_measures 165 = .ok (.getfield 56, 3) := by decide +kernel
theorem dX5_measures_168 : decode cX5_measures 168 = .ok (.iload_n 1, 1) := by decide +kernel
theorem dX5_measures_169 : decode cX5_measures 169 = .ok (.iload_n 2, 1) := by decide +kernel
theorem dX5_measures_170 : decode cX5_measures 170 = .ok (.iload_n 3, 1) := by decide +kernel
theorem dX5_measures_171 : decode cX5_measures 171 = .ok (.if_icmp .eq 7, 3) := by decide +kernel
theorem dX5_measures_174 : decode cX5_measures 174 = .ok (.iconst 1, 1) := by decide +kernel
theorem dX5_measures_175 : decode cX5_measures 175 = .ok (.goto 4, 3) := by decide +kernel
theorem dX5_measures_178 : decode cX5_measures 178 = .ok (.iconst 0, 1) := by decide +kernel
theorem dX5_measures_179 : decode cX5_measures 179 = .ok (.bastore, 1) := by decide +kernel
theorem dX5_measures_180 : decode cX5_measures 180 = .ok (.aload_n 0, 1) := by decide +kernel
theorem dX5_measures_181 : decode cX5_measures 181 = .ok (.getfield 53, 3) := by decide +kernel
theorem dX5_measures_184 : decode cX5_measures 184 = .ok (.iload_n 1, 1) := by decide +kernel
theorem dX5_measures_185 : decode cX5_measures 185 = .ok (.dup2, 1) := by decide +kernel
theorem dX5_measures_186 : decode cX5_measures 186 = .ok (.iaload, 1) := by decide +kernel
theorem dX5_measures_187 : decode cX5_measures 187 = .ok (.iload_n 2, 1) := by decide +kernel
theorem dX5_measures_188 : decode cX5_measures 188 = .ok (.iadd, 1) := by decide +kernel
theorem dX5_measures_189 : decode cX5_measures 189 = .ok (.iastore, 1) := by decide +kernel
theorem dX5_measures_190 : decode cX5_measures 190 = .ok (.iinc 1 1, 3) := by decide +kernel
theorem dX5_measures_193 : decode cX5_measures 193 = .ok (.goto (-110), 3) := by decide +kernel
theorem dX5_measures_196 : decode cX5_measures 196 = .ok (.return_, 1) := by decide +kernel
set_option maxRecDepth 20000 in
theorem ggX5_bills_X5_power : GoodIn wsX5_bills wsX5_power := goodIn_r _ [9, 10, 11, 12, 16, 17, 18, 19, 20, 21, 22, 23, 24, 25, 26, 27, 28, 29, 30, 31, 32, 33, 34, 35, 36, 37] (by decide +kernel) (by decide +kernel)
set_option maxRecDepth 20000 in
theorem gX5_bills_X5_power : GoodIn wsX5_bills (wsV RX5 100 RX5 yX5_power wsX5_power) := goodIn_app (goodIn_of _ (by decide +kernel)) ggX5_bills_X5_power
set_option maxRecDepth 20000 in
theorem ggX5_bills_X5_need : GoodIn wsX5_bills wsX5_need := goodIn_r _ [15] (by decide +kernel) (by decide +kernel)
set_option maxRecDepth 20000 in
theorem gX5_bills_X5_need : GoodIn wsX5_bills (va_wsS RX5 86 yX5_need wsX5_need) := goodIn_app (goodIn_of _ (by decide +kernel)) ggX5_bills_X5_need
theorem dX5_bills_0 : decode cX5_bills 0 = .ok (.iconst 2, 1) := by decide +kernel
theorem dX5_bills_1 : decode cX5_bills 1 = .ok (.iload_n 1, 1) := by decide +kernel
theorem dX5_bills_2 : decode cX5_bills 2 = .ok (.imul, 1) := by decide +kernel
theorem dX5_bills_3 : decode cX5_bills 3 = .ok (.aload_n 0, 1) := by decide +kernel
theorem dX5_bills_4 : decode cX5_bills 4 = .ok (.invokevirtual 100, 3) := by decide +kernel
theorem dX5_bills_7 : decode cX5_bills 7 = .ok (.if_icmp .le 7, 3) := by decide +kernel
theorem dX5_bills_10 : decode cX5_bills 10 = .ok (.iconst 3, 1) := by decide +kernel
theorem dX5_bills_11 : decode cX5_bills 11 = .ok (.goto 4, 3) := by decide +kernel
theorem dX5_bills_14 : decode cX5_bills 14 = .ok (.iconst 2, 1) := by decide +kernel
theorem dX5_bills_15 : decode cX5_bills 15 = .ok (.istore_n 3, 1) := by decide +kernel
theorem dX5_bills_16 : decode cX5_bills 16 = .ok (.iconst 1, 1) := by decide +kernel
theorem dX5_bills_17 : decode cX5_bills 17 = .ok (.istore 4, 2) := by decide +kernel
theorem dX5_bills_19 : decode cX5_bills 19 = .ok (.iload 4, 2) := by decide +kernel
theorem dX5_bills_21 : decode cX5_bills 21 = .ok (.bipush 12, 2) := by decide +kernel
theorem dX5_bills_23 : decode cX5_bills 23 = .ok (.if_icmp .ge 70, 3) := by decide +kernel
theorem dX5_bills_26 : decode cX5_bills 26 = .ok (.aload_n 0, 1) := by decide +kernel
theorem dX5_bills_27 : decode cX5_bills 27 = .ok (.getfield 37, 3) := by decide +kernel
theorem dX5_bills_30 : decode cX5_bills 30 = .ok (.iload 4, 2) := by decide +kernel
theorem dX5_bills_32 : decode cX5_bills 32 = .ok (.baload, 1) := by decide +kernel
theorem dX5_bills_33 : decode cX5_bills 33 = .ok (.ifCond .ne 21, 3) := by decide +kernel
theorem dX5_bills_36 : decode cX5_bills 36 = .ok (.aload_n 0, 1) := by decide +kernel
theorem dX5_bills_37 : decode cX5_bills 37 = .ok (.getfield 16, 3) := by decide +kernel
theorem dX5_bills_40 : decode cX5_bills 40 = .ok (.iload 4, 2) := by decide +kernel
theorem dX5_bills_42 : decode cX5_bills 42 = .ok (.iaload, 1) := by decide +kernel
theorem dX5_bills_43 : decode cX5_bills 43 = .ok (.iload_n 2, 1) := by decide +kernel
theorem dX5_bills_44 : decode cX5_bills 44 = .ok (.invokestatic 86, 3) := by decide +kernel
theorem dX5_bills_47 : decode cX5_bills 47 = .ok (.ifCond .le 7, 3) := by decide +kernel
theorem dX5_bills_50 : decode cX5_bills 50 = .ok (.iconst 1, 1) := by decide +kernel
theorem dX5_bills_51 : decode cX5_bills 51 = .ok (.goto 4, 3) := by decide +kernel
theorem dX5_bills_54 : decode cX5_bills 54 = .ok (.iconst 0, 1) := by decide +kernel
theorem dX5_bills_55 : decode cX5_bills 55 = .ok (.istore 5, 2) := by decide +kernel
theorem dX5_bills_57 : decode cX5_bills 57 = .ok (.aload_n 0, 1) := by decide +kernel
theorem dX5_bills_58 : decode cX5_bills 58 = .ok (.getfield 25, 3) := by decide +kernel
theorem dX5_bills_61 : decode cX5_bills 61 = .ok (.iload 4, 2) := by decide +kernel
theorem dX5_bills_63 : decode cX5_bills 63 = .ok (.dup2, 1) := by decide +kernel
theorem dX5_bills_64 : decode cX5_bills 64 = .ok (.iaload, 1) := by decide +kernel
theorem dX5_bills_65 : decode cX5_bills 65 = .ok (.iload_n 3, 1) := by decide +kernel
theorem dX5_bills_66 : decode cX5_bills 66 = .ok (.aload_n 0, 1) := by decide +kernel
theorem dX5_bills_67 : decode cX5_bills 67 = .ok (.getfield 50, 3) := by decide +kernel
theorem dX5_bills_70 : decode cX5_bills 70 = .ok (.iload 4, 2) := by decide +kernel
theorem dX5_bills_72 : decode cX5_bills 72 = .ok (.iaload, 1) := by decide +kernel
theorem dX5_bills_73 : decode cX5_bills 73 = .ok (.imul, 1) := by decide +kernel
theorem dX5_bills_74 : decode cX5_bills 74 = .ok (.iload 5, 2) := by decide +kernel
theorem dX5_bills_76 : decode cX5_bills 76 = .ok (.ifCond .eq 7, 3) := by decide +kernel
theorem dX5_bills_79 : decode cX5_bills 79 = .ok (.iconst 3, 1) := by decide +kernel
theorem dX5_bills_80 : decode cX5_bills 80 = .ok (.goto 4, 3) := by decide +kernel
theorem dX5_bills_83 : decode cX5_bills 83 = .ok (.iconst 0, 1) := by decide +kernel
theorem dX5_bills_84 : decode cX5_bills 84 = .ok (.isub, 1) := by decide +kernel
theorem dX5_bills_85 : decode cX5_bills 85 = .ok (.iadd, 1) := by decide +kernel
theorem dX5_bills_86 : decode cX5_bills 86 = .ok (.iastore, 1) := by decide +kernel
theorem dX5_bills_87 : decode cX5_bills 87 = .ok (.iinc 4 1, 3) := by decide +kernel
theorem dX5_bills_90 : decode cX5_bills 90 = .ok (.goto (-71), 3) := by decide +kernel
theorem dX5_bills_93 : decode cX5_bills 93 = .ok (.return_, 1) := by decide +kernel
set_option maxRecDepth 20000 in
theorem ggX5_isTemperature_X5_isIn : GoodIn wsX5_isTemperature wsX5_isIn := goodIn_r _ [4] (by decide +kernel) (by decide +kernel)
set_option maxRecDepth 20000 in
theorem gX5_isTemperature_X5_isIn : GoodIn wsX5_isTemperature (va_wsS RX5 63 yX5_isIn wsX5_isIn) := goodIn_app (goodIn_of _ (by decide +kernel)) ggX5_isTemperature_X5_isIn
theorem dX5_isTemperature_0 : decode cX5_isTemperature 0 = .ok (.iload_n 0, 1) := by decide +kernel
theorem dX5_isTemperature_1 : decode cX5_isTemperature 1 = .ok (.bipush (-20), 2) := by decide +kernel
theorem dX5_isTemperature_3 : decode cX5_isTemperature 3 = .ok (.bipush 30, 2) := by decide +kernel
theorem dX5_isTemperature_5 : decode cX5_isTemperature 5 = .ok (.invokestatic 63, 3) := by decide +kernel
theorem dX5_isTemperature_8 : decode cX5_isTemperature 8 = .ok (.ireturn, 1) := by decide +kernel
set_option maxRecDepth 20000 in
theorem ggX5_hour_X5_isTemperature : GoodIn wsX5_hour wsX5_isTemperature := goodIn_r _ [7, 8, 9, 6, 10] (by decide +kernel) (by decide +kernel)
set_option maxRecDepth 20000 in
theorem gX5_hour_X5_isTemperature : GoodIn wsX5_hour (va_wsS RX5 104 yX5_isTemperature wsX5_isTemperature) := goodIn_app (goodIn_of _ (by decide +kernel)) ggX5_hour_X5_isTemperature
set_option maxRecDepth 20000 in
theorem ggX5_hour_X5_holds : GoodIn wsX5_hour wsX5_holds := goodIn_r _ [14, 15, 69, 70, 71, 72, 73, 74, 75, 76, 77, 78, 79, 80, 81, 82, 83, 84, 85, 86, 87, 88, 89, 90] (by decide +kernel) (by decide +kernel)
set_option maxRecDepth 20000 in
theorem gX5_hour_X5_holds : GoodIn wsX5_hour (wsV RX5 74 RX5 yX5_holds wsX5_holds) := goodIn_app (goodIn_of _ (by decide +kernel)) ggX5_hour_X5_holds
set_option maxRecDepth 20000 in
theorem ggX5_hour_X5_lays : GoodIn wsX5_hour wsX5_lays := goodIn_r _ [19, 20, 21, 22, 23, 24, 25, 26, 27, 28, 6, 29, 3, 30, 31, 32, 69, 70, 71, 72, 73, 74, 75, 76, 77, 78, 79, 80, 81, 82, 83, 84, 85, 86, 87, 88, 89, 90] (by decide +kernel) (by decide +kernel)
set_option maxRecDepth 20000 in
theorem gX5_hour_X5_lays : GoodIn wsX5_hour (wsV RX5 107 RX5 yX5_lays wsX5_lays) := goodIn_app (goodIn_of _ (by decide +kernel)) ggX5_hour_X5_lays
set_option maxRecDepth 20000 in
theorem ggX5_hour_X5_fires : GoodIn wsX5_hour wsX5_fires := goodIn_r _ [36, 37, 38, 39, 40, 41, 42, 43, 44, 6, 45, 46, 69, 70, 71, 72, 73, 74, 75, 76, 77, 78, 79, 80, 81, 82, 83, 84, 85, 86, 87, 88, 89, 90] (by decide +kernel) (by decide +kernel)
set_option maxRecDepth 20000 in
theorem gX5_hour_X5_fires : GoodIn wsX5_hour (wsV RX5 110 RX5 yX5_fires wsX5_fires) := goodIn_app (goodIn_of _ (by decide +kernel)) ggX5_hour_X5_fires
set_option maxRecDepth 20000 in
theorem ggX5_hour_X5_serves : GoodIn wsX5_hour wsX5_serves := goodIn_r _ [50, 51, 23, 25, 52, 20, 53, 54, 55, 6, 56, 46, 38, 37, 69, 70, 71, 72, 73, 74, 75, 76, 77, 78, 79, 80, 81, 82, 83, 84, 85, 86, 87, 88, 89, 90] (by decide +kernel) (by decide +kernel)
set_option maxRecDepth 20000 in
theorem gX5_hour_X5_serves : GoodIn wsX5_hour (wsV RX5 114 RX5 yX5_serves wsX5_serves) := goodIn_app (goodIn_of _ (by decide +kernel)) ggX5_hour_X5_serves
set_option maxRecDepth 20000 in
theorem ggX5_hour_X5_measures : GoodIn wsX5_hour wsX5_measures := goodIn_r _ [60, 61, 52, 24, 23, 25, 62, 63, 69, 70, 71, 72, 73, 74, 75, 76, 77, 78, 79, 80, 81, 82, 83, 84, 85, 86, 87, 88, 89, 90] (by decide +kernel) (by decide +kernel)
set_option maxRecDepth 20000 in
theorem gX5_hour_X5_measures : GoodIn wsX5_hour (wsV RX5 117 RX5 yX5_measures wsX5_measures) := goodIn_app (goodIn_of _ (by decide +kernel)) ggX5_hour_X5_measures
set_option maxRecDepth 20000 in
theorem ggX5_hour_X5_bills : GoodIn wsX5_hour wsX5_bills := goodIn_r _ [67, 21, 22, 68, 52, 53, 54, 55, 6, 56, 46, 38, 37, 30, 31, 32, 69, 70, 71, 72, 73, 74, 75, 76, 77, 78, 79, 80, 81, 82, 83, 84, 85, 86, 87, 88, 89, 90] (by decide +kernel) (by decide +kernel)
set_option maxRecDepth 20000 in
theorem gX5_hour_X5_bills : GoodIn wsX5_hour (wsV RX5 120 RX5 yX5_bills wsX5_bills) := goodIn_app (goodIn_of _ (by decide +kernel)) ggX5_hour_X5_bills
theorem dX5_hour_0 : decode cX5_hour 0 = .ok (.aload_n 0, 1) := by decide +kernel
theorem dX5_hour_1 : decode cX5_hour 1 = .ok (.iload_n 1, 1) := by decide +kernel
theorem dX5_hour_2 : decode cX5_hour 2 = .ok (.invokestatic 104, 3) := by decide +kernel
theorem dX5_hour_5 : decode cX5_hour 5 = .ok (.ifCond .eq 7, 3) := by decide +kernel
theorem dX5_hour_8 : decode cX5_hour 8 = .ok (.iconst 0, 1) := by decide +kernel
theorem dX5_hour_9 : decode cX5_hour 9 = .ok (.goto 4, 3) := by decide +kernel
theorem dX5_hour_12 : decode cX5_hour 12 = .ok (.iconst 1, 1) := by decide +kernel
theorem dX5_hour_13 : decode cX5_hour 13 = .ok (.invokevirtual 74, 3) := by decide +kernel
theorem dX5_hour_16 : decode cX5_hour 16 = .ok (.ifCond .ne 5, 3) := by decide +kernel
theorem dX5_hour_19 : decode cX5_hour 19 = .ok (.iconst 0, 1) := by decide +kernel
theorem dX5_hour_20 : decode cX5_hour 20 = .ok (.ireturn, 1) := by decide +kernel
theorem dX5_hour_21 : decode cX5_hour 21 = .ok (.aload_n 0, 1) := by decide +kernel
theorem dX5_hour_22 : decode cX5_hour 22 = .ok (.iload_n 1, 1) := by decide +kernel
theorem dX5_hour_23 : decode cX5_hour 23 = .ok (.invokevirtual 107, 3) := by decide +kernel
theorem dX5_hour_26 : decode cX5_hour 26 = .ok (.istore_n 2, 1) := by decide +kernel
theorem dX5_hour_27 : decode cX5_hour 27 = .ok (.aload_n 0, 1) := by decide +kernel
theorem dX5_hour_28 : decode cX5_hour 28 = .ok (.iload_n 2, 1) := by decide +kernel
theorem dX5_hour_29 : decode cX5_hour 29 = .ok (.invokevirtual 110, 3) := by decide +kernel
theorem dX5_hour_32 : decode cX5_hour 32 = .ok (.aload_n 0, 1) := by decide +kernel
theorem dX5_hour_33 : decode cX5_hour 33 = .ok (.iload_n 2, 1) := by decide +kernel
theorem dX5_hour_34 : decode cX5_hour 34 = .ok (.invokevirtual 114, 3) := by decide +kernel
theorem dX5_hour_37 : decode cX5_hour 37 = .ok (.aload_n 0, 1) := by decide +kernel
theorem dX5_hour_38 : decode cX5_hour 38 = .ok (.invokevirtual 117, 3) := by decide +kernel
theorem dX5_hour_41 : decode cX5_hour 41 = .ok (.aload_n 0, 1) := by decide +kernel
theorem dX5_hour_42 : decode cX5_hour 42 = .ok (.iload_n 2, 1) := by decide +kernel
theorem dX5_hour_43 : decode cX5_hour 43 = .ok (.iload_n 1, 1) := by decide +kernel
theorem dX5_hour_44 : decode cX5_hour 44 = .ok (.invokevirtual 120, 3) := by decide +kernel
theorem dX5_hour_47 : decode cX5_hour 47 = .ok (.aload_n 0, 1) := by decide +kernel
theorem dX5_hour_48 : decode cX5_hour 48 = .ok (.dup, 1) := by decide +kernel
theorem dX5_hour_49 : decode cX5_hour 49 = .ok (.getfield 71, 3) := by decide +kernel
theorem dX5_hour_52 : decode cX5_hour 52 = .ok (.iconst 1, 1) := by decide +kernel
theorem dX5_hour_53 : decode cX5_hour 53 = .ok (.iadd, 1) := by decide +kernel
theorem dX5_hour_54 : decode cX5_hour 54 = .ok (.putfield 71, 3) := by decide +kernel
theorem dX5_hour_57 : decode cX5_hour 57 = .ok (.aload_n 0, 1) := by decide +kernel
theorem dX5_hour_58 : decode cX5_hour 58 = .ok (.iload_n 1, 1) := by decide +kernel
theorem dX5_hour_59 : decode cX5_hour 59 = .ok (.putfield 80, 3) := by decide +kernel
theorem dX5_hour_62 : decode cX5_hour 62 = .ok (.iconst 1, 1) := by decide +kernel
theorem dX5_hour_63 : decode cX5_hour 63 = .ok (.istore_n 3, 1) := by decide +kernel
theorem dX5_hour_64 : decode cX5_hour 64 = .ok (.iload_n 3, 1) := by decide +kernel
theorem dX5_hour_65 : decode cX5_hour 65 = .ok (.bipush 12, 2) := by decide +kernel
theorem dX5_hour_67 : decode cX5_hour 67 = .ok (.if_icmp .ge 32, 3) := by decide +kernel
theorem dX5_hour_70 : decode cX5_hour 70 = .ok (.aload_n 0, 1) := by decide +kernel
theorem dX5_hour_71 : decode cX5_hour 71 = .ok (.getfield 22, 3) := by decide +kernel
theorem dX5_hour_74 : decode cX5_hour 74 = .ok (.iload_n 3, 1) := by decide +kernel
theorem dX5_hour_75 : decode cX5_hour 75 = .ok (.dup2, 1) := by decide +kernel
theorem dX5_hour_76 : decode cX5_hour 76 = .ok (.iaload, 1) := by decide +kernel
theorem dX5_hour_77 : decode cX5_hour 77 = .ok (.aload_n 0, 1) := by decide +kernel
theorem dX5_hour_78 : decode cX5_hour 78 = .ok (.getfield 22, 3) := by decide +kernel
theorem dX5_hour_81 : decode cX5_hour 81 = .ok (.iload_n 3, 1) := by decide +kernel
theorem dX5_hour_82 : decode cX5_hour 82 = .ok (.iaload, 1) := by decide +kernel
theorem dX5_hour_83 : decode cX5_hour 83 = .ok (.ifCond .le 7, 3) := by decide +kernel
theorem dX5_hour_86 : decode cX5_hour 86 = .ok (.iconst 1, 1) := by decide +kernel
theorem dX5_hour_87 : decode cX5_hour 87 = .ok (.goto 4, 3) := by decide +kernel
theorem dX5_hour_90 : decode cX5_hour 90 = .ok (.iconst 0, 1) := by decide +kernel
theorem dX5_hour_91 : decode cX5_hour 91 = .ok (.isub, 1) := by decide +kernel
theorem dX5_hour_92 : decode cX5_hour 92 = .ok (.iastore, 1) := by decide +kernel
theorem dX5_hour_93 : decode cX5_hour 93 = .ok (.iinc 3 1, 3) := by decide +kernel
theorem dX5_hour_96 : decode cX5_hour 96 = .ok (.goto (-32), 3) := by decide +kernel
theorem dX5_hour_99 : decode cX5_hour 99 = .ok (.iload_n 2, 1) := by decide +kernel
theorem dX5_hour_100 : decode cX5_hour 100 = .ok (.ireturn, 1) := by decide +kernel
theorem dX5_hours_0 : decode cX5_hours 0 = .ok (.aload_n 0, 1) := by decide +kernel
theorem dX5_hours_1 : decode cX5_hours 1 = .ok (.iconst 0, 1) := by decide +kernel
theorem dX5_hours_2 : decode cX5_hours 2 = .ok (.putfield 59, 3) := by decide +kernel
theorem dX5_hours_5 : decode cX5_hours 5 = .ok (.aload_n 0, 1) := by decide +kernel
theorem dX5_hours_6 : decode cX5_hours 6 = .ok (.getfield 71, 3) := by decide +kernel
theorem dX5_hours_9 : decode cX5_hours 9 = .ok (.ireturn, 1) := by decide +kernel
set_option maxRecDepth 20000 in
theorem ggX5_load_X5_isTemperature : GoodIn wsX5_load wsX5_isTemperature := goodIn_r _ [4, 5, 6, 3, 7] (by decide +kernel) (by decide +kernel)
set_option maxRecDepth 20000 in
theorem gX5_load_X5_isTemperature : GoodIn wsX5_load (va_wsS RX5 104 yX5_isTemperature wsX5_isTemperature) := goodIn_app (goodIn_of _ (by decide +kernel)) ggX5_load_X5_isTemperature
set_option maxRecDepth 20000 in
theorem ggX5_load_X5_holds : GoodIn wsX5_load wsX5_holds := goodIn_r _ [11, 12, 31, 32, 33, 34, 35, 36, 37, 38, 39, 40, 41, 42, 43, 44, 45, 46, 47, 48, 49, 50, 51, 52] (by decide +kernel) (by decide +kernel)
set_option maxRecDepth 20000 in
theorem gX5_load_X5_holds : GoodIn wsX5_load (wsV RX5 74 RX5 yX5_holds wsX5_holds) := goodIn_app (goodIn_of _ (by decide +kernel)) ggX5_load_X5_holds
set_option maxRecDepth 20000 in
theorem ggX5_load_X5_lays : GoodIn wsX5_load wsX5_lays := goodIn_r _ [16, 17, 18, 19, 20, 21, 22, 23, 24, 25, 3, 26, 27, 28, 29, 30, 31, 32, 33, 34, 35, 36, 37, 38, 39, 40, 41, 42, 43, 44, 45, 46, 47, 48, 49, 50, 51, 52] (by decide +kernel) (by decide +kernel)
set_option maxRecDepth 20000 in
theorem gX5_load_X5_lays : GoodIn wsX5_load (wsV RX5 107 RX5 yX5_lays wsX5_lays) := goodIn_app (goodIn_of _ (by decide +kernel)) ggX5_load_X5_lays
theorem dX5_load_0 : decode cX5_load 0 = .ok (.aload_n 0, 1) := by decide +kernel
theorem dX5_load_1 : decode cX5_load 1 = .ok (.iload_n 1, 1) := by decide +kernel
theorem dX5_load_2 : decode cX5_load 2 = .ok (.invokestatic 104, 3) := by decide +kernel
theorem dX5_load_5 : decode cX5_load 5 = .ok (.ifCond .eq 7, 3) := by decide +kernel
theorem dX5_load_8 : decode cX5_load 8 = .ok (.iconst 0, 1) := by decide +kernel
theorem dX5_load_9 : decode cX5_load 9 = .ok (.goto 4, 3) := by decide +kernel
theorem dX5_load_12 : decode cX5_load 12 = .ok (.iconst 1, 1) := by decide +kernel
theorem dX5_load_13 : decode cX5_load 13 = .ok (.invokevirtual 74, 3) := by decide +kernel
theorem dX5_load_16 : decode cX5_load 16 = .ok (.ifCond .eq 11, 3) := by decide +kernel
theorem dX5_load_19 : decode cX5_load 19 = .ok (.aload_n 0, 1) := by decide +kernel
theorem dX5_load_20 : decode cX5_load 20 = .ok (.iload_n 1, 1) := by decide +kernel
theorem dX5_load_21 : decode cX5_load 21 = .ok (.invokevirtual 107, 3) := by decide +kernel
theorem dX5_load_24 : decode cX5_load 24 = .ok (.goto 4, 3) := by decide +kernel
theorem dX5_load_27 : decode cX5_load 27 = .ok (.iconst 0, 1) := by decide +kernel
theorem dX5_load_28 : decode cX5_load 28 = .ok (.ireturn, 1) := by decide +kernel
set_option maxRecDepth 20000 in
theorem ggX5_fired_X5_isIn : GoodIn wsX5_fired wsX5_isIn := goodIn_r _ [6] (by decide +kernel) (by decide +kernel)
set_option maxRecDepth 20000 in
theorem gX5_fired_X5_isIn : GoodIn wsX5_fired (va_wsS RX5 63 yX5_isIn wsX5_isIn) := goodIn_app (goodIn_of _ (by decide +kernel)) ggX5_fired_X5_isIn
set_option maxRecDepth 20000 in
theorem ggX5_fired_X5_holds : GoodIn wsX5_fired wsX5_holds := goodIn_r _ [10, 11, 12, 13, 14, 15, 16, 17, 18, 19, 20, 21, 22, 23, 24, 25, 26, 27, 28, 29, 30, 31, 32, 33] (by decide +kernel) (by decide +kernel)
set_option maxRecDepth 20000 in
theorem gX5_fired_X5_holds : GoodIn wsX5_fired (wsV RX5 74 RX5 yX5_holds wsX5_holds) := goodIn_app (goodIn_of _ (by decide +kernel)) ggX5_fired_X5_holds
theorem dX5_fired_0 : decode cX5_fired 0 = .ok (.aload_n 0, 1) := by decide +kernel
theorem dX5_fired_1 : decode cX5_fired 1 = .ok (.iload_n 1, 1) := by decide +kernel
theorem dX5_fired_2 : decode cX5_fired 2 = .ok (.iconst 0, 1) := by decide +kernel
theorem dX5_fired_3 : decode cX5_fired 3 = .ok (.aload_n 0, 1) := by decide +kernel
theorem dX5_fired_4 : decode cX5_fired 4 = .ok (.getfield 77, 3) := by decide +kernel
theorem dX5_fired_7 : decode cX5_fired 7 = .ok (.iconst 1, 1) := by decide +kernel
theorem dX5_fired_8 : decode cX5_fired 8 = .ok (.isub, 1) := by decide +kernel
theorem dX5_fired_9 : decode cX5_fired 9 = .ok (.invokestatic 63, 3) := by decide +kernel
theorem dX5_fired_12 : decode cX5_fired 12 = .ok (.ifCond .eq 7, 3) := by decide +kernel
theorem dX5_fired_15 : decode cX5_fired 15 = .ok (.iconst 0, 1) := by decide +kernel
theorem dX5_fired_16 : decode cX5_fired 16 = .ok (.goto 4, 3) := by decide +kernel
theorem dX5_fired_19 : decode cX5_fired 19 = .ok (.iconst 1, 1) := by decide +kernel
theorem dX5_fired_20 : decode cX5_fired 20 = .ok (.invokevirtual 74, 3) := by decide +kernel
theorem dX5_fired_23 : decode cX5_fired 23 = .ok (.ifCond .eq 12, 3) := by decide +kernel
theorem dX5_fired_26 : decode cX5_fired 26 = .ok (.aload_n 0, 1) := by decide +kernel
theorem dX5_fired_27 : decode cX5_fired 27 = .ok (.getfield 47, 3) := by decide +kernel
theorem dX5_fired_30 : decode cX5_fired 30 = .ok (.iload_n 1, 1) := by decide +kernel
theorem dX5_fired_31 : decode cX5_fired 31 = .ok (.iaload, 1) := by decide +kernel
theorem dX5_fired_32 : decode cX5_fired 32 = .ok (.goto 4, 3) := by decide +kernel
theorem dX5_fired_35 : decode cX5_fired 35 = .ok (.iconst 0, 1) := by decide +kernel
theorem dX5_fired_36 : decode cX5_fired 36 = .ok (.ireturn, 1) := by decide +kernel
set_option maxRecDepth 20000 in
theorem ggX5_got_X5_isHouse : GoodIn wsX5_got wsX5_isHouse := goodIn_r _ [5, 6, 7, 4, 8] (by decide +kernel) (by decide +kernel)
set_option maxRecDepth 20000 in
theorem gX5_got_X5_isHouse : GoodIn wsX5_got (va_wsS RX5 67 yX5_isHouse wsX5_isHouse) := goodIn_app (goodIn_of _ (by decide +kernel)) ggX5_got_X5_isHouse
set_option maxRecDepth 20000 in
theorem ggX5_got_X5_holds : GoodIn wsX5_got wsX5_holds := goodIn_r _ [12, 13, 14, 15, 16, 17, 18, 19, 20, 21, 22, 23, 24, 25, 26, 27, 28, 29, 30, 31, 32, 33, 34, 35] (by decide +kernel) (by decide +kernel)
set_option maxRecDepth 20000 in
theorem gX5_got_X5_holds : GoodIn wsX5_got (wsV RX5 74 RX5 yX5_holds wsX5_holds) := goodIn_app (goodIn_of _ (by decide +kernel)) ggX5_got_X5_holds
theorem dX5_got_0 : decode cX5_got 0 = .ok (.aload_n 0, 1) := by decide +kernel
theorem dX5_got_1 : decode cX5_got 1 = .ok (.iload_n 1, 1) := by decide +kernel
theorem dX5_got_2 : decode cX5_got 2 = .ok (.invokestatic 67, 3) := by decide +kernel
theorem dX5_got_5 : decode cX5_got 5 = .ok (.ifCond .eq 7, 3) := by decide +kernel
theorem dX5_got_8 : decode cX5_got 8 = .ok (.iconst 0, 1) := by decide +kernel
theorem dX5_got_9 : decode cX5_got 9 = .ok (.goto 4, 3) := by decide +kernel
theorem dX5_got_12 : decode cX5_got 12 = .ok (.iconst 1, 1) := by decide +kernel
theorem dX5_got_13 : decode cX5_got 13 = .ok (.invokevirtual 74, 3) := by decide +kernel
theorem dX5_got_16 : decode cX5_got 16 = .ok (.ifCond .eq 12, 3) := by decide +kernel
theorem dX5_got_19 : decode cX5_got 19 = .ok (.aload_n 0, 1) := by decide +kernel
theorem dX5_got_20 : decode cX5_got 20 = .ok (.getfield 50, 3) := by decide +kernel
theorem dX5_got_23 : decode cX5_got 23 = .ok (.iload_n 1, 1) := by decide +kernel
theorem dX5_got_24 : decode cX5_got 24 = .ok (.iaload, 1) := by decide +kernel
theorem dX5_got_25 : decode cX5_got 25 = .ok (.goto 4, 3) := by decide +kernel
theorem dX5_got_28 : decode cX5_got 28 = .ok (.iconst 0, 1) := by decide +kernel
theorem dX5_got_29 : decode cX5_got 29 = .ok (.ireturn, 1) := by decide +kernel
set_option maxRecDepth 20000 in
theorem ggX5_meter_X5_isHouse : GoodIn wsX5_meter wsX5_isHouse := goodIn_r _ [5, 6, 7, 4, 8] (by decide +kernel) (by decide +kernel)
set_option maxRecDepth 20000 in
theorem gX5_meter_X5_isHouse : GoodIn wsX5_meter (va_wsS RX5 67 yX5_isHouse wsX5_isHouse) := goodIn_app (goodIn_of _ (by decide +kernel)) ggX5_meter_X5_isHouse
set_option maxRecDepth 20000 in
theorem ggX5_meter_X5_holds : GoodIn wsX5_meter wsX5_holds := goodIn_r _ [12, 13, 14, 15, 16, 17, 18, 19, 20, 21, 22, 23, 24, 25, 26, 27, 28, 29, 30, 31, 32, 33, 34, 35] (by decide +kernel) (by decide +kernel)
set_option maxRecDepth 20000 in
theorem gX5_meter_X5_holds : GoodIn wsX5_meter (wsV RX5 74 RX5 yX5_holds wsX5_holds) := goodIn_app (goodIn_of _ (by decide +kernel)) ggX5_meter_X5_holds
theorem dX5_meter_0 : decode cX5_meter 0 = .ok (.aload_n 0, 1) := by decide +kernel
theorem dX5_meter_1 : decode cX5_meter 1 = .ok (.iload_n 1, 1) := by decide +kernel
theorem dX5_meter_2 : decode cX5_meter 2 = .ok (.invokestatic 67, 3) := by decide +kernel
theorem dX5_meter_5 : decode cX5_meter 5 = .ok (.ifCond .eq 7, 3) := by decide +kernel
theorem dX5_meter_8 : decode cX5_meter 8 = .ok (.iconst 0, 1) := by decide +kernel
theorem dX5_meter_9 : decode cX5_meter 9 = .ok (.goto 4, 3) := by decide +kernel
theorem dX5_meter_12 : decode cX5_meter 12 = .ok (.iconst 1, 1) := by decide +kernel
theorem dX5_meter_13 : decode cX5_meter 13 = .ok (.invokevirtual 74, 3) := by decide +kernel
theorem dX5_meter_16 : decode cX5_meter 16 = .ok (.ifCond .eq 12, 3) := by decide +kernel
theorem dX5_meter_19 : decode cX5_meter 19 = .ok (.aload_n 0, 1) := by decide +kernel
theorem dX5_meter_20 : decode cX5_meter 20 = .ok (.getfield 53, 3) := by decide +kernel
theorem dX5_meter_23 : decode cX5_meter 23 = .ok (.iload_n 1, 1) := by decide +kernel
theorem dX5_meter_24 : decode cX5_meter 24 = .ok (.iaload, 1) := by decide +kernel
theorem dX5_meter_25 : decode cX5_meter 25 = .ok (.goto 4, 3) := by decide +kernel
theorem dX5_meter_28 : decode cX5_meter 28 = .ok (.iconst 0, 1) := by decide +kernel
theorem dX5_meter_29 : decode cX5_meter 29 = .ok (.ireturn, 1) := by decide +kernel
set_option maxRecDepth 20000 in
theorem ggX5_isSuspected_X5_isHouse : GoodIn wsX5_isSuspected wsX5_isHouse := goodIn_r _ [5, 6, 7, 4, 8] (by decide +kernel) (by decide +kernel)
set_option maxRecDepth 20000 in
theorem gX5_isSuspected_X5_isHouse : GoodIn wsX5_isSuspected (va_wsS RX5 67 yX5_isHouse wsX5_isHouse) := goodIn_app (goodIn_of _ (by decide +kernel)) ggX5_isSuspected_X5_isHouse
set_option maxRecDepth 20000 in
theorem ggX5_isSuspected_X5_holds : GoodIn wsX5_isSuspected wsX5_holds := goodIn_r _ [12, 13, 14, 15, 16, 17, 18, 19, 20, 21, 22, 23, 24, 25, 26, 27, 28, 29, 30, 31, 32, 33, 34, 35] (by decide +kernel) (by decide +kernel)
set_option maxRecDepth 20000 in
theorem gX5_isSuspected_X5_holds : GoodIn wsX5_isSuspected (wsV RX5 74 RX5 yX5_holds wsX5_holds) := goodIn_app (goodIn_of _ (by decide +kernel)) ggX5_isSuspected_X5_holds
theorem dX5_isSuspected_0 : decode cX5_isSuspected 0 = .ok (.aload_n 0, 1) := by decide +kernel
theorem dX5_isSuspected_1 : decode cX5_isSuspected 1 = .ok (.iload_n 1, 1) := by decide +kernel
theorem dX5_isSuspected_2 : decode cX5_isSuspected 2 = .ok (.invokestatic 67, 3) := by decide +kernel
theorem dX5_isSuspected_5 : decode cX5_isSuspected 5 = .ok (.ifCond .eq 7, 3) := by decide +kernel
theorem dX5_isSuspected_8 : decode cX5_isSuspected 8 = .ok (.iconst 0, 1) := by decide +kernel
theorem dX5_isSuspected_9 : decode cX5_isSuspected 9 = .ok (.goto 4, 3) := by decide +kernel
theorem dX5_isSuspected_12 : decode cX5_isSuspected 12 = .ok (.iconst 1, 1) := by decide +kernel
theorem dX5_isSuspected_13 : decode cX5_isSuspected 13 = .ok (.invokevirtual 74, 3) := by decide +kernel
theorem dX5_isSuspected_16 : decode cX5_isSuspected 16 = .ok (.ifCond .eq 16, 3) := by decide +kernel
theorem dX5_isSuspected_19 : decode cX5_isSuspected 19 = .ok (.aload_n 0, 1) := by decide +kernel
theorem dX5_isSuspected_20 : decode cX5_isSuspected 20 = .ok (.getfield 56, 3) := by decide +kernel
theorem dX5_isSuspected_23 : decode cX5_isSuspected 23 = .ok (.iload_n 1, 1) := by decide +kernel
theorem dX5_isSuspected_24 : decode cX5_isSuspected 24 = .ok (.baload, 1) := by decide +kernel
theorem dX5_isSuspected_25 : decode cX5_isSuspected 25 = .ok (.ifCond .eq 7, 3) := by decide +kernel
theorem dX5_isSuspected_28 : decode cX5_isSuspected 28 = .ok (.iconst 1, 1) := by decide +kernel
theorem dX5_isSuspected_29 : decode cX5_isSuspected 29 = .ok (.goto 4, 3) := by decide +kernel
theorem dX5_isSuspected_32 : decode cX5_isSuspected 32 = .ok (.iconst 0, 1) := by decide +kernel
theorem dX5_isSuspected_33 : decode cX5_isSuspected 33 = .ok (.ireturn, 1) := by decide +kernel
theorem dX5_losses_0 : decode cX5_losses 0 = .ok (.aload_n 0, 1) := by decide +kernel
theorem dX5_losses_1 : decode cX5_losses 1 = .ok (.iconst 0, 1) := by decide +kernel
theorem dX5_losses_2 : decode cX5_losses 2 = .ok (.putfield 59, 3) := by decide +kernel
theorem dX5_losses_5 : decode cX5_losses 5 = .ok (.aload_n 0, 1) := by decide +kernel
theorem dX5_losses_6 : decode cX5_losses 6 = .ok (.getfield 97, 3) := by decide +kernel
theorem dX5_losses_9 : decode cX5_losses 9 = .ok (.ireturn, 1) := by decide +kernel
set_option maxRecDepth 20000 in
theorem ggX5_bill_X5_isHouse : GoodIn wsX5_bill wsX5_isHouse := goodIn_r _ [5, 6, 7, 4, 8] (by decide +kernel) (by decide +kernel)
set_option maxRecDepth 20000 in
theorem gX5_bill_X5_isHouse : GoodIn wsX5_bill (va_wsS RX5 67 yX5_isHouse wsX5_isHouse) := goodIn_app (goodIn_of _ (by decide +kernel)) ggX5_bill_X5_isHouse
set_option maxRecDepth 20000 in
theorem ggX5_bill_X5_holds : GoodIn wsX5_bill wsX5_holds := goodIn_r _ [12, 13, 14, 15, 16, 17, 18, 19, 20, 21, 22, 23, 24, 25, 26, 27, 28, 29, 30, 31, 32, 33, 34, 35] (by decide +kernel) (by decide +kernel)
set_option maxRecDepth 20000 in
theorem gX5_bill_X5_holds : GoodIn wsX5_bill (wsV RX5 74 RX5 yX5_holds wsX5_holds) := goodIn_app (goodIn_of _ (by decide +kernel)) ggX5_bill_X5_holds
theorem dX5_bill_0 : decode cX5_bill 0 = .ok (.aload_n 0, 1) := by decide +kernel
theorem dX5_bill_1 : decode cX5_bill 1 = .ok (.iload_n 1, 1) := by decide +kernel
theorem dX5_bill_2 : decode cX5_bill 2 = .ok (.invokestatic 67, 3) := by decide +kernel
theorem dX5_bill_5 : decode cX5_bill 5 = .ok (.ifCond .eq 7, 3) := by decide +kernel
theorem dX5_bill_8 : decode cX5_bill 8 = .ok (.iconst 0, 1) := by decide +kernel
theorem dX5_bill_9 : decode cX5_bill 9 = .ok (.goto 4, 3) := by decide +kernel
theorem dX5_bill_12 : decode cX5_bill 12 = .ok (.iconst 1, 1) := by decide +kernel
theorem dX5_bill_13 : decode cX5_bill 13 = .ok (.invokevirtual 74, 3) := by decide +kernel
theorem dX5_bill_16 : decode cX5_bill 16 = .ok (.ifCond .eq 12, 3) := by decide +kernel
theorem dX5_bill_19 : decode cX5_bill 19 = .ok (.aload_n 0, 1) := by decide +kernel
theorem dX5_bill_20 : decode cX5_bill 20 = .ok (.getfield 25, 3) := by decide +kernel
theorem dX5_bill_23 : decode cX5_bill 23 = .ok (.iload_n 1, 1) := by decide +kernel
theorem dX5_bill_24 : decode cX5_bill 24 = .ok (.iaload, 1) := by decide +kernel
theorem dX5_bill_25 : decode cX5_bill 25 = .ok (.goto 4, 3) := by decide +kernel
theorem dX5_bill_28 : decode cX5_bill 28 = .ok (.iconst 0, 1) := by decide +kernel
theorem dX5_bill_29 : decode cX5_bill 29 = .ok (.ireturn, 1) := by decide +kernel
theorem dX5_cost_0 : decode cX5_cost 0 = .ok (.aload_n 0, 1) := by decide +kernel
theorem dX5_cost_1 : decode cX5_cost 1 = .ok (.iconst 0, 1) := by decide +kernel
theorem dX5_cost_2 : decode cX5_cost 2 = .ok (.putfield 59, 3) := by decide +kernel
theorem dX5_cost_5 : decode cX5_cost 5 = .ok (.aload_n 0, 1) := by decide +kernel
theorem dX5_cost_6 : decode cX5_cost 6 = .ok (.getfield 94, 3) := by decide +kernel
theorem dX5_cost_9 : decode cX5_cost 9 = .ok (.ireturn, 1) := by decide +kernel
set_option maxRecDepth 20000 in
theorem ggX5_isOpen_X5_isHouse : GoodIn wsX5_isOpen wsX5_isHouse := goodIn_r _ [5, 6, 7, 4, 8] (by decide +kernel) (by decide +kernel)
set_option maxRecDepth 20000 in
theorem gX5_isOpen_X5_isHouse : GoodIn wsX5_isOpen (va_wsS RX5 67 yX5_isHouse wsX5_isHouse) := goodIn_app (goodIn_of _ (by decide +kernel)) ggX5_isOpen_X5_isHouse
set_option maxRecDepth 20000 in
theorem ggX5_isOpen_X5_holds : GoodIn wsX5_isOpen wsX5_holds := goodIn_r _ [12, 13, 14, 15, 16, 17, 18, 19, 20, 21, 22, 23, 24, 25, 26, 27, 28, 29, 30, 31, 32, 33, 34, 35] (by decide +kernel) (by decide +kernel)
set_option maxRecDepth 20000 in
theorem gX5_isOpen_X5_holds : GoodIn wsX5_isOpen (wsV RX5 74 RX5 yX5_holds wsX5_holds) := goodIn_app (goodIn_of _ (by decide +kernel)) ggX5_isOpen_X5_holds
theorem dX5_isOpen_0 : decode cX5_isOpen 0 = .ok (.aload_n 0, 1) := by decide +kernel
theorem dX5_isOpen_1 : decode cX5_isOpen 1 = .ok (.iload_n 1, 1) := by decide +kernel
theorem dX5_isOpen_2 : decode cX5_isOpen 2 = .ok (.invokestatic 67, 3) := by decide +kernel
theorem dX5_isOpen_5 : decode cX5_isOpen 5 = .ok (.ifCond .eq 7, 3) := by decide +kernel
theorem dX5_isOpen_8 : decode cX5_isOpen 8 = .ok (.iconst 0, 1) := by decide +kernel
theorem dX5_isOpen_9 : decode cX5_isOpen 9 = .ok (.goto 4, 3) := by decide +kernel
theorem dX5_isOpen_12 : decode cX5_isOpen 12 = .ok (.iconst 1, 1) := by decide +kernel
theorem dX5_isOpen_13 : decode cX5_isOpen 13 = .ok (.invokevirtual 74, 3) := by decide +kernel
theorem dX5_isOpen_16 : decode cX5_isOpen 16 = .ok (.ifCond .eq 16, 3) := by decide +kernel
theorem dX5_isOpen_19 : decode cX5_isOpen 19 = .ok (.aload_n 0, 1) := by decide +kernel
theorem dX5_isOpen_20 : decode cX5_isOpen 20 = .ok (.getfield 22, 3) := by decide +kernel
theorem dX5_isOpen_23 : decode cX5_isOpen 23 = .ok (.iload_n 1, 1) := by decide +kernel
theorem dX5_isOpen_24 : decode cX5_isOpen 24 = .ok (.iaload, 1) := by decide +kernel
theorem dX5_isOpen_25 : decode cX5_isOpen 25 = .ok (.ifCond .ne 7, 3) := by decide +kernel
theorem dX5_isOpen_28 : decode cX5_isOpen 28 = .ok (.iconst 1, 1) := by decide +kernel
theorem dX5_isOpen_29 : decode cX5_isOpen 29 = .ok (.goto 4, 3) := by decide +kernel
theorem dX5_isOpen_32 : decode cX5_isOpen 32 = .ok (.iconst 0, 1) := by decide +kernel
theorem dX5_isOpen_33 : decode cX5_isOpen 33 = .ok (.ireturn, 1) := by decide +kernel
theorem dJ9_max_7cf53_0 : decode cJ9_max_7cf53 0 = .ok (.iload_n 0, 1) := by decide +kernel
theorem dJ9_max_7cf53_1 : decode cJ9_max_7cf53 1 = .ok (.iload_n 1, 1) := by decide +kernel
theorem dJ9_max_7cf53_2 : decode cJ9_max_7cf53 2 = .ok (.if_icmp .lt 7, 3) := by decide +kernel
theorem dJ9_max_7cf53_5 : decode cJ9_max_7cf53 5 = .ok (.iload_n 0, 1) := by decide +kernel
theorem dJ9_max_7cf53_6 : decode cJ9_max_7cf53 6 = .ok (.goto 4, 3) := by decide +kernel
theorem dJ9_max_7cf53_9 : decode cJ9_max_7cf53 9 = .ok (.iload_n 1, 1) := by decide +kernel
theorem dJ9_max_7cf53_10 : decode cJ9_max_7cf53 10 = .ok (.ireturn, 1) := by decide +kernel
theorem dJ9_min_7cf53_0 : decode cJ9_min_7cf53 0 = .ok (.iload_n 0, 1) := by decide +kernel
theorem dJ9_min_7cf53_1 : decode cJ9_min_7cf53 1 = .ok (.iload_n 1, 1) := by decide +kernel
theorem dJ9_min_7cf53_2 : decode cJ9_min_7cf53 2 = .ok (.if_icmp .gt 7, 3) := by decide +kernel
theorem dJ9_min_7cf53_5 : decode cJ9_min_7cf53 5 = .ok (.iload_n 0, 1) := by decide +kernel
theorem dJ9_min_7cf53_6 : decode cJ9_min_7cf53 6 = .ok (.goto 4, 3) := by decide +kernel
theorem dJ9_min_7cf53_9 : decode cJ9_min_7cf53 9 = .ok (.iload_n 1, 1) := by decide +kernel
theorem dJ9_min_7cf53_10 : decode cJ9_min_7cf53 10 = .ok (.ireturn, 1) := by decide +kernel
set_option maxRecDepth 20000 in
theorem ggL_feed_X4_feed : GoodIn wsL_feed wsX4_feed := goodIn_ca (goodIn_ca (goodIn_r _ [7, 8, 9, 10, 11, 12, 13, 14, 15, 6, 16, 17, 18, 19, 20, 21, 22, 23, 24, 25, 26, 27, 28, 29, 30, 31, 32, 33, 34, 35] (by decide +kernel) (by decide +kernel)) (goodIn_sub (fun _ h => List.mem_cons_of_mem _ (List.mem_append_left _ (List.mem_append_right _ h))) (by decide +kernel))) (goodIn_sub (fun _ h => List.mem_cons_of_mem _ (List.mem_append_right _ h)) (by decide +kernel))
set_option maxRecDepth 20000 in
theorem gL_feed_X4_feed : GoodIn wsL_feed (wsV RL 7 RX4 yX4_feed wsX4_feed) := goodIn_app (goodIn_of _ (by decide +kernel)) ggL_feed_X4_feed
theorem dL_feed_0 : decode cL_feed 0 = .ok (.aload 4, 2) := by decide +kernel
theorem dL_feed_2 : decode cL_feed 2 = .ok (.iconst 0, 1) := by decide +kernel
theorem dL_feed_3 : decode cL_feed 3 = .ok (.aload_n 0, 1) := by decide +kernel
theorem dL_feed_4 : decode cL_feed 4 = .ok (.iload_n 1, 1) := by decide +kernel
theorem dL_feed_5 : decode cL_feed 5 = .ok (.iload_n 2, 1) := by decide +kernel
theorem dL_feed_6 : decode cL_feed 6 = .ok (.iload_n 3, 1) := by decide +kernel
theorem dL_feed_7 : decode cL_feed 7 = .ok (.invokevirtual 7, 3) := by decide +kernel
theorem dL_feed_10 : decode cL_feed 10 = .ok (.i2l, 1) := by decide +kernel
theorem dL_feed_11 : decode cL_feed 11 = .ok (.lastore, 1) := by decide +kernel
theorem dL_feed_12 : decode cL_feed 12 = .ok (.goto 11, 3) := by decide +kernel
theorem dL_feed_15 : decode cL_feed 15 = .ok (.astore 5, 2) := by decide +kernel
theorem dL_feed_17 : decode cL_feed 17 = .ok (.iconst 1, 1) := by decide +kernel
theorem dL_feed_18 : decode cL_feed 18 = .ok (.ireturn, 1) := by decide +kernel
theorem dL_feed_19 : decode cL_feed 19 = .ok (.astore 5, 2) := by decide +kernel
theorem dL_feed_21 : decode cL_feed 21 = .ok (.iconst 2, 1) := by decide +kernel
theorem dL_feed_22 : decode cL_feed 22 = .ok (.ireturn, 1) := by decide +kernel
theorem dL_feed_23 : decode cL_feed 23 = .ok (.iconst 0, 1) := by decide +kernel
theorem dL_feed_24 : decode cL_feed 24 = .ok (.ireturn, 1) := by decide +kernel
set_option maxRecDepth 20000 in
theorem ggL_setArea_X4_setArea : GoodIn wsL_setArea wsX4_setArea := goodIn_ca (goodIn_r _ [6, 7, 8, 9, 10, 11, 5, 12, 13, 14, 15, 16, 17, 18, 19, 20, 21, 22, 23, 24, 25, 26, 27, 28, 29, 30, 31] (by decide +kernel) (by decide +kernel)) (goodIn_sub (fun _ h => List.mem_cons_of_mem _ (List.mem_append_right _ h)) (by decide +kernel))
set_option maxRecDepth 20000 in
theorem gL_setArea_X4_setArea : GoodIn wsL_setArea (wsV RL 17 RX4 yX4_setArea wsX4_setArea) := goodIn_app (goodIn_of _ (by decide +kernel)) ggL_setArea_X4_setArea
theorem dL_setArea_0 : decode cL_setArea 0 = .ok (.aload_n 3, 1) := by decide +kernel
theorem dL_setArea_1 : decode cL_setArea 1 = .ok (.iconst 0, 1) := by decide +kernel
theorem dL_setArea_2 : decode cL_setArea 2 = .ok (.aload_n 0, 1) := by decide +kernel
theorem dL_setArea_3 : decode cL_setArea 3 = .ok (.iload_n 1, 1) := by decide +kernel
theorem dL_setArea_4 : decode cL_setArea 4 = .ok (.iload_n 2, 1) := by decide +kernel
theorem dL_setArea_5 : decode cL_setArea 5 = .ok (.invokevirtual 17, 3) := by decide +kernel
theorem dL_setArea_8 : decode cL_setArea 8 = .ok (.i2l, 1) := by decide +kernel
theorem dL_setArea_9 : decode cL_setArea 9 = .ok (.lastore, 1) := by decide +kernel
theorem dL_setArea_10 : decode cL_setArea 10 = .ok (.goto 7, 3) := by decide +kernel
theorem dL_setArea_13 : decode cL_setArea 13 = .ok (.astore 4, 2) := by decide +kernel
theorem dL_setArea_15 : decode cL_setArea 15 = .ok (.iconst 1, 1) := by decide +kernel
theorem dL_setArea_16 : decode cL_setArea 16 = .ok (.ireturn, 1) := by decide +kernel
theorem dL_setArea_17 : decode cL_setArea 17 = .ok (.iconst 0, 1) := by decide +kernel
theorem dL_setArea_18 : decode cL_setArea 18 = .ok (.ireturn, 1) := by decide +kernel
set_option maxRecDepth 20000 in
theorem ggL_addBoiler_X4_addBoiler : GoodIn wsL_addBoiler wsX4_addBoiler := goodIn_ca (goodIn_ca (goodIn_r _ [7, 8, 9, 10, 11, 12, 13, 14, 6, 15, 16, 17, 18, 19, 20, 21, 22, 23, 24, 25, 26, 27, 28, 29, 30, 31, 32, 33, 34, 35, 36, 37, 38, 39, 40, 41, 42, 43, 44, 45, 46, 47, 48, 49, 50, 51, 52, 53, 54, 55] (by decide +kernel) (by decide +kernel)) (goodIn_sub (fun _ h => List.mem_cons_of_mem _ (List.mem_append_left _ (List.mem_append_right _ h))) (by decide +kernel))) (goodIn_sub (fun _ h => List.mem_cons_of_mem _ (List.mem_append_right _ h)) (by decide +kernel))
set_option maxRecDepth 20000 in
theorem gL_addBoiler_X4_addBoiler : GoodIn wsL_addBoiler (wsV RL 21 RX4 yX4_addBoiler wsX4_addBoiler) := goodIn_app (goodIn_of _ (by decide +kernel)) ggL_addBoiler_X4_addBoiler
theorem dL_addBoiler_0 : decode cL_addBoiler 0 = .ok (.aload 4, 2) := by decide +kernel
theorem dL_addBoiler_2 : decode cL_addBoiler 2 = .ok (.iconst 0, 1) := by decide +kernel
theorem dL_addBoiler_3 : decode cL_addBoiler 3 = .ok (.aload_n 0, 1) := by decide +kernel
theorem dL_addBoiler_4 : decode cL_addBoiler 4 = .ok (.iload_n 1, 1) := by decide +kernel
theorem dL_addBoiler_5 : decode cL_addBoiler 5 = .ok (.iload_n 2, 1) := by decide +kernel
theorem dL_addBoiler_6 : decode cL_addBoiler 6 = .ok (.iload_n 3, 1) := by decide +kernel
theorem dL_addBoiler_7 : decode cL_addBoiler 7 = .ok (.invokevirtual 21, 3) := by decide +kernel
theorem dL_addBoiler_10 : decode cL_addBoiler 10 = .ok (.i2l, 1) := by decide +kernel
theorem dL_addBoiler_11 : decode cL_addBoiler 11 = .ok (.lastore, 1) := by decide +kernel
theorem dL_addBoiler_12 : decode cL_addBoiler 12 = .ok (.goto 11, 3) := by decide +kernel
theorem dL_addBoiler_15 : decode cL_addBoiler 15 = .ok (.astore 5, 2) := by decide +kernel
theorem dL_addBoiler_17 : decode cL_addBoiler 17 = .ok (.iconst 1, 1) := by decide +kernel
theorem dL_addBoiler_18 : decode cL_addBoiler 18 = .ok (.ireturn, 1) := by decide +kernel
theorem dL_addBoiler_19 : decode cL_addBoiler 19 = .ok (.astore 5, 2) := by decide +kernel
theorem dL_addBoiler_21 : decode cL_addBoiler 21 = .ok (.iconst 2, 1) := by decide +kernel
theorem dL_addBoiler_22 : decode cL_addBoiler 22 = .ok (.ireturn, 1) := by decide +kernel
theorem dL_addBoiler_23 : decode cL_addBoiler 23 = .ok (.iconst 0, 1) := by decide +kernel
theorem dL_addBoiler_24 : decode cL_addBoiler 24 = .ok (.ireturn, 1) := by decide +kernel
set_option maxRecDepth 20000 in
theorem ggL_setError_X4_setError : GoodIn wsL_setError wsX4_setError := goodIn_ca (goodIn_r _ [6, 7, 8, 9, 10, 11, 5, 12, 13, 14, 15, 16, 17, 18, 19, 20, 21, 22, 23, 24, 25, 26, 27] (by decide +kernel) (by decide +kernel)) (goodIn_sub (fun _ h => List.mem_cons_of_mem _ (List.mem_append_right _ h)) (by decide +kernel))
set_option maxRecDepth 20000 in
theorem gL_setError_X4_setError : GoodIn wsL_setError (wsV RL 24 RX4 yX4_setError wsX4_setError) := goodIn_app (goodIn_of _ (by decide +kernel)) ggL_setError_X4_setError
theorem dL_setError_0 : decode cL_setError 0 = .ok (.aload_n 3, 1) := by decide +kernel
theorem dL_setError_1 : decode cL_setError 1 = .ok (.iconst 0, 1) := by decide +kernel
theorem dL_setError_2 : decode cL_setError 2 = .ok (.aload_n 0, 1) := by decide +kernel
theorem dL_setError_3 : decode cL_setError 3 = .ok (.iload_n 1, 1) := by decide +kernel
theorem dL_setError_4 : decode cL_setError 4 = .ok (.iload_n 2, 1) := by decide +kernel
theorem dL_setError_5 : decode cL_setError 5 = .ok (.invokevirtual 24, 3) := by decide +kernel
theorem dL_setError_8 : decode cL_setError 8 = .ok (.i2l, 1) := by decide +kernel
theorem dL_setError_9 : decode cL_setError 9 = .ok (.lastore, 1) := by decide +kernel
theorem dL_setError_10 : decode cL_setError 10 = .ok (.goto 7, 3) := by decide +kernel
theorem dL_setError_13 : decode cL_setError 13 = .ok (.astore 4, 2) := by decide +kernel
theorem dL_setError_15 : decode cL_setError 15 = .ok (.iconst 1, 1) := by decide +kernel
theorem dL_setError_16 : decode cL_setError 16 = .ok (.ireturn, 1) := by decide +kernel
theorem dL_setError_17 : decode cL_setError 17 = .ok (.iconst 0, 1) := by decide +kernel
theorem dL_setError_18 : decode cL_setError 18 = .ok (.ireturn, 1) := by decide +kernel
set_option maxRecDepth 20000 in
theorem ggL_repair_X4_repair : GoodIn wsL_repair wsX4_repair := goodIn_ca (goodIn_ca (goodIn_r _ [7, 8, 9, 10, 11, 12, 13, 14, 15, 16, 6, 17, 18, 19, 20, 21, 22, 23, 24, 25, 26, 27, 28, 29, 30, 31, 32, 33, 34, 35, 36, 37, 38, 39, 40, 41, 42, 43, 44, 45, 46, 47, 48] (by decide +kernel) (by decide +kernel)) (goodIn_sub (fun _ h => List.mem_cons_of_mem _ (List.mem_append_left _ (List.mem_append_right _ h))) (by decide +kernel))) (goodIn_sub (fun _ h => List.mem_cons_of_mem _ (List.mem_append_right _ h)) (by decide +kernel))
set_option maxRecDepth 20000 in
theorem gL_repair_X4_repair : GoodIn wsL_repair (wsV RL 27 RX4 yX4_repair wsX4_repair) := goodIn_app (goodIn_of _ (by decide +kernel)) ggL_repair_X4_repair
theorem dL_repair_0 : decode cL_repair 0 = .ok (.aload_n 3, 1) := by decide +kernel
theorem dL_repair_1 : decode cL_repair 1 = .ok (.iconst 0, 1) := by decide +kernel
theorem dL_repair_2 : decode cL_repair 2 = .ok (.aload_n 0, 1) := by decide +kernel
theorem dL_repair_3 : decode cL_repair 3 = .ok (.iload_n 1, 1) := by decide +kernel
theorem dL_repair_4 : decode cL_repair 4 = .ok (.iload_n 2, 1) := by decide +kernel
theorem dL_repair_5 : decode cL_repair 5 = .ok (.invokevirtual 27, 3) := by decide +kernel
theorem dL_repair_8 : decode cL_repair 8 = .ok (.i2l, 1) := by decide +kernel
theorem dL_repair_9 : decode cL_repair 9 = .ok (.lastore, 1) := by decide +kernel
theorem dL_repair_10 : decode cL_repair 10 = .ok (.goto 11, 3) := by decide +kernel
theorem dL_repair_13 : decode cL_repair 13 = .ok (.astore 4, 2) := by decide +kernel
theorem dL_repair_15 : decode cL_repair 15 = .ok (.iconst 1, 1) := by decide +kernel
theorem dL_repair_16 : decode cL_repair 16 = .ok (.ireturn, 1) := by decide +kernel
theorem dL_repair_17 : decode cL_repair 17 = .ok (.astore 4, 2) := by decide +kernel
theorem dL_repair_19 : decode cL_repair 19 = .ok (.iconst 2, 1) := by decide +kernel
theorem dL_repair_20 : decode cL_repair 20 = .ok (.ireturn, 1) := by decide +kernel
theorem dL_repair_21 : decode cL_repair 21 = .ok (.iconst 0, 1) := by decide +kernel
theorem dL_repair_22 : decode cL_repair 22 = .ok (.ireturn, 1) := by decide +kernel
set_option maxRecDepth 20000 in
theorem ggL_hour_X4_hour : GoodIn wsL_hour wsX4_hour := goodIn_ca (goodIn_r _ [6, 7, 8, 9, 10, 11, 12, 13, 14, 5, 15, 16, 17, 18, 19, 20, 21, 22, 23, 24, 25, 26, 27, 28, 29, 30, 31, 32, 33, 34, 35, 36, 37, 38, 39, 40, 41, 42, 43, 44, 45, 46, 47, 48, 49, 50, 51, 52, 53, 54, 55, 56, 57, 58, 59, 60, 61, 62, 63, 64, 65, 66, 67, 68, 69, 70, 71, 72, 73, 74, 75, 76, 77, 78, 79, 80, 81, 82, 83, 84, 85, 86, 87, 88, 89, 90, 91, 92, 93, 94, 95, 96, 97, 98, 99, 100, 101, 102, 103, 104, 105, 106, 107, 108, 109, 110, 111, 112, 113, 114, 115, 116, 117, 118, 119, 120, 121, 122, 123, 124, 125, 126] (by decide +kernel) (by decide +kernel)) (goodIn_sub (fun _ h => List.mem_cons_of_mem _ (List.mem_append_right _ h)) (by decide +kernel))
set_option maxRecDepth 20000 in
theorem gL_hour_X4_hour : GoodIn wsL_hour (wsV RL 30 RX4 yX4_hour wsX4_hour) := goodIn_app (goodIn_of _ (by decide +kernel)) ggL_hour_X4_hour
theorem dL_hour_0 : decode cL_hour 0 = .ok (.aload_n 2, 1) := by decide +kernel
theorem dL_hour_1 : decode cL_hour 1 = .ok (.iconst 0, 1) := by decide +kernel
theorem dL_hour_2 : decode cL_hour 2 = .ok (.aload_n 0, 1) := by decide +kernel
theorem dL_hour_3 : decode cL_hour 3 = .ok (.iload_n 1, 1) := by decide +kernel
theorem dL_hour_4 : decode cL_hour 4 = .ok (.invokevirtual 30, 3) := by decide +kernel
theorem dL_hour_7 : decode cL_hour 7 = .ok (.i2l, 1) := by decide +kernel
theorem dL_hour_8 : decode cL_hour 8 = .ok (.lastore, 1) := by decide +kernel
theorem dL_hour_9 : decode cL_hour 9 = .ok (.goto 6, 3) := by decide +kernel
theorem dL_hour_12 : decode cL_hour 12 = .ok (.astore_n 3, 1) := by decide +kernel
theorem dL_hour_13 : decode cL_hour 13 = .ok (.iconst 1, 1) := by decide +kernel
theorem dL_hour_14 : decode cL_hour 14 = .ok (.ireturn, 1) := by decide +kernel
theorem dL_hour_15 : decode cL_hour 15 = .ok (.iconst 0, 1) := by decide +kernel
theorem dL_hour_16 : decode cL_hour 16 = .ok (.ireturn, 1) := by decide +kernel
set_option maxRecDepth 20000 in
theorem ggL_load_X4_load : GoodIn wsL_load wsX4_load := goodIn_ca (goodIn_r _ [6, 7, 8, 9, 5, 10, 11, 12, 13, 14, 15, 16, 17, 18, 19, 20, 21, 22, 23, 24, 25, 26, 27, 28, 29, 30, 31, 32, 33, 34, 35, 36, 37, 38, 39, 40, 41, 42, 43, 44, 45, 46, 47, 48, 49, 50, 51, 52, 53, 54, 55, 56, 57, 58, 59] (by decide +kernel) (by decide +kernel)) (goodIn_sub (fun _ h => List.mem_cons_of_mem _ (List.mem_append_right _ h)) (by decide +kernel))
set_option maxRecDepth 20000 in
theorem gL_load_X4_load : GoodIn wsL_load (wsV RL 34 RX4 yX4_load wsX4_load) := goodIn_app (goodIn_of _ (by decide +kernel)) ggL_load_X4_load
theorem dL_load_0 : decode cL_load 0 = .ok (.aload_n 2, 1) := by decide +kernel
theorem dL_load_1 : decode cL_load 1 = .ok (.iconst 0, 1) := by decide +kernel
theorem dL_load_2 : decode cL_load 2 = .ok (.aload_n 0, 1) := by decide +kernel
theorem dL_load_3 : decode cL_load 3 = .ok (.iload_n 1, 1) := by decide +kernel
theorem dL_load_4 : decode cL_load 4 = .ok (.invokevirtual 34, 3) := by decide +kernel
theorem dL_load_7 : decode cL_load 7 = .ok (.i2l, 1) := by decide +kernel
theorem dL_load_8 : decode cL_load 8 = .ok (.lastore, 1) := by decide +kernel
theorem dL_load_9 : decode cL_load 9 = .ok (.goto 6, 3) := by decide +kernel
theorem dL_load_12 : decode cL_load 12 = .ok (.astore_n 3, 1) := by decide +kernel
theorem dL_load_13 : decode cL_load 13 = .ok (.iconst 1, 1) := by decide +kernel
theorem dL_load_14 : decode cL_load 14 = .ok (.ireturn, 1) := by decide +kernel
theorem dL_load_15 : decode cL_load 15 = .ok (.iconst 0, 1) := by decide +kernel
theorem dL_load_16 : decode cL_load 16 = .ok (.ireturn, 1) := by decide +kernel
set_option maxRecDepth 20000 in
theorem ggL_fired_X4_fired : GoodIn wsL_fired wsX4_fired := goodIn_ca (goodIn_r _ [6, 7, 8, 9, 10, 11, 12, 13, 14, 15, 16, 17, 18, 19, 20, 21, 22, 23, 24, 25, 26, 27, 28, 29, 30, 31] (by decide +kernel) (by decide +kernel)) (goodIn_sub (fun _ h => List.mem_cons_of_mem _ (List.mem_append_right _ h)) (by decide +kernel))
set_option maxRecDepth 20000 in
theorem gL_fired_X4_fired : GoodIn wsL_fired (wsV RL 37 RX4 yX4_fired wsX4_fired) := goodIn_app (goodIn_of _ (by decide +kernel)) ggL_fired_X4_fired
theorem dL_fired_0 : decode cL_fired 0 = .ok (.aload_n 2, 1) := by decide +kernel
theorem dL_fired_1 : decode cL_fired 1 = .ok (.iconst 0, 1) := by decide +kernel
theorem dL_fired_2 : decode cL_fired 2 = .ok (.aload_n 0, 1) := by decide +kernel
theorem dL_fired_3 : decode cL_fired 3 = .ok (.iload_n 1, 1) := by decide +kernel
theorem dL_fired_4 : decode cL_fired 4 = .ok (.invokevirtual 37, 3) := by decide +kernel
theorem dL_fired_7 : decode cL_fired 7 = .ok (.i2l, 1) := by decide +kernel
theorem dL_fired_8 : decode cL_fired 8 = .ok (.lastore, 1) := by decide +kernel
theorem dL_fired_9 : decode cL_fired 9 = .ok (.goto 6, 3) := by decide +kernel
theorem dL_fired_12 : decode cL_fired 12 = .ok (.astore_n 3, 1) := by decide +kernel
theorem dL_fired_13 : decode cL_fired 13 = .ok (.iconst 1, 1) := by decide +kernel
theorem dL_fired_14 : decode cL_fired 14 = .ok (.ireturn, 1) := by decide +kernel
theorem dL_fired_15 : decode cL_fired 15 = .ok (.iconst 0, 1) := by decide +kernel
theorem dL_fired_16 : decode cL_fired 16 = .ok (.ireturn, 1) := by decide +kernel
set_option maxRecDepth 20000 in
theorem ggL_got_X4_got : GoodIn wsL_got wsX4_got := goodIn_ca (goodIn_r _ [6, 7, 8, 9, 10, 11, 5, 12, 13, 14, 15, 16, 17, 18, 19, 20, 21, 22, 23, 24, 25, 26, 27, 28] (by decide +kernel) (by decide +kernel)) (goodIn_sub (fun _ h => List.mem_cons_of_mem _ (List.mem_append_right _ h)) (by decide +kernel))
set_option maxRecDepth 20000 in
theorem gL_got_X4_got : GoodIn wsL_got (wsV RL 42 RX4 yX4_got wsX4_got) := goodIn_app (goodIn_of _ (by decide +kernel)) ggL_got_X4_got
theorem dL_got_0 : decode cL_got 0 = .ok (.aload_n 2, 1) := by decide +kernel
theorem dL_got_1 : decode cL_got 1 = .ok (.iconst 0, 1) := by decide +kernel
theorem dL_got_2 : decode cL_got 2 = .ok (.aload_n 0, 1) := by decide +kernel
theorem dL_got_3 : decode cL_got 3 = .ok (.iload_n 1, 1) := by decide +kernel
theorem dL_got_4 : decode cL_got 4 = .ok (.invokevirtual 42, 3) := by decide +kernel
theorem dL_got_7 : decode cL_got 7 = .ok (.i2l, 1) := by decide +kernel
theorem dL_got_8 : decode cL_got 8 = .ok (.lastore, 1) := by decide +kernel
theorem dL_got_9 : decode cL_got 9 = .ok (.goto 6, 3) := by decide +kernel
theorem dL_got_12 : decode cL_got 12 = .ok (.astore_n 3, 1) := by decide +kernel
theorem dL_got_13 : decode cL_got 13 = .ok (.iconst 1, 1) := by decide +kernel
theorem dL_got_14 : decode cL_got 14 = .ok (.ireturn, 1) := by decide +kernel
theorem dL_got_15 : decode cL_got 15 = .ok (.iconst 0, 1) := by decide +kernel
theorem dL_got_16 : decode cL_got 16 = .ok (.ireturn, 1) := by decide +kernel
set_option maxRecDepth 20000 in
theorem ggL_meter_X4_meter : GoodIn wsL_meter wsX4_meter := goodIn_ca (goodIn_r _ [6, 7, 8, 9, 10, 11, 5, 12, 13, 14, 15, 16, 17, 18, 19, 20, 21, 22, 23, 24] (by decide +kernel) (by decide +kernel)) (goodIn_sub (fun _ h => List.mem_cons_of_mem _ (List.mem_append_right _ h)) (by decide +kernel))
set_option maxRecDepth 20000 in
theorem gL_meter_X4_meter : GoodIn wsL_meter (wsV RL 45 RX4 yX4_meter wsX4_meter) := goodIn_app (goodIn_of _ (by decide +kernel)) ggL_meter_X4_meter
theorem dL_meter_0 : decode cL_meter 0 = .ok (.aload_n 2, 1) := by decide +kernel
theorem dL_meter_1 : decode cL_meter 1 = .ok (.iconst 0, 1) := by decide +kernel
theorem dL_meter_2 : decode cL_meter 2 = .ok (.aload_n 0, 1) := by decide +kernel
theorem dL_meter_3 : decode cL_meter 3 = .ok (.iload_n 1, 1) := by decide +kernel
theorem dL_meter_4 : decode cL_meter 4 = .ok (.invokevirtual 45, 3) := by decide +kernel
theorem dL_meter_7 : decode cL_meter 7 = .ok (.i2l, 1) := by decide +kernel
theorem dL_meter_8 : decode cL_meter 8 = .ok (.lastore, 1) := by decide +kernel
theorem dL_meter_9 : decode cL_meter 9 = .ok (.goto 6, 3) := by decide +kernel
theorem dL_meter_12 : decode cL_meter 12 = .ok (.astore_n 3, 1) := by decide +kernel
theorem dL_meter_13 : decode cL_meter 13 = .ok (.iconst 1, 1) := by decide +kernel
theorem dL_meter_14 : decode cL_meter 14 = .ok (.ireturn, 1) := by decide +kernel
theorem dL_meter_15 : decode cL_meter 15 = .ok (.iconst 0, 1) := by decide +kernel
theorem dL_meter_16 : decode cL_meter 16 = .ok (.ireturn, 1) := by decide +kernel
set_option maxRecDepth 20000 in
theorem ggL_isSuspected_X4_isSuspected : GoodIn wsL_isSuspected wsX4_isSuspected := goodIn_ca (goodIn_r _ [6, 7, 8, 9, 10, 11, 5, 12, 13, 14, 15, 16, 17, 18, 19, 20, 21, 22, 23, 24] (by decide +kernel) (by decide +kernel)) (goodIn_sub (fun _ h => List.mem_cons_of_mem _ (List.mem_append_right _ h)) (by decide +kernel))
set_option maxRecDepth 20000 in
theorem gL_isSuspected_X4_isSuspected : GoodIn wsL_isSuspected (wsV RL 48 RX4 yX4_isSuspected wsX4_isSuspected) := goodIn_app (goodIn_of _ (by decide +kernel)) ggL_isSuspected_X4_isSuspected
theorem dL_isSuspected_0 : decode cL_isSuspected 0 = .ok (.aload_n 2, 1) := by decide +kernel
theorem dL_isSuspected_1 : decode cL_isSuspected 1 = .ok (.iconst 0, 1) := by decide +kernel
theorem dL_isSuspected_2 : decode cL_isSuspected 2 = .ok (.aload_n 0, 1) := by decide +kernel
theorem dL_isSuspected_3 : decode cL_isSuspected 3 = .ok (.iload_n 1, 1) := by decide +kernel
theorem dL_isSuspected_4 : decode cL_isSuspected 4 = .ok (.invokevirtual 48, 3) := by decide +kernel
theorem dL_isSuspected_7 : decode cL_isSuspected 7 = .ok (.ifCond .eq 7, 3) := by decide +kernel
theorem dL_isSuspected_10 : decode cL_isSuspected 10 = .ok (.lconst 1, 1) := by decide +kernel
theorem dL_isSuspected_11 : decode cL_isSuspected 11 = .ok (.goto 4, 3) := by decide +kernel
theorem dL_isSuspected_14 : decode cL_isSuspected 14 = .ok (.lconst 0, 1) := by decide +kernel
theorem dL_isSuspected_15 : decode cL_isSuspected 15 = .ok (.lastore, 1) := by decide +kernel
theorem dL_isSuspected_16 : decode cL_isSuspected 16 = .ok (.goto 6, 3) := by decide +kernel
theorem dL_isSuspected_19 : decode cL_isSuspected 19 = .ok (.astore_n 3, 1) := by decide +kernel
theorem dL_isSuspected_20 : decode cL_isSuspected 20 = .ok (.iconst 1, 1) := by decide +kernel
theorem dL_isSuspected_21 : decode cL_isSuspected 21 = .ok (.ireturn, 1) := by decide +kernel
theorem dL_isSuspected_22 : decode cL_isSuspected 22 = .ok (.iconst 0, 1) := by decide +kernel
theorem dL_isSuspected_23 : decode cL_isSuspected 23 = .ok (.ireturn, 1) := by decide +kernel
set_option maxRecDepth 20000 in
theorem ggL_bill_X4_bill : GoodIn wsL_bill wsX4_bill := goodIn_ca (goodIn_r _ [6, 7, 8, 9, 10, 11, 5, 12, 13, 14, 15, 16, 17, 18, 19] (by decide +kernel) (by decide +kernel)) (goodIn_sub (fun _ h => List.mem_cons_of_mem _ (List.mem_append_right _ h)) (by decide +kernel))
set_option maxRecDepth 20000 in
theorem gL_bill_X4_bill : GoodIn wsL_bill (wsV RL 52 RX4 yX4_bill wsX4_bill) := goodIn_app (goodIn_of _ (by decide +kernel)) ggL_bill_X4_bill
theorem dL_bill_0 : decode cL_bill 0 = .ok (.aload_n 2, 1) := by decide +kernel
theorem dL_bill_1 : decode cL_bill 1 = .ok (.iconst 0, 1) := by decide +kernel
theorem dL_bill_2 : decode cL_bill 2 = .ok (.aload_n 0, 1) := by decide +kernel
theorem dL_bill_3 : decode cL_bill 3 = .ok (.iload_n 1, 1) := by decide +kernel
theorem dL_bill_4 : decode cL_bill 4 = .ok (.invokevirtual 52, 3) := by decide +kernel
theorem dL_bill_7 : decode cL_bill 7 = .ok (.i2l, 1) := by decide +kernel
theorem dL_bill_8 : decode cL_bill 8 = .ok (.lastore, 1) := by decide +kernel
theorem dL_bill_9 : decode cL_bill 9 = .ok (.goto 6, 3) := by decide +kernel
theorem dL_bill_12 : decode cL_bill 12 = .ok (.astore_n 3, 1) := by decide +kernel
theorem dL_bill_13 : decode cL_bill 13 = .ok (.iconst 1, 1) := by decide +kernel
theorem dL_bill_14 : decode cL_bill 14 = .ok (.ireturn, 1) := by decide +kernel
theorem dL_bill_15 : decode cL_bill 15 = .ok (.iconst 0, 1) := by decide +kernel
theorem dL_bill_16 : decode cL_bill 16 = .ok (.ireturn, 1) := by decide +kernel
set_option maxRecDepth 20000 in
theorem ggL_isOpen_X4_isOpen : GoodIn wsL_isOpen wsX4_isOpen := goodIn_ca (goodIn_r _ [6, 7, 8, 9, 10, 11, 5, 12, 13, 14, 15, 16, 17, 18, 19, 20, 21, 22, 23, 24, 25, 26, 27, 28] (by decide +kernel) (by decide +kernel)) (goodIn_sub (fun _ h => List.mem_cons_of_mem _ (List.mem_append_right _ h)) (by decide +kernel))
set_option maxRecDepth 20000 in
theorem gL_isOpen_X4_isOpen : GoodIn wsL_isOpen (wsV RL 55 RX4 yX4_isOpen wsX4_isOpen) := goodIn_app (goodIn_of _ (by decide +kernel)) ggL_isOpen_X4_isOpen
theorem dL_isOpen_0 : decode cL_isOpen 0 = .ok (.aload_n 2, 1) := by decide +kernel
theorem dL_isOpen_1 : decode cL_isOpen 1 = .ok (.iconst 0, 1) := by decide +kernel
theorem dL_isOpen_2 : decode cL_isOpen 2 = .ok (.aload_n 0, 1) := by decide +kernel
theorem dL_isOpen_3 : decode cL_isOpen 3 = .ok (.iload_n 1, 1) := by decide +kernel
theorem dL_isOpen_4 : decode cL_isOpen 4 = .ok (.invokevirtual 55, 3) := by decide +kernel
theorem dL_isOpen_7 : decode cL_isOpen 7 = .ok (.ifCond .eq 7, 3) := by decide +kernel
theorem dL_isOpen_10 : decode cL_isOpen 10 = .ok (.lconst 1, 1) := by decide +kernel
theorem dL_isOpen_11 : decode cL_isOpen 11 = .ok (.goto 4, 3) := by decide +kernel
theorem dL_isOpen_14 : decode cL_isOpen 14 = .ok (.lconst 0, 1) := by decide +kernel
theorem dL_isOpen_15 : decode cL_isOpen 15 = .ok (.lastore, 1) := by decide +kernel
theorem dL_isOpen_16 : decode cL_isOpen 16 = .ok (.goto 6, 3) := by decide +kernel
theorem dL_isOpen_19 : decode cL_isOpen 19 = .ok (.astore_n 3, 1) := by decide +kernel
theorem dL_isOpen_20 : decode cL_isOpen 20 = .ok (.iconst 1, 1) := by decide +kernel
theorem dL_isOpen_21 : decode cL_isOpen 21 = .ok (.ireturn, 1) := by decide +kernel
theorem dL_isOpen_22 : decode cL_isOpen 22 = .ok (.iconst 0, 1) := by decide +kernel
theorem dL_isOpen_23 : decode cL_isOpen 23 = .ok (.ireturn, 1) := by decide +kernel
set_option maxRecDepth 20000 in
theorem ggL_law_X4_init : GoodIn wsL_law wsX4_init := goodIn_r _ [9, 10, 11, 12, 13, 14, 15, 16, 17, 18, 19, 20, 21, 22, 23, 24, 25, 26, 27, 28, 29, 30, 31, 32, 33, 34, 35, 36, 37, 38, 39, 40, 41, 42, 43, 44, 45, 46, 47, 48, 49, 424, 425, 426, 427, 428, 429, 430, 431, 432, 395, 396, 397, 398, 399, 400, 401, 433, 434, 435, 436, 437, 438, 439, 440, 441] (by decide +kernel) (by decide +kernel)
set_option maxRecDepth 20000 in
theorem gL_law_X4_init : GoodIn wsL_law (wsX4_init) := ggL_law_X4_init
set_option maxRecDepth 20000 in
theorem ggL_law_X5_init : GoodIn wsL_law wsX5_init := goodIn_r _ [52, 53, 11, 12, 25, 54, 55, 56, 57, 58, 59, 60, 61, 62, 35, 63, 64, 65, 66, 67, 68, 69, 402, 403, 404, 405, 406, 407, 408, 409, 410, 411, 412, 413, 414, 415, 416, 417, 418, 419, 420, 421, 422, 423] (by decide +kernel) (by decide +kernel)
set_option maxRecDepth 20000 in
theorem gL_law_X5_init : GoodIn wsL_law (wsX5_init) := ggL_law_X5_init
set_option maxRecDepth 20000 in
theorem ggL_law_L_feed : GoodIn wsL_law wsL_feed := goodIn_ca (goodIn_ca (goodIn_r _ [73, 74, 75, 76, 77, 78, 2, 79, 80, 81, 82, 83, 84, 16, 85, 86, 87, 88, 89, 90, 395, 396, 397, 398, 399, 400, 401, 424, 425, 426, 427, 428, 429, 430, 431, 432] (by decide +kernel) (by decide +kernel)) (goodIn_sub (fun _ h => List.mem_append_left _ (List.mem_append_left _ (List.mem_append_right _ h))) (by decide +kernel))) (goodIn_sub (fun _ h => List.mem_append_left _ (List.mem_append_right _ h)) (by decide +kernel))
set_option maxRecDepth 20000 in
theorem gL_law_L_feed : GoodIn wsL_law (va_wsS RL 62 yL_feed wsL_feed) := goodIn_app (goodIn_of _ (by decide +kernel)) ggL_law_L_feed
set_option maxRecDepth 20000 in
theorem ggL_law_X5_feed : GoodIn wsL_law wsX5_feed := goodIn_r _ [94, 95, 54, 55, 96, 97, 5, 98, 99, 100, 101, 102, 103, 104, 105, 106, 402, 403, 404, 405, 406, 407, 408, 409, 410, 411, 412, 413, 414, 415, 416, 417, 418, 419, 420, 421, 422, 423] (by decide +kernel) (by decide +kernel)
set_option maxRecDepth 20000 in
theorem gL_law_X5_feed : GoodIn wsL_law (wsV RL 67 RX5 yX5_feed wsX5_feed) := goodIn_app (goodIn_of _ (by decide +kernel)) ggL_law_X5_feed
set_option maxRecDepth 20000 in
theorem ggL_law_X5_thrown : GoodIn wsL_law wsX5_thrown := goodIn_r _ [110, 106, 402, 403, 404, 405, 406, 407, 408, 409, 410, 411, 412, 413, 414, 415, 416, 417, 418, 419, 420, 421, 422, 423] (by decide +kernel) (by decide +kernel)
set_option maxRecDepth 20000 in
theorem gL_law_X5_thrown : GoodIn wsL_law (wsV RL 68 RX5 yX5_thrown wsX5_thrown) := goodIn_app (goodIn_of _ (by decide +kernel)) ggL_law_X5_thrown
set_option maxRecDepth 20000 in
theorem ggL_law_L_setArea : GoodIn wsL_law wsL_setArea := goodIn_ca (goodIn_r _ [113, 74, 114, 115, 116, 2, 117, 80, 81, 16, 85, 86, 87, 88, 89, 90, 395, 396, 397, 398, 399, 400, 401, 424, 425, 426, 427, 428, 429, 430, 431, 432] (by decide +kernel) (by decide +kernel)) (goodIn_sub (fun _ h => List.mem_append_left _ (List.mem_append_left _ (List.mem_append_right _ h))) (by decide +kernel))
set_option maxRecDepth 20000 in
theorem gL_law_L_setArea : GoodIn wsL_law (va_wsS RL 72 yL_setArea wsL_setArea) := goodIn_app (goodIn_of _ (by decide +kernel)) ggL_law_L_setArea
set_option maxRecDepth 20000 in
theorem ggL_law_X5_setArea : GoodIn wsL_law wsX5_setArea := goodIn_r _ [121, 56, 96, 97, 5, 98, 99, 100, 101, 102, 103, 104, 105, 106, 402, 403, 404, 405, 406, 407, 408, 409, 410, 411, 412, 413, 414, 415, 416, 417, 418, 419, 420, 421, 422, 423] (by decide +kernel) (by decide +kernel)
set_option maxRecDepth 20000 in
theorem gL_law_X5_setArea : GoodIn wsL_law (wsV RL 75 RX5 yX5_setArea wsX5_setArea) := goodIn_app (goodIn_of _ (by decide +kernel)) ggL_law_X5_setArea
set_option maxRecDepth 20000 in
theorem ggL_law_L_addBoiler : GoodIn wsL_law wsL_addBoiler := goodIn_ca (goodIn_ca (goodIn_r _ [124, 74, 75, 125, 126, 127, 2, 128, 80, 81, 82, 83, 20, 88, 89, 90, 129, 19, 130, 131, 132, 133, 134, 135, 136, 137, 138, 139, 140, 11, 12, 141, 142, 143, 144, 145, 146, 147, 148, 395, 396, 397, 398, 399, 400, 401, 433, 434, 435, 436, 442, 443, 444, 445, 446, 447] (by decide +kernel) (by decide +kernel)) (goodIn_sub (fun _ h => List.mem_append_left _ (List.mem_append_left _ (List.mem_append_right _ h))) (by decide +kernel))) (goodIn_sub (fun _ h => List.mem_append_left _ (List.mem_append_right _ h)) (by decide +kernel))
set_option maxRecDepth 20000 in
theorem gL_law_L_addBoiler : GoodIn wsL_law (va_wsS RL 76 yL_addBoiler wsL_addBoiler) := goodIn_app (goodIn_of _ (by decide +kernel)) ggL_law_L_addBoiler
set_option maxRecDepth 20000 in
theorem ggL_law_X5_addBoiler : GoodIn wsL_law wsX5_addBoiler := goodIn_r _ [152, 153, 60, 61, 62, 99, 100, 5, 101, 102, 103, 104, 105, 106, 402, 403, 404, 405, 406, 407, 408, 409, 410, 411, 412, 413, 414, 415, 416, 417, 418, 419, 420, 421, 422, 423] (by decide +kernel) (by decide +kernel)
set_option maxRecDepth 20000 in
theorem gL_law_X5_addBoiler : GoodIn wsL_law (wsV RL 78 RX5 yX5_addBoiler wsX5_addBoiler) := goodIn_app (goodIn_of _ (by decide +kernel)) ggL_law_X5_addBoiler
set_option maxRecDepth 20000 in
theorem ggL_law_L_setError : GoodIn wsL_law wsL_setError := goodIn_ca (goodIn_r _ [156, 74, 157, 158, 159, 2, 160, 80, 81, 24, 85, 86, 87, 88, 89, 90, 395, 396, 397, 398, 399, 400, 401, 437, 438, 439, 440, 441] (by decide +kernel) (by decide +kernel)) (goodIn_sub (fun _ h => List.mem_append_left _ (List.mem_append_left _ (List.mem_append_right _ h))) (by decide +kernel))
set_option maxRecDepth 20000 in
theorem gL_law_L_setError : GoodIn wsL_law (va_wsS RL 79 yL_setError wsL_setError) := goodIn_app (goodIn_of _ (by decide +kernel)) ggL_law_L_setError
set_option maxRecDepth 20000 in
theorem ggL_law_X5_setError : GoodIn wsL_law wsX5_setError := goodIn_r _ [164, 57, 96, 97, 5, 98, 99, 100, 101, 102, 103, 104, 105, 106, 402, 403, 404, 405, 406, 407, 408, 409, 410, 411, 412, 413, 414, 415, 416, 417, 418, 419, 420, 421, 422, 423] (by decide +kernel) (by decide +kernel)
set_option maxRecDepth 20000 in
theorem gL_law_X5_setError : GoodIn wsL_law (wsV RL 81 RX5 yX5_setError wsX5_setError) := goodIn_app (goodIn_of _ (by decide +kernel)) ggL_law_X5_setError
set_option maxRecDepth 20000 in
theorem ggL_law_L_repair : GoodIn wsL_law wsL_repair := goodIn_ca (goodIn_ca (goodIn_r _ [167, 74, 75, 168, 169, 170, 2, 171, 80, 81, 82, 83, 16, 84, 172, 85, 86, 87, 88, 89, 90, 173, 15, 174, 175, 32, 36, 176, 177, 178, 179, 30, 33, 395, 396, 397, 398, 399, 400, 401, 424, 425, 426, 427, 428, 429, 430, 431, 432] (by decide +kernel) (by decide +kernel)) (goodIn_sub (fun _ h => List.mem_append_left _ (List.mem_append_left _ (List.mem_append_right _ h))) (by decide +kernel))) (goodIn_sub (fun _ h => List.mem_append_left _ (List.mem_append_right _ h)) (by decide +kernel))
set_option maxRecDepth 20000 in
theorem gL_law_L_repair : GoodIn wsL_law (va_wsS RL 82 yL_repair wsL_repair) := goodIn_app (goodIn_of _ (by decide +kernel)) ggL_law_L_repair
set_option maxRecDepth 20000 in
theorem ggL_law_X5_repair : GoodIn wsL_law wsX5_repair := goodIn_r _ [183, 58, 95, 184, 56, 63, 96, 97, 5, 98, 99, 100, 101, 102, 103, 104, 105, 106, 185, 186, 187, 188, 54, 402, 403, 404, 405, 406, 407, 408, 409, 410, 411, 412, 413, 414, 415, 416, 417, 418, 419, 420, 421, 422, 423] (by decide +kernel) (by decide +kernel)
set_option maxRecDepth 20000 in
theorem gL_law_X5_repair : GoodIn wsL_law (wsV RL 84 RX5 yX5_repair wsX5_repair) := goodIn_app (goodIn_of _ (by decide +kernel)) ggL_law_X5_repair
set_option maxRecDepth 20000 in
theorem ggL_law_L_hour : GoodIn wsL_law wsL_hour := goodIn_ca (goodIn_r _ [191, 74, 192, 193, 194, 2, 195, 16, 20, 24, 196, 172, 84, 197, 198, 199, 80, 81, 88, 89, 90, 200, 15, 201, 202, 38, 36, 32, 203, 176, 177, 178, 179, 30, 33, 86, 87, 204, 205, 206, 207, 208, 209, 37, 210, 211, 212, 213, 31, 214, 215, 216, 217, 218, 219, 220, 34, 221, 222, 223, 224, 19, 225, 226, 136, 227, 228, 134, 229, 230, 231, 142, 143, 232, 233, 23, 234, 235, 48, 49, 46, 45, 47, 236, 237, 238, 239, 240, 241, 242, 243, 26, 244, 245, 246, 247, 395, 396, 397, 398, 399, 400, 401, 433, 434, 435, 436, 424, 425, 426, 427, 428, 429, 430, 431, 432, 442, 443, 444, 445, 446, 447, 437, 438, 439, 440, 441] (by decide +kernel) (by decide +kernel)) (goodIn_sub (fun _ h => List.mem_append_left _ (List.mem_append_left _ (List.mem_append_right _ h))) (by decide +kernel))
set_option maxRecDepth 20000 in
theorem gL_law_L_hour : GoodIn wsL_law (va_wsS RL 85 yL_hour wsL_hour) := goodIn_app (goodIn_of _ (by decide +kernel)) ggL_law_L_hour
set_option maxRecDepth 20000 in
theorem ggL_law_X5_hour : GoodIn wsL_law wsX5_hour := goodIn_r _ [251, 95, 184, 58, 252, 253, 5, 254, 99, 100, 101, 102, 103, 104, 105, 106, 255, 256, 257, 258, 64, 63, 56, 65, 54, 55, 185, 186, 187, 188, 259, 260, 261, 262, 263, 264, 265, 61, 60, 66, 266, 62, 267, 268, 269, 270, 153, 271, 272, 273, 274, 275, 67, 276, 277, 278, 279, 280, 281, 282, 283, 68, 57, 69, 284, 285, 286, 287, 59, 402, 403, 404, 405, 406, 407, 408, 409, 410, 411, 412, 413, 414, 415, 416, 417, 418, 419, 420, 421, 422, 423] (by decide +kernel) (by decide +kernel)
set_option maxRecDepth 20000 in
theorem gL_law_X5_hour : GoodIn wsL_law (wsV RL 88 RX5 yX5_hour wsX5_hour) := goodIn_app (goodIn_of _ (by decide +kernel)) ggL_law_X5_hour
set_option maxRecDepth 20000 in
theorem ggL_law_X4_hours : GoodIn wsL_law wsX4_hours := goodIn_r _ [291, 84, 395, 396, 397, 398, 399, 400, 401] (by decide +kernel) (by decide +kernel)
set_option maxRecDepth 20000 in
theorem gL_law_X4_hours : GoodIn wsL_law (wsV RL 89 RX4 yX4_hours wsX4_hours) := goodIn_app (goodIn_of _ (by decide +kernel)) ggL_law_X4_hours
set_option maxRecDepth 20000 in
theorem ggL_law_X5_hours : GoodIn wsL_law wsX5_hours := goodIn_r _ [295, 106, 95, 402, 403, 404, 405, 406, 407, 408, 409, 410, 411, 412, 413, 414, 415, 416, 417, 418, 419, 420, 421, 422, 423] (by decide +kernel) (by decide +kernel)
set_option maxRecDepth 20000 in
theorem gL_law_X5_hours : GoodIn wsL_law (wsV RL 92 RX5 yX5_hours wsX5_hours) := goodIn_app (goodIn_of _ (by decide +kernel)) ggL_law_X5_hours
set_option maxRecDepth 20000 in
theorem ggL_law_L_load : GoodIn wsL_law wsL_load := goodIn_ca (goodIn_r _ [298, 74, 299, 300, 301, 2, 302, 16, 197, 198, 199, 80, 81, 88, 89, 90, 200, 15, 201, 202, 38, 36, 32, 203, 176, 177, 178, 179, 30, 33, 86, 87, 204, 205, 206, 207, 208, 209, 37, 210, 211, 212, 213, 31, 395, 396, 397, 398, 399, 400, 401, 424, 425, 426, 427, 428, 429, 430, 431, 432] (by decide +kernel) (by decide +kernel)) (goodIn_sub (fun _ h => List.mem_append_left _ (List.mem_append_left _ (List.mem_append_right _ h))) (by decide +kernel))
set_option maxRecDepth 20000 in
theorem gL_law_L_load : GoodIn wsL_law (va_wsS RL 93 yL_load wsL_load) := goodIn_app (goodIn_of _ (by decide +kernel)) ggL_law_L_load
set_option maxRecDepth 20000 in
theorem ggL_law_X5_load : GoodIn wsL_law wsX5_load := goodIn_r _ [306, 252, 253, 5, 254, 99, 100, 101, 102, 103, 104, 105, 106, 255, 256, 257, 258, 64, 63, 56, 65, 54, 55, 185, 186, 187, 188, 58, 259, 260, 261, 402, 403, 404, 405, 406, 407, 408, 409, 410, 411, 412, 413, 414, 415, 416, 417, 418, 419, 420, 421, 422, 423] (by decide +kernel) (by decide +kernel)
set_option maxRecDepth 20000 in
theorem gL_law_X5_load : GoodIn wsL_law (wsV RL 95 RX5 yX5_load wsX5_load) := goodIn_app (goodIn_of _ (by decide +kernel)) ggL_law_X5_load
set_option maxRecDepth 20000 in
theorem ggL_law_L_fired : GoodIn wsL_law wsL_fired := goodIn_ca (goodIn_r _ [309, 310, 311, 312, 313, 2, 314, 315, 316, 20, 317, 19, 318, 319, 136, 395, 396, 397, 398, 399, 400, 401, 442, 443, 444, 445, 446, 447, 433, 434, 435, 436] (by decide +kernel) (by decide +kernel)) (goodIn_sub (fun _ h => List.mem_append_right _ h) (by decide +kernel))
set_option maxRecDepth 20000 in
theorem gL_law_L_fired : GoodIn wsL_law (va_wsS RL 96 yL_fired wsL_fired) := goodIn_app (goodIn_of _ (by decide +kernel)) ggL_law_L_fired
set_option maxRecDepth 20000 in
theorem ggL_law_X5_fired : GoodIn wsL_law wsX5_fired := goodIn_r _ [323, 153, 66, 99, 100, 5, 101, 102, 103, 104, 105, 106, 402, 403, 404, 405, 406, 407, 408, 409, 410, 411, 412, 413, 414, 415, 416, 417, 418, 419, 420, 421, 422, 423] (by decide +kernel) (by decide +kernel)
set_option maxRecDepth 20000 in
theorem gL_law_X5_fired : GoodIn wsL_law (wsV RL 98 RX5 yX5_fired wsX5_fired) := goodIn_app (goodIn_of _ (by decide +kernel)) ggL_law_X5_fired
set_option maxRecDepth 20000 in
theorem ggL_law_L_got : GoodIn wsL_law wsL_got := goodIn_ca (goodIn_r _ [326, 74, 327, 328, 329, 2, 330, 80, 81, 16, 85, 86, 87, 395, 396, 397, 398, 399, 400, 401, 424, 425, 426, 427, 428, 429, 430, 431, 432] (by decide +kernel) (by decide +kernel)) (goodIn_sub (fun _ h => List.mem_append_left _ (List.mem_append_left _ (List.mem_append_right _ h))) (by decide +kernel))
set_option maxRecDepth 20000 in
theorem gL_law_L_got : GoodIn wsL_law (va_wsS RL 99 yL_got wsL_got) := goodIn_app (goodIn_of _ (by decide +kernel)) ggL_law_L_got
set_option maxRecDepth 20000 in
theorem ggL_law_X5_got : GoodIn wsL_law wsX5_got := goodIn_r _ [334, 67, 96, 97, 5, 98, 99, 100, 101, 102, 103, 104, 105, 106, 402, 403, 404, 405, 406, 407, 408, 409, 410, 411, 412, 413, 414, 415, 416, 417, 418, 419, 420, 421, 422, 423] (by decide +kernel) (by decide +kernel)
set_option maxRecDepth 20000 in
theorem gL_law_X5_got : GoodIn wsL_law (wsV RL 101 RX5 yX5_got wsX5_got) := goodIn_app (goodIn_of _ (by decide +kernel)) ggL_law_X5_got
set_option maxRecDepth 20000 in
theorem ggL_law_L_meter : GoodIn wsL_law wsL_meter := goodIn_ca (goodIn_r _ [337, 74, 338, 339, 340, 2, 341, 80, 81, 24, 85, 86, 87, 395, 396, 397, 398, 399, 400, 401, 437, 438, 439, 440, 441] (by decide +kernel) (by decide +kernel)) (goodIn_sub (fun _ h => List.mem_append_left _ (List.mem_append_left _ (List.mem_append_right _ h))) (by decide +kernel))
set_option maxRecDepth 20000 in
theorem gL_law_L_meter : GoodIn wsL_law (va_wsS RL 102 yL_meter wsL_meter) := goodIn_app (goodIn_of _ (by decide +kernel)) ggL_law_L_meter
set_option maxRecDepth 20000 in
theorem ggL_law_X5_meter : GoodIn wsL_law wsX5_meter := goodIn_r _ [345, 68, 96, 97, 5, 98, 99, 100, 101, 102, 103, 104, 105, 106, 402, 403, 404, 405, 406, 407, 408, 409, 410, 411, 412, 413, 414, 415, 416, 417, 418, 419, 420, 421, 422, 423] (by decide +kernel) (by decide +kernel)
set_option maxRecDepth 20000 in
theorem gL_law_X5_meter : GoodIn wsL_law (wsV RL 104 RX5 yX5_meter wsX5_meter) := goodIn_app (goodIn_of _ (by decide +kernel)) ggL_law_X5_meter
set_option maxRecDepth 20000 in
theorem ggL_law_L_isSuspected : GoodIn wsL_law wsL_isSuspected := goodIn_ca (goodIn_r _ [348, 74, 349, 350, 351, 2, 352, 80, 81, 24, 85, 86, 87, 395, 396, 397, 398, 399, 400, 401, 437, 438, 439, 440, 441] (by decide +kernel) (by decide +kernel)) (goodIn_sub (fun _ h => List.mem_append_left _ (List.mem_append_left _ (List.mem_append_right _ h))) (by decide +kernel))
set_option maxRecDepth 20000 in
theorem gL_law_L_isSuspected : GoodIn wsL_law (va_wsS RL 105 yL_isSuspected wsL_isSuspected) := goodIn_app (goodIn_of _ (by decide +kernel)) ggL_law_L_isSuspected
set_option maxRecDepth 20000 in
theorem ggL_law_X5_isSuspected : GoodIn wsL_law wsX5_isSuspected := goodIn_r _ [356, 69, 96, 97, 5, 98, 99, 100, 101, 102, 103, 104, 105, 106, 402, 403, 404, 405, 406, 407, 408, 409, 410, 411, 412, 413, 414, 415, 416, 417, 418, 419, 420, 421, 422, 423] (by decide +kernel) (by decide +kernel)
set_option maxRecDepth 20000 in
theorem gL_law_X5_isSuspected : GoodIn wsL_law (wsV RL 107 RX5 yX5_isSuspected wsX5_isSuspected) := goodIn_app (goodIn_of _ (by decide +kernel)) ggL_law_X5_isSuspected
set_option maxRecDepth 20000 in
theorem ggL_law_X4_losses : GoodIn wsL_law wsX4_losses := goodIn_r _ [360, 196, 395, 396, 397, 398, 399, 400, 401] (by decide +kernel) (by decide +kernel)
set_option maxRecDepth 20000 in
theorem gL_law_X4_losses : GoodIn wsL_law (wsV RL 108 RX4 yX4_losses wsX4_losses) := goodIn_app (goodIn_of _ (by decide +kernel)) ggL_law_X4_losses
set_option maxRecDepth 20000 in
theorem ggL_law_X5_losses : GoodIn wsL_law wsX5_losses := goodIn_r _ [364, 106, 275, 402, 403, 404, 405, 406, 407, 408, 409, 410, 411, 412, 413, 414, 415, 416, 417, 418, 419, 420, 421, 422, 423] (by decide +kernel) (by decide +kernel)
set_option maxRecDepth 20000 in
theorem gL_law_X5_losses : GoodIn wsL_law (wsV RL 111 RX5 yX5_losses wsX5_losses) := goodIn_app (goodIn_of _ (by decide +kernel)) ggL_law_X5_losses
set_option maxRecDepth 20000 in
theorem ggL_law_L_bill : GoodIn wsL_law wsL_bill := goodIn_ca (goodIn_r _ [367, 74, 368, 369, 370, 2, 371, 80, 81, 26, 85, 86, 87, 395, 396, 397, 398, 399, 400, 401] (by decide +kernel) (by decide +kernel)) (goodIn_sub (fun _ h => List.mem_append_left _ (List.mem_append_left _ (List.mem_append_right _ h))) (by decide +kernel))
set_option maxRecDepth 20000 in
theorem gL_law_L_bill : GoodIn wsL_law (va_wsS RL 112 yL_bill wsL_bill) := goodIn_app (goodIn_of _ (by decide +kernel)) ggL_law_L_bill
set_option maxRecDepth 20000 in
theorem ggL_law_X5_bill : GoodIn wsL_law wsX5_bill := goodIn_r _ [375, 59, 96, 97, 5, 98, 99, 100, 101, 102, 103, 104, 105, 106, 402, 403, 404, 405, 406, 407, 408, 409, 410, 411, 412, 413, 414, 415, 416, 417, 418, 419, 420, 421, 422, 423] (by decide +kernel) (by decide +kernel)
set_option maxRecDepth 20000 in
theorem gL_law_X5_bill : GoodIn wsL_law (wsV RL 114 RX5 yX5_bill wsX5_bill) := goodIn_app (goodIn_of _ (by decide +kernel)) ggL_law_X5_bill
set_option maxRecDepth 20000 in
theorem ggL_law_X4_cost : GoodIn wsL_law wsX4_cost := goodIn_r _ [379, 20, 395, 396, 397, 398, 399, 400, 401, 433, 434, 435, 436] (by decide +kernel) (by decide +kernel)
set_option maxRecDepth 20000 in
theorem gL_law_X4_cost : GoodIn wsL_law (wsV RL 115 RX4 yX4_cost wsX4_cost) := goodIn_app (goodIn_of _ (by decide +kernel)) ggL_law_X4_cost
set_option maxRecDepth 20000 in
theorem ggL_law_X5_cost : GoodIn wsL_law wsX5_cost := goodIn_r _ [383, 106, 266, 402, 403, 404, 405, 406, 407, 408, 409, 410, 411, 412, 413, 414, 415, 416, 417, 418, 419, 420, 421, 422, 423] (by decide +kernel) (by decide +kernel)
set_option maxRecDepth 20000 in
theorem gL_law_X5_cost : GoodIn wsL_law (wsV RL 118 RX5 yX5_cost wsX5_cost) := goodIn_app (goodIn_of _ (by decide +kernel)) ggL_law_X5_cost
set_option maxRecDepth 20000 in
theorem ggL_law_L_isOpen : GoodIn wsL_law wsL_isOpen := goodIn_ca (goodIn_r _ [386, 74, 387, 388, 389, 2, 390, 80, 81, 16, 85, 86, 87, 395, 396, 397, 398, 399, 400, 401, 424, 425, 426, 427, 428, 429, 430, 431, 432] (by decide +kernel) (by decide +kernel)) (goodIn_sub (fun _ h => List.mem_append_left _ (List.mem_append_left _ (List.mem_append_right _ h))) (by decide +kernel))
set_option maxRecDepth 20000 in
theorem gL_law_L_isOpen : GoodIn wsL_law (va_wsS RL 119 yL_isOpen wsL_isOpen) := goodIn_app (goodIn_of _ (by decide +kernel)) ggL_law_L_isOpen
set_option maxRecDepth 20000 in
theorem ggL_law_X5_isOpen : GoodIn wsL_law wsX5_isOpen := goodIn_r _ [394, 58, 96, 97, 5, 98, 99, 100, 101, 102, 103, 104, 105, 106, 402, 403, 404, 405, 406, 407, 408, 409, 410, 411, 412, 413, 414, 415, 416, 417, 418, 419, 420, 421, 422, 423] (by decide +kernel) (by decide +kernel)
set_option maxRecDepth 20000 in
theorem gL_law_X5_isOpen : GoodIn wsL_law (wsV RL 121 RX5 yX5_isOpen wsX5_isOpen) := goodIn_app (goodIn_of _ (by decide +kernel)) ggL_law_X5_isOpen
