theorem dX0_init_0 : decode cX0_init 0 = .ok (.aload_n 0, 1) := by decide +kernel
theorem dX0_init_1 : decode cX0_init 1 = .ok (.invokespecial 1, 3) := by decide +kernel
theorem dX0_init_4 : decode cX0_init 4 = .ok (.aload_n 0, 1) := by decide +kernel
theorem dX0_init_5 : decode cX0_init 5 = .ok (.iload_n 1, 1) := by decide +kernel
theorem dX0_init_6 : decode cX0_init 6 = .ok (.putfield 7, 3) := by decide +kernel
theorem dX0_init_9 : decode cX0_init 9 = .ok (.aload_n 0, 1) := by decide +kernel
theorem dX0_init_10 : decode cX0_init 10 = .ok (.iload_n 2, 1) := by decide +kernel
theorem dX0_init_11 : decode cX0_init 11 = .ok (.putfield 13, 3) := by decide +kernel
theorem dX0_init_14 : decode cX0_init 14 = .ok (.aload_n 0, 1) := by decide +kernel
theorem dX0_init_15 : decode cX0_init 15 = .ok (.iload_n 3, 1) := by decide +kernel
theorem dX0_init_16 : decode cX0_init 16 = .ok (.putfield 16, 3) := by decide +kernel
theorem dX0_init_19 : decode cX0_init 19 = .ok (.aload_n 0, 1) := by decide +kernel
theorem dX0_init_20 : decode cX0_init 20 = .ok (.iload 4, 2) := by decide +kernel
theorem dX0_init_22 : decode cX0_init 22 = .ok (.putfield 19, 3) := by decide +kernel
theorem dX0_init_25 : decode cX0_init 25 = .ok (.return_, 1) := by decide +kernel
theorem dX0_fireFor_0 : decode cX0_fireFor 0 = .ok (.aload_n 0, 1) := by decide +kernel
theorem dX0_fireFor_1 : decode cX0_fireFor 1 = .ok (.iconst 0, 1) := by decide +kernel
theorem dX0_fireFor_2 : decode cX0_fireFor 2 = .ok (.putfield 22, 3) := by decide +kernel
theorem dX0_fireFor_5 : decode cX0_fireFor 5 = .ok (.aload_n 0, 1) := by decide +kernel
theorem dX0_fireFor_6 : decode cX0_fireFor 6 = .ok (.getfield 22, 3) := by decide +kernel
theorem dX0_fireFor_9 : decode cX0_fireFor 9 = .ok (.aload_n 0, 1) := by decide +kernel
theorem dX0_fireFor_10 : decode cX0_fireFor 10 = .ok (.getfield 13, 3) := by decide +kernel
theorem dX0_fireFor_13 : decode cX0_fireFor 13 = .ok (.if_icmp .ge 29, 3) := by decide +kernel
theorem dX0_fireFor_16 : decode cX0_fireFor 16 = .ok (.aload_n 0, 1) := by decide +kernel
theorem dX0_fireFor_17 : decode cX0_fireFor 17 = .ok (.getfield 22, 3) := by decide +kernel
theorem dX0_fireFor_20 : decode cX0_fireFor 20 = .ok (.aload_n 0, 1) := by decide +kernel
theorem dX0_fireFor_21 : decode cX0_fireFor 21 = .ok (.getfield 16, 3) := by decide +kernel
theorem dX0_fireFor_24 : decode cX0_fireFor 24 = .ok (.imul, 1) := by decide +kernel
theorem dX0_fireFor_25 : decode cX0_fireFor 25 = .ok (.iload_n 1, 1) := by decide +kernel
theorem dX0_fireFor_26 : decode cX0_fireFor 26 = .ok (.if_icmp .ge 16, 3) := by decide +kernel
theorem dX0_fireFor_29 : decode cX0_fireFor 29 = .ok (.aload_n 0, 1) := by decide +kernel
theorem dX0_fireFor_30 : decode cX0_fireFor 30 = .ok (.dup, 1) := by decide +kernel
theorem dX0_fireFor_31 : decode cX0_fireFor 31 = .ok (.getfield 22, 3) := by decide +kernel
theorem dX0_fireFor_34 : decode cX0_fireFor 34 = .ok (.iconst 1, 1) := by decide +kernel
theorem dX0_fireFor_35 : decode cX0_fireFor 35 = .ok (.iadd, 1) := by decide +kernel
theorem dX0_fireFor_36 : decode cX0_fireFor 36 = .ok (.putfield 22, 3) := by decide +kernel
theorem dX0_fireFor_39 : decode cX0_fireFor 39 = .ok (.goto (-34), 3) := by decide +kernel
theorem dX0_fireFor_42 : decode cX0_fireFor 42 = .ok (.iload_n 1, 1) := by decide +kernel
theorem dX0_fireFor_43 : decode cX0_fireFor 43 = .ok (.aload_n 0, 1) := by decide +kernel
theorem dX0_fireFor_44 : decode cX0_fireFor 44 = .ok (.getfield 22, 3) := by decide +kernel
theorem dX0_fireFor_47 : decode cX0_fireFor 47 = .ok (.aload_n 0, 1) := by decide +kernel
theorem dX0_fireFor_48 : decode cX0_fireFor 48 = .ok (.getfield 16, 3) := by decide +kernel
theorem dX0_fireFor_51 : decode cX0_fireFor 51 = .ok (.imul, 1) := by decide +kernel
theorem dX0_fireFor_52 : decode cX0_fireFor 52 = .ok (.invokestatic 25, 3) := by decide +kernel
theorem dX0_fireFor_55 : decode cX0_fireFor 55 = .ok (.ireturn, 1) := by decide +kernel
theorem dX1_init_0 : decode cX1_init 0 = .ok (.aload_n 0, 1) := by decide +kernel
theorem dX1_init_1 : decode cX1_init 1 = .ok (.invokespecial 3, 3) := by decide +kernel
theorem dX1_init_4 : decode cX1_init 4 = .ok (.aload_n 0, 1) := by decide +kernel
theorem dX1_init_5 : decode cX1_init 5 = .ok (.bipush 12, 2) := by decide +kernel
theorem dX1_init_7 : decode cX1_init 7 = .ok (.newarray .int, 2) := by decide +kernel
theorem dX1_init_9 : decode cX1_init 9 = .ok (.putfield 9, 3) := by decide +kernel
theorem dX1_init_12 : decode cX1_init 12 = .ok (.aload_n 0, 1) := by decide +kernel
theorem dX1_init_13 : decode cX1_init 13 = .ok (.bipush 12, 2) := by decide +kernel
theorem dX1_init_15 : decode cX1_init 15 = .ok (.newarray .int, 2) := by decide +kernel
theorem dX1_init_17 : decode cX1_init 17 = .ok (.putfield 15, 3) := by decide +kernel
theorem dX1_init_20 : decode cX1_init 20 = .ok (.aload_n 0, 1) := by decide +kernel
theorem dX1_init_21 : decode cX1_init 21 = .ok (.bipush 12, 2) := by decide +kernel
theorem dX1_init_23 : decode cX1_init 23 = .ok (.newarray .boolean, 2) := by decide +kernel
theorem dX1_init_25 : decode cX1_init 25 = .ok (.putfield 18, 3) := by decide +kernel
theorem dX1_init_28 : decode cX1_init 28 = .ok (.aload_n 0, 1) := by decide +kernel
theorem dX1_init_29 : decode cX1_init 29 = .ok (.bipush 12, 2) := by decide +kernel
theorem dX1_init_31 : decode cX1_init 31 = .ok (.newarray .int, 2) := by decide +kernel
theorem dX1_init_33 : decode cX1_init 33 = .ok (.putfield 22, 3) := by decide +kernel
theorem dX1_init_36 : decode cX1_init 36 = .ok (.aload_n 0, 1) := by decide +kernel
theorem dX1_init_37 : decode cX1_init 37 = .ok (.bipush 12, 2) := by decide +kernel
theorem dX1_init_39 : decode cX1_init 39 = .ok (.newarray .int, 2) := by decide +kernel
theorem dX1_init_41 : decode cX1_init 41 = .ok (.putfield 25, 3) := by decide +kernel
theorem dX1_init_44 : decode cX1_init 44 = .ok (.return_, 1) := by decide +kernel
set_option maxRecDepth 20000 in
theorem ggX1_read_X4_isHouse : GoodIn wsX1_read wsX4_isHouse := goodIn_r _ [8] (by decide +kernel) (by decide +kernel)
set_option maxRecDepth 20000 in
theorem gX1_read_X4_isHouse_n39 : GoodIn wsX1_read (wsX4_isHouse) := ggX1_read_X4_isHouse
set_option maxRecDepth 20000 in
theorem ggX1_read_X2_carriedLoss : GoodIn wsX1_read wsX2_carriedLoss := goodIn_r _ [12, 13, 14, 6, 7, 8, 20, 21, 22, 23, 24, 25, 26, 27, 28] (by decide +kernel) (by decide +kernel)
set_option maxRecDepth 20000 in
theorem gX1_read_X2_carriedLoss_n43 : GoodIn wsX1_read (wsX2_carriedLoss) := ggX1_read_X2_carriedLoss
theorem dX1_read_0 : decode cX1_read 0 = .ok (.iconst 1, 1) := by decide +kernel
theorem dX1_read_1 : decode cX1_read 1 = .ok (.istore_n 2, 1) := by decide +kernel
theorem dX1_read_2 : decode cX1_read 2 = .ok (.iload_n 2, 1) := by decide +kernel
theorem dX1_read_3 : decode cX1_read 3 = .ok (.bipush 12, 2) := by decide +kernel
theorem dX1_read_5 : decode cX1_read 5 = .ok (.if_icmp .ge 33, 3) := by decide +kernel
theorem dX1_read_8 : decode cX1_read 8 = .ok (.aload_n 0, 1) := by decide +kernel
theorem dX1_read_9 : decode cX1_read 9 = .ok (.getfield 22, 3) := by decide +kernel
theorem dX1_read_12 : decode cX1_read 12 = .ok (.iload_n 2, 1) := by decide +kernel
theorem dX1_read_13 : decode cX1_read 13 = .ok (.aload_n 1, 1) := by decide +kernel
theorem dX1_read_14 : decode cX1_read 14 = .ok (.getfield 28, 3) := by decide +kernel
theorem dX1_read_17 : decode cX1_read 17 = .ok (.iload_n 2, 1) := by decide +kernel
theorem dX1_read_18 : decode cX1_read 18 = .ok (.iaload, 1) := by decide +kernel
theorem dX1_read_19 : decode cX1_read 19 = .ok (.iastore, 1) := by decide +kernel
theorem dX1_read_20 : decode cX1_read 20 = .ok (.aload_n 0, 1) := by decide +kernel
theorem dX1_read_21 : decode cX1_read 21 = .ok (.getfield 25, 3) := by decide +kernel
theorem dX1_read_24 : decode cX1_read 24 = .ok (.iload_n 2, 1) := by decide +kernel
theorem dX1_read_25 : decode cX1_read 25 = .ok (.aload_n 1, 1) := by decide +kernel
theorem dX1_read_26 : decode cX1_read 26 = .ok (.getfield 28, 3) := by decide +kernel
theorem dX1_read_29 : decode cX1_read 29 = .ok (.iload_n 2, 1) := by decide +kernel
theorem dX1_read_30 : decode cX1_read 30 = .ok (.iaload, 1) := by decide +kernel
theorem dX1_read_31 : decode cX1_read 31 = .ok (.iastore, 1) := by decide +kernel
theorem dX1_read_32 : decode cX1_read 32 = .ok (.iinc 2 1, 3) := by decide +kernel
theorem dX1_read_35 : decode cX1_read 35 = .ok (.goto (-33), 3) := by decide +kernel
theorem dX1_read_38 : decode cX1_read 38 = .ok (.bipush 11, 2) := by decide +kernel
theorem dX1_read_40 : decode cX1_read 40 = .ok (.istore_n 2, 1) := by decide +kernel
theorem dX1_read_41 : decode cX1_read 41 = .ok (.iload_n 2, 1) := by decide +kernel
theorem dX1_read_42 : decode cX1_read 42 = .ok (.iconst 1, 1) := by decide +kernel
theorem dX1_read_43 : decode cX1_read 43 = .ok (.if_icmp .lt 124, 3) := by decide +kernel
theorem dX1_read_46 : decode cX1_read 46 = .ok (.aload_n 0, 1) := by decide +kernel
theorem dX1_read_47 : decode cX1_read 47 = .ok (.getfield 15, 3) := by decide +kernel
theorem dX1_read_50 : decode cX1_read 50 = .ok (.iload_n 2, 1) := by decide +kernel
theorem dX1_read_51 : decode cX1_read 51 = .ok (.aload_n 1, 1) := by decide +kernel
theorem dX1_read_52 : decode cX1_read 52 = .ok (.getfield 33, 3) := by decide +kernel
theorem dX1_read_55 : decode cX1_read 55 = .ok (.iload_n 2, 1) := by decide +kernel
theorem dX1_read_56 : decode cX1_read 56 = .ok (.baload, 1) := by decide +kernel
theorem dX1_read_57 : decode cX1_read 57 = .ok (.ifCond .eq 19, 3) := by decide +kernel
theorem dX1_read_60 : decode cX1_read 60 = .ok (.aload_n 0, 1) := by decide +kernel
theorem dX1_read_61 : decode cX1_read 61 = .ok (.getfield 22, 3) := by decide +kernel
theorem dX1_read_64 : decode cX1_read 64 = .ok (.iload_n 2, 1) := by decide +kernel
theorem dX1_read_65 : decode cX1_read 65 = .ok (.iaload, 1) := by decide +kernel
theorem dX1_read_66 : decode cX1_read 66 = .ok (.aload_n 0, 1) := by decide +kernel
theorem dX1_read_67 : decode cX1_read 67 = .ok (.getfield 9, 3) := by decide +kernel
theorem dX1_read_70 : decode cX1_read 70 = .ok (.iload_n 2, 1) := by decide +kernel
theorem dX1_read_71 : decode cX1_read 71 = .ok (.iaload, 1) := by decide +kernel
theorem dX1_read_72 : decode cX1_read 72 = .ok (.iadd, 1) := by decide +kernel
theorem dX1_read_73 : decode cX1_read 73 = .ok (.goto 4, 3) := by decide +kernel
theorem dX1_read_76 : decode cX1_read 76 = .ok (.iconst 0, 1) := by decide +kernel
theorem dX1_read_77 : decode cX1_read 77 = .ok (.iastore, 1) := by decide +kernel
theorem dX1_read_78 : decode cX1_read 78 = .ok (.aload_n 0, 1) := by decide +kernel
theorem dX1_read_79 : decode cX1_read 79 = .ok (.getfield 18, 3) := by decide +kernel
theorem dX1_read_82 : decode cX1_read 82 = .ok (.iload_n 2, 1) := by decide +kernel
theorem dX1_read_83 : decode cX1_read 83 = .ok (.aload_n 0, 1) := by decide +kernel
theorem dX1_read_84 : decode cX1_read 84 = .ok (.getfield 15, 3) := by decide +kernel
theorem dX1_read_87 : decode cX1_read 87 = .ok (.iload_n 2, 1) := by decide +kernel
theorem dX1_read_88 : decode cX1_read 88 = .ok (.iaload, 1) := by decide +kernel
theorem dX1_read_89 : decode cX1_read 89 = .ok (.aload_n 0, 1) := by decide +kernel
theorem dX1_read_90 : decode cX1_read 90 = .ok (.getfield 25, 3) := by decide +kernel
theorem dX1_read_93 : decode cX1_read 93 = .ok (.iload_n 2, 1) := by decide +kernel
theorem dX1_read_94 : decode cX1_read 94 = .ok (.iaload, 1) := by decide +kernel
theorem dX1_read_95 : decode cX1_read 95 = .ok (.if_icmp .eq 7, 3) := by decide +kernel
theorem dX1_read_98 : decode cX1_read 98 = .ok (.iconst 1, 1) := by decide +kernel
theorem dX1_read_99 : decode cX1_read 99 = .ok (.goto 4, 3) := by decide +kernel
theorem dX1_read_102 : decode cX1_read 102 = .ok (.iconst 0, 1) := by decide +kernel
theorem dX1_read_103 : decode cX1_read 103 = .ok (.bastore, 1) := by decide +kernel
theorem dX1_read_104 : decode cX1_read 104 = .ok (.aload_n 1, 1) := by decide +kernel
theorem dX1_read_105 : decode cX1_read 105 = .ok (.getfield 36, 3) := by decide +kernel
theorem dX1_read_108 : decode cX1_read 108 = .ok (.iload_n 2, 1) := by decide +kernel
theorem dX1_read_109 : decode cX1_read 109 = .ok (.iaload, 1) := by decide +kernel
theorem dX1_read_110 : decode cX1_read 110 = .ok (.istore_n 3, 1) := by decide +kernel
theorem dX1_read_111 : decode cX1_read 111 = .ok (.iload_n 3, 1) := by decide +kernel
theorem dX1_read_112 : decode cX1_read 112 = .ok (.invokestatic 39, 3) := by decide +kernel
theorem dX1_read_115 : decode cX1_read 115 = .ok (.ifCond .eq 46, 3) := by decide +kernel
theorem dX1_read_118 : decode cX1_read 118 = .ok (.aload_n 1, 1) := by decide +kernel
theorem dX1_read_119 : decode cX1_read 119 = .ok (.iload_n 2, 1) := by decide +kernel
theorem dX1_read_120 : decode cX1_read 120 = .ok (.invokevirtual 43, 3) := by decide +kernel
theorem dX1_read_123 : decode cX1_read 123 = .ok (.istore 4, 2) := by decide +kernel
theorem dX1_read_125 : decode cX1_read 125 = .ok (.aload_n 0, 1) := by decide +kernel
theorem dX1_read_126 : decode cX1_read 126 = .ok (.getfield 22, 3) := by decide +kernel
theorem dX1_read_129 : decode cX1_read 129 = .ok (.iload_n 3, 1) := by decide +kernel
theorem dX1_read_130 : decode cX1_read 130 = .ok (.dup2, 1) := by decide +kernel
theorem dX1_read_131 : decode cX1_read 131 = .ok (.iaload, 1) := by decide +kernel
theorem dX1_read_132 : decode cX1_read 132 = .ok (.aload_n 0, 1) := by decide +kernel
theorem dX1_read_133 : decode cX1_read 133 = .ok (.getfield 22, 3) := by decide +kernel
theorem dX1_read_136 : decode cX1_read 136 = .ok (.iload_n 2, 1) := by decide +kernel
theorem dX1_read_137 : decode cX1_read 137 = .ok (.iaload, 1) := by decide +kernel
theorem dX1_read_138 : decode cX1_read 138 = .ok (.iload 4, 2) := by decide +kernel
theorem dX1_read_140 : decode cX1_read 140 = .ok (.iadd, 1) := by decide +kernel
theorem dX1_read_141 : decode cX1_read 141 = .ok (.iadd, 1) := by decide +kernel
theorem dX1_read_142 : decode cX1_read 142 = .ok (.iastore, 1) := by decide +kernel
theorem dX1_read_143 : decode cX1_read 143 = .ok (.aload_n 0, 1) := by decide +kernel
theorem dX1_read_144 : decode cX1_read 144 = .ok (.getfield 25, 3) := by decide +kernel
theorem dX1_read_147 : decode cX1_read 147 = .ok (.iload_n 3, 1) := by decide +kernel
theorem dX1_read_148 : decode cX1_read 148 = .ok (.dup2, 1) := by decide +kernel
theorem dX1_read_149 : decode cX1_read 149 = .ok (.iaload, 1) := by decide +kernel
theorem dX1_read_150 : decode cX1_read 150 = .ok (.aload_n 0, 1) := by decide +kernel
theorem dX1_read_151 : decode cX1_read 151 = .ok (.getfield 15, 3) := by decide +kernel
theorem dX1_read_154 : decode cX1_read 154 = .ok (.iload_n 2, 1) := by decide +kernel
theorem dX1_read_155 : decode cX1_read 155 = .ok (.iaload, 1) := by decide +kernel
theorem dX1_read_156 : decode cX1_read 156 = .ok (.iload 4, 2) := by decide +kernel
theorem dX1_read_158 : decode cX1_read 158 = .ok (.iadd, 1) := by decide +kernel
theorem dX1_read_159 : decode cX1_read 159 = .ok (.iadd, 1) := by decide +kernel
theorem dX1_read_160 : decode cX1_read 160 = .ok (.iastore, 1) := by decide +kernel
theorem dX1_read_161 : decode cX1_read 161 = .ok (.iinc 2 (-1), 3) := by decide +kernel
theorem dX1_read_164 : decode cX1_read 164 = .ok (.goto (-123), 3) := by decide +kernel
theorem dX1_read_167 : decode cX1_read 167 = .ok (.return_, 1) := by decide +kernel
theorem dX2_init_0 : decode cX2_init 0 = .ok (.aload_n 0, 1) := by decide +kernel
theorem dX2_init_1 : decode cX2_init 1 = .ok (.invokespecial 3, 3) := by decide +kernel
theorem dX2_init_4 : decode cX2_init 4 = .ok (.aload_n 0, 1) := by decide +kernel
theorem dX2_init_5 : decode cX2_init 5 = .ok (.bipush 12, 2) := by decide +kernel
theorem dX2_init_7 : decode cX2_init 7 = .ok (.newarray .int, 2) := by decide +kernel
theorem dX2_init_9 : decode cX2_init 9 = .ok (.putfield 9, 3) := by decide +kernel
theorem dX2_init_12 : decode cX2_init 12 = .ok (.aload_n 0, 1) := by decide +kernel
theorem dX2_init_13 : decode cX2_init 13 = .ok (.bipush 12, 2) := by decide +kernel
theorem dX2_init_15 : decode cX2_init 15 = .ok (.newarray .int, 2) := by decide +kernel
theorem dX2_init_17 : decode cX2_init 17 = .ok (.putfield 15, 3) := by decide +kernel
theorem dX2_init_20 : decode cX2_init 20 = .ok (.aload_n 0, 1) := by decide +kernel
theorem dX2_init_21 : decode cX2_init 21 = .ok (.bipush 12, 2) := by decide +kernel
theorem dX2_init_23 : decode cX2_init 23 = .ok (.newarray .int, 2) := by decide +kernel
theorem dX2_init_25 : decode cX2_init 25 = .ok (.putfield 18, 3) := by decide +kernel
theorem dX2_init_28 : decode cX2_init 28 = .ok (.aload_n 0, 1) := by decide +kernel
theorem dX2_init_29 : decode cX2_init 29 = .ok (.bipush 12, 2) := by decide +kernel
theorem dX2_init_31 : decode cX2_init 31 = .ok (.newarray .int, 2) := by decide +kernel
theorem dX2_init_33 : decode cX2_init 33 = .ok (.putfield 21, 3) := by decide +kernel
theorem dX2_init_36 : decode cX2_init 36 = .ok (.aload_n 0, 1) := by decide +kernel
theorem dX2_init_37 : decode cX2_init 37 = .ok (.bipush 12, 2) := by decide +kernel
theorem dX2_init_39 : decode cX2_init 39 = .ok (.newarray .int, 2) := by decide +kernel
theorem dX2_init_41 : decode cX2_init 41 = .ok (.putfield 24, 3) := by decide +kernel
theorem dX2_init_44 : decode cX2_init 44 = .ok (.aload_n 0, 1) := by decide +kernel
theorem dX2_init_45 : decode cX2_init 45 = .ok (.bipush 12, 2) := by decide +kernel
theorem dX2_init_47 : decode cX2_init 47 = .ok (.newarray .boolean, 2) := by decide +kernel
theorem dX2_init_49 : decode cX2_init 49 = .ok (.putfield 27, 3) := by decide +kernel
theorem dX2_init_52 : decode cX2_init 52 = .ok (.aload_n 0, 1) := by decide +kernel
theorem dX2_init_53 : decode cX2_init 53 = .ok (.bipush 12, 2) := by decide +kernel
theorem dX2_init_55 : decode cX2_init 55 = .ok (.newarray .boolean, 2) := by decide +kernel
theorem dX2_init_57 : decode cX2_init 57 = .ok (.putfield 31, 3) := by decide +kernel
theorem dX2_init_60 : decode cX2_init 60 = .ok (.aload_n 0, 1) := by decide +kernel
theorem dX2_init_61 : decode cX2_init 61 = .ok (.bipush 12, 2) := by decide +kernel
theorem dX2_init_63 : decode cX2_init 63 = .ok (.newarray .int, 2) := by decide +kernel
theorem dX2_init_65 : decode cX2_init 65 = .ok (.putfield 34, 3) := by decide +kernel
theorem dX2_init_68 : decode cX2_init 68 = .ok (.iconst 1, 1) := by decide +kernel
theorem dX2_init_69 : decode cX2_init 69 = .ok (.istore_n 1, 1) := by decide +kernel
theorem dX2_init_70 : decode cX2_init 70 = .ok (.iload_n 1, 1) := by decide +kernel
theorem dX2_init_71 : decode cX2_init 71 = .ok (.bipush 12, 2) := by decide +kernel
theorem dX2_init_73 : decode cX2_init 73 = .ok (.if_icmp .ge 16, 3) := by decide +kernel
theorem dX2_init_76 : decode cX2_init 76 = .ok (.aload_n 0, 1) := by decide +kernel
theorem dX2_init_77 : decode cX2_init 77 = .ok (.getfield 15, 3) := by decide +kernel
theorem dX2_init_80 : decode cX2_init 80 = .ok (.iload_n 1, 1) := by decide +kernel
theorem dX2_init_81 : decode cX2_init 81 = .ok (.iconst 1, 1) := by decide +kernel
theorem dX2_init_82 : decode cX2_init 82 = .ok (.iastore, 1) := by decide +kernel
theorem dX2_init_83 : decode cX2_init 83 = .ok (.iinc 1 1, 3) := by decide +kernel
theorem dX2_init_86 : decode cX2_init 86 = .ok (.goto (-16), 3) := by decide +kernel
theorem dX2_init_89 : decode cX2_init 89 = .ok (.return_, 1) := by decide +kernel
set_option maxRecDepth 20000 in
theorem ggX2_survey_X2_markHeated : GoodIn wsX2_survey wsX2_markHeated := goodIn_r _ [9, 10, 2, 11, 12, 13, 14, 27, 28, 29, 30, 31, 32, 33, 34, 35] (by decide +kernel) (by decide +kernel)
set_option maxRecDepth 20000 in
theorem gX2_survey_X2_markHeated : GoodIn wsX2_survey (wsV RX2 37 RX2 yX2_markHeated wsX2_markHeated) := goodIn_app (goodIn_of _ (by decide +kernel)) ggX2_survey_X2_markHeated
set_option maxRecDepth 20000 in
theorem ggX2_survey_X4_wantedHeat : GoodIn wsX2_survey wsX4_wantedHeat := goodIn_r _ [16] (by decide +kernel) (by decide +kernel)
set_option maxRecDepth 20000 in
theorem gX2_survey_X4_wantedHeat_n40 : GoodIn wsX2_survey (wsX4_wantedHeat) := ggX2_survey_X4_wantedHeat
set_option maxRecDepth 20000 in
theorem ggX2_survey_X2_markCarries : GoodIn wsX2_survey wsX2_markCarries := goodIn_r _ [20, 21, 1, 10, 12, 13, 14, 27, 28, 29, 30, 31, 32, 33, 34, 35] (by decide +kernel) (by decide +kernel)
set_option maxRecDepth 20000 in
theorem gX2_survey_X2_markCarries : GoodIn wsX2_survey (wsV RX2 44 RX2 yX2_markCarries wsX2_markCarries) := goodIn_app (goodIn_of _ (by decide +kernel)) ggX2_survey_X2_markCarries
set_option maxRecDepth 20000 in
theorem ggX2_survey_X2_carriedLoss : GoodIn wsX2_survey wsX2_carriedLoss := goodIn_r _ [25, 21, 26, 12, 13, 14, 27, 28, 29, 30, 31, 32, 33, 34, 35] (by decide +kernel) (by decide +kernel)
set_option maxRecDepth 20000 in
theorem gX2_survey_X2_carriedLoss : GoodIn wsX2_survey (wsV RX2 51 RX2 yX2_carriedLoss wsX2_carriedLoss) := goodIn_app (goodIn_of _ (by decide +kernel)) ggX2_survey_X2_carriedLoss
theorem dX2_survey_0 : decode cX2_survey 0 = .ok (.aload_n 0, 1) := by decide +kernel
theorem dX2_survey_1 : decode cX2_survey 1 = .ok (.invokevirtual 37, 3) := by decide +kernel
theorem dX2_survey_4 : decode cX2_survey 4 = .ok (.iconst 0, 1) := by decide +kernel
theorem dX2_survey_5 : decode cX2_survey 5 = .ok (.istore_n 2, 1) := by decide +kernel
theorem dX2_survey_6 : decode cX2_survey 6 = .ok (.iconst 1, 1) := by decide +kernel
theorem dX2_survey_7 : decode cX2_survey 7 = .ok (.istore_n 3, 1) := by decide +kernel
theorem dX2_survey_8 : decode cX2_survey 8 = .ok (.iload_n 3, 1) := by decide +kernel
theorem dX2_survey_9 : decode cX2_survey 9 = .ok (.bipush 12, 2) := by decide +kernel
theorem dX2_survey_11 : decode cX2_survey 11 = .ok (.if_icmp .ge 47, 3) := by decide +kernel
theorem dX2_survey_14 : decode cX2_survey 14 = .ok (.aload_n 0, 1) := by decide +kernel
theorem dX2_survey_15 : decode cX2_survey 15 = .ok (.getfield 34, 3) := by decide +kernel
theorem dX2_survey_18 : decode cX2_survey 18 = .ok (.iload_n 3, 1) := by decide +kernel
theorem dX2_survey_19 : decode cX2_survey 19 = .ok (.aload_n 0, 1) := by decide +kernel
theorem dX2_survey_20 : decode cX2_survey 20 = .ok (.getfield 27, 3) := by decide +kernel
theorem dX2_survey_23 : decode cX2_survey 23 = .ok (.iload_n 3, 1) := by decide +kernel
theorem dX2_survey_24 : decode cX2_survey 24 = .ok (.baload, 1) := by decide +kernel
theorem dX2_survey_25 : decode cX2_survey 25 = .ok (.ifCond .eq 16, 3) := by decide +kernel
theorem dX2_survey_28 : decode cX2_survey 28 = .ok (.aload_n 0, 1) := by decide +kernel
theorem dX2_survey_29 : decode cX2_survey 29 = .ok (.getfield 18, 3) := by decide +kernel
theorem dX2_survey_32 : decode cX2_survey 32 = .ok (.iload_n 3, 1) := by decide +kernel
theorem dX2_survey_33 : decode cX2_survey 33 = .ok (.iaload, 1) := by decide +kernel
theorem dX2_survey_34 : decode cX2_survey 34 = .ok (.iload_n 1, 1) := by decide +kernel
theorem dX2_survey_35 : decode cX2_survey 35 = .ok (.invokestatic 40, 3) := by decide +kernel
theorem dX2_survey_38 : decode cX2_survey 38 = .ok (.goto 4, 3) := by decide +kernel
theorem dX2_survey_41 : decode cX2_survey 41 = .ok (.iconst 0, 1) := by decide +kernel
theorem dX2_survey_42 : decode cX2_survey 42 = .ok (.iastore, 1) := by decide +kernel
theorem dX2_survey_43 : decode cX2_survey 43 = .ok (.iload_n 2, 1) := by decide +kernel
theorem dX2_survey_44 : decode cX2_survey 44 = .ok (.aload_n 0, 1) := by decide +kernel
theorem dX2_survey_45 : decode cX2_survey 45 = .ok (.getfield 34, 3) := by decide +kernel
theorem dX2_survey_48 : decode cX2_survey 48 = .ok (.iload_n 3, 1) := by decide +kernel
theorem dX2_survey_49 : decode cX2_survey 49 = .ok (.iaload, 1) := by decide +kernel
theorem dX2_survey_50 : decode cX2_survey 50 = .ok (.iadd, 1) := by decide +kernel
theorem dX2_survey_51 : decode cX2_survey 51 = .ok (.istore_n 2, 1) := by decide +kernel
theorem dX2_survey_52 : decode cX2_survey 52 = .ok (.iinc 3 1, 3) := by decide +kernel
theorem dX2_survey_55 : decode cX2_survey 55 = .ok (.goto (-47), 3) := by decide +kernel
theorem dX2_survey_58 : decode cX2_survey 58 = .ok (.aload_n 0, 1) := by decide +kernel
theorem dX2_survey_59 : decode cX2_survey 59 = .ok (.invokevirtual 44, 3) := by decide +kernel
theorem dX2_survey_62 : decode cX2_survey 62 = .ok (.aload_n 0, 1) := by decide +kernel
theorem dX2_survey_63 : decode cX2_survey 63 = .ok (.iconst 0, 1) := by decide +kernel
theorem dX2_survey_64 : decode cX2_survey 64 = .ok (.putfield 47, 3) := by decide +kernel
theorem dX2_survey_67 : decode cX2_survey 67 = .ok (.iconst 1, 1) := by decide +kernel
theorem dX2_survey_68 : decode cX2_survey 68 = .ok (.istore_n 3, 1) := by decide +kernel
theorem dX2_survey_69 : decode cX2_survey 69 = .ok (.iload_n 3, 1) := by decide +kernel
theorem dX2_survey_70 : decode cX2_survey 70 = .ok (.bipush 12, 2) := by decide +kernel
theorem dX2_survey_72 : decode cX2_survey 72 = .ok (.if_icmp .ge 23, 3) := by decide +kernel
theorem dX2_survey_75 : decode cX2_survey 75 = .ok (.aload_n 0, 1) := by decide +kernel
theorem dX2_survey_76 : decode cX2_survey 76 = .ok (.dup, 1) := by decide +kernel
theorem dX2_survey_77 : decode cX2_survey 77 = .ok (.getfield 47, 3) := by decide +kernel
theorem dX2_survey_80 : decode cX2_survey 80 = .ok (.aload_n 0, 1) := by decide +kernel
theorem dX2_survey_81 : decode cX2_survey 81 = .ok (.iload_n 3, 1) := by decide +kernel
theorem dX2_survey_82 : decode cX2_survey 82 = .ok (.invokevirtual 51, 3) := by decide +kernel
theorem dX2_survey_85 : decode cX2_survey 85 = .ok (.iadd, 1) := by decide +kernel
theorem dX2_survey_86 : decode cX2_survey 86 = .ok (.putfield 47, 3) := by decide +kernel
theorem dX2_survey_89 : decode cX2_survey 89 = .ok (.iinc 3 1, 3) := by decide +kernel
theorem dX2_survey_92 : decode cX2_survey 92 = .ok (.goto (-23), 3) := by decide +kernel
theorem dX2_survey_95 : decode cX2_survey 95 = .ok (.iload_n 2, 1) := by decide +kernel
theorem dX2_survey_96 : decode cX2_survey 96 = .ok (.aload_n 0, 1) := by decide +kernel
theorem dX2_survey_97 : decode cX2_survey 97 = .ok (.getfield 47, 3) := by decide +kernel
theorem dX2_survey_100 : decode cX2_survey 100 = .ok (.iadd, 1) := by decide +kernel
theorem dX2_survey_101 : decode cX2_survey 101 = .ok (.ireturn, 1) := by decide +kernel
set_option maxRecDepth 20000 in
theorem ggX2_markHeated_X4_isHouse : GoodIn wsX2_markHeated wsX4_isHouse := goodIn_r _ [6] (by decide +kernel) (by decide +kernel)
set_option maxRecDepth 20000 in
theorem gX2_markHeated_X4_isHouse_n55 : GoodIn wsX2_markHeated (wsX4_isHouse) := ggX2_markHeated_X4_isHouse
theorem dX2_markHeated_0 : decode cX2_markHeated 0 = .ok (.iconst 1, 1) := by decide +kernel
theorem dX2_markHeated_1 : decode cX2_markHeated 1 = .ok (.istore_n 1, 1) := by decide +kernel
theorem dX2_markHeated_2 : decode cX2_markHeated 2 = .ok (.iload_n 1, 1) := by decide +kernel
theorem dX2_markHeated_3 : decode cX2_markHeated 3 = .ok (.bipush 12, 2) := by decide +kernel
theorem dX2_markHeated_5 : decode cX2_markHeated 5 = .ok (.if_icmp .ge 62, 3) := by decide +kernel
theorem dX2_markHeated_8 : decode cX2_markHeated 8 = .ok (.aload_n 0, 1) := by decide +kernel
theorem dX2_markHeated_9 : decode cX2_markHeated 9 = .ok (.getfield 9, 3) := by decide +kernel
theorem dX2_markHeated_12 : decode cX2_markHeated 12 = .ok (.iload_n 1, 1) := by decide +kernel
theorem dX2_markHeated_13 : decode cX2_markHeated 13 = .ok (.iaload, 1) := by decide +kernel
theorem dX2_markHeated_14 : decode cX2_markHeated 14 = .ok (.istore_n 2, 1) := by decide +kernel
theorem dX2_markHeated_15 : decode cX2_markHeated 15 = .ok (.iload_n 2, 1) := by decide +kernel
theorem dX2_markHeated_16 : decode cX2_markHeated 16 = .ok (.invokestatic 55, 3) := by decide +kernel
theorem dX2_markHeated_19 : decode cX2_markHeated 19 = .ok (.ifCond .eq 12, 3) := by decide +kernel
theorem dX2_markHeated_22 : decode cX2_markHeated 22 = .ok (.aload_n 0, 1) := by decide +kernel
theorem dX2_markHeated_23 : decode cX2_markHeated 23 = .ok (.getfield 27, 3) := by decide +kernel
theorem dX2_markHeated_26 : decode cX2_markHeated 26 = .ok (.iload_n 2, 1) := by decide +kernel
theorem dX2_markHeated_27 : decode cX2_markHeated 27 = .ok (.baload, 1) := by decide +kernel
theorem dX2_markHeated_28 : decode cX2_markHeated 28 = .ok (.ifCond .eq 7, 3) := by decide +kernel
theorem dX2_markHeated_31 : decode cX2_markHeated 31 = .ok (.iconst 1, 1) := by decide +kernel
theorem dX2_markHeated_32 : decode cX2_markHeated 32 = .ok (.goto 4, 3) := by decide +kernel
theorem dX2_markHeated_35 : decode cX2_markHeated 35 = .ok (.iconst 0, 1) := by decide +kernel
theorem dX2_markHeated_36 : decode cX2_markHeated 36 = .ok (.istore_n 3, 1) := by decide +kernel
theorem dX2_markHeated_37 : decode cX2_markHeated 37 = .ok (.aload_n 0, 1) := by decide +kernel
theorem dX2_markHeated_38 : decode cX2_markHeated 38 = .ok (.getfield 27, 3) := by decide +kernel
theorem dX2_markHeated_41 : decode cX2_markHeated 41 = .ok (.iload_n 1, 1) := by decide +kernel
theorem dX2_markHeated_42 : decode cX2_markHeated 42 = .ok (.iload_n 3, 1) := by decide +kernel
theorem dX2_markHeated_43 : decode cX2_markHeated 43 = .ok (.ifCond .eq 16, 3) := by decide +kernel
theorem dX2_markHeated_46 : decode cX2_markHeated 46 = .ok (.aload_n 0, 1) := by decide +kernel
theorem dX2_markHeated_47 : decode cX2_markHeated 47 = .ok (.getfield 21, 3) := by decide +kernel
theorem dX2_markHeated_50 : decode cX2_markHeated 50 = .ok (.iload_n 1, 1) := by decide +kernel
theorem dX2_markHeated_51 : decode cX2_markHeated 51 = .ok (.iaload, 1) := by decide +kernel
theorem dX2_markHeated_52 : decode cX2_markHeated 52 = .ok (.ifCond .ne 7, 3) := by decide +kernel
theorem dX2_markHeated_55 : decode cX2_markHeated 55 = .ok (.iconst 1, 1) := by decide +kernel
theorem dX2_markHeated_56 : decode cX2_markHeated 56 = .ok (.goto 4, 3) := by decide +kernel
theorem dX2_markHeated_59 : decode cX2_markHeated 59 = .ok (.iconst 0, 1) := by decide +kernel
theorem dX2_markHeated_60 : decode cX2_markHeated 60 = .ok (.bastore, 1) := by decide +kernel
theorem dX2_markHeated_61 : decode cX2_markHeated 61 = .ok (.iinc 1 1, 3) := by decide +kernel
theorem dX2_markHeated_64 : decode cX2_markHeated 64 = .ok (.goto (-62), 3) := by decide +kernel
theorem dX2_markHeated_67 : decode cX2_markHeated 67 = .ok (.return_, 1) := by decide +kernel
set_option maxRecDepth 20000 in
theorem ggX2_markCarries_X4_isHouse : GoodIn wsX2_markCarries wsX4_isHouse := goodIn_r _ [6] (by decide +kernel) (by decide +kernel)
set_option maxRecDepth 20000 in
theorem gX2_markCarries_X4_isHouse_n55 : GoodIn wsX2_markCarries (wsX4_isHouse) := ggX2_markCarries_X4_isHouse
theorem dX2_markCarries_0 : decode cX2_markCarries 0 = .ok (.iconst 1, 1) := by decide +kernel
theorem dX2_markCarries_1 : decode cX2_markCarries 1 = .ok (.istore_n 1, 1) := by decide +kernel
theorem dX2_markCarries_2 : decode cX2_markCarries 2 = .ok (.iload_n 1, 1) := by decide +kernel
theorem dX2_markCarries_3 : decode cX2_markCarries 3 = .ok (.bipush 12, 2) := by decide +kernel
theorem dX2_markCarries_5 : decode cX2_markCarries 5 = .ok (.if_icmp .ge 29, 3) := by decide +kernel
theorem dX2_markCarries_8 : decode cX2_markCarries 8 = .ok (.aload_n 0, 1) := by decide +kernel
theorem dX2_markCarries_9 : decode cX2_markCarries 9 = .ok (.getfield 31, 3) := by decide +kernel
theorem dX2_markCarries_12 : decode cX2_markCarries 12 = .ok (.iload_n 1, 1) := by decide +kernel
theorem dX2_markCarries_13 : decode cX2_markCarries 13 = .ok (.aload_n 0, 1) := by decide +kernel
theorem dX2_markCarries_14 : decode cX2_markCarries 14 = .ok (.getfield 34, 3) := by decide +kernel
theorem dX2_markCarries_17 : decode cX2_markCarries 17 = .ok (.iload_n 1, 1) := by decide +kernel
theorem dX2_markCarries_18 : decode cX2_markCarries 18 = .ok (.iaload, 1) := by decide +kernel
theorem dX2_markCarries_19 : decode cX2_markCarries 19 = .ok (.ifCond .le 7, 3) := by decide +kernel
theorem dX2_markCarries_22 : decode cX2_markCarries 22 = .ok (.iconst 1, 1) := by decide +kernel
theorem dX2_markCarries_23 : decode cX2_markCarries 23 = .ok (.goto 4, 3) := by decide +kernel
theorem dX2_markCarries_26 : decode cX2_markCarries 26 = .ok (.iconst 0, 1) := by decide +kernel
theorem dX2_markCarries_27 : decode cX2_markCarries 27 = .ok (.bastore, 1) := by decide +kernel
theorem dX2_markCarries_28 : decode cX2_markCarries 28 = .ok (.iinc 1 1, 3) := by decide +kernel
theorem dX2_markCarries_31 : decode cX2_markCarries 31 = .ok (.goto (-29), 3) := by decide +kernel
theorem dX2_markCarries_34 : decode cX2_markCarries 34 = .ok (.bipush 11, 2) := by decide +kernel
theorem dX2_markCarries_36 : decode cX2_markCarries 36 = .ok (.istore_n 1, 1) := by decide +kernel
theorem dX2_markCarries_37 : decode cX2_markCarries 37 = .ok (.iload_n 1, 1) := by decide +kernel
theorem dX2_markCarries_38 : decode cX2_markCarries 38 = .ok (.iconst 1, 1) := by decide +kernel
theorem dX2_markCarries_39 : decode cX2_markCarries 39 = .ok (.if_icmp .lt 39, 3) := by decide +kernel
theorem dX2_markCarries_42 : decode cX2_markCarries 42 = .ok (.aload_n 0, 1) := by decide +kernel
theorem dX2_markCarries_43 : decode cX2_markCarries 43 = .ok (.getfield 9, 3) := by decide +kernel
theorem dX2_markCarries_46 : decode cX2_markCarries 46 = .ok (.iload_n 1, 1) := by decide +kernel
theorem dX2_markCarries_47 : decode cX2_markCarries 47 = .ok (.iaload, 1) := by decide +kernel
theorem dX2_markCarries_48 : decode cX2_markCarries 48 = .ok (.istore_n 2, 1) := by decide +kernel
theorem dX2_markCarries_49 : decode cX2_markCarries 49 = .ok (.aload_n 0, 1) := by decide +kernel
theorem dX2_markCarries_50 : decode cX2_markCarries 50 = .ok (.getfield 31, 3) := by decide +kernel
theorem dX2_markCarries_53 : decode cX2_markCarries 53 = .ok (.iload_n 1, 1) := by decide +kernel
theorem dX2_markCarries_54 : decode cX2_markCarries 54 = .ok (.baload, 1) := by decide +kernel
theorem dX2_markCarries_55 : decode cX2_markCarries 55 = .ok (.ifCond .eq 17, 3) := by decide +kernel
theorem dX2_markCarries_58 : decode cX2_markCarries 58 = .ok (.iload_n 2, 1) := by decide +kernel
theorem dX2_markCarries_59 : decode cX2_markCarries 59 = .ok (.invokestatic 55, 3) := by decide +kernel
theorem dX2_markCarries_62 : decode cX2_markCarries 62 = .ok (.ifCond .eq 10, 3) := by decide +kernel
theorem dX2_markCarries_65 : decode cX2_markCarries 65 = .ok (.aload_n 0, 1) := by decide +kernel
theorem dX2_markCarries_66 : decode cX2_markCarries 66 = .ok (.getfield 31, 3) := by decide +kernel
theorem dX2_markCarries_69 : decode cX2_markCarries 69 = .ok (.iload_n 2, 1) := by decide +kernel
theorem dX2_markCarries_70 : decode cX2_markCarries 70 = .ok (.iconst 1, 1) := by decide +kernel
theorem dX2_markCarries_71 : decode cX2_markCarries 71 = .ok (.bastore, 1) := by decide +kernel
theorem dX2_markCarries_72 : decode cX2_markCarries 72 = .ok (.iinc 1 (-1), 3) := by decide +kernel
theorem dX2_markCarries_75 : decode cX2_markCarries 75 = .ok (.goto (-38), 3) := by decide +kernel
theorem dX2_markCarries_78 : decode cX2_markCarries 78 = .ok (.return_, 1) := by decide +kernel
set_option maxRecDepth 20000 in
theorem ggX2_carriedLoss_X4_isHouse : GoodIn wsX2_carriedLoss wsX4_isHouse := goodIn_r _ [5] (by decide +kernel) (by decide +kernel)
set_option maxRecDepth 20000 in
theorem gX2_carriedLoss_X4_isHouse_n55 : GoodIn wsX2_carriedLoss (wsX4_isHouse) := ggX2_carriedLoss_X4_isHouse
theorem dX2_carriedLoss_0 : decode cX2_carriedLoss 0 = .ok (.iload_n 1, 1) := by decide +kernel
theorem dX2_carriedLoss_1 : decode cX2_carriedLoss 1 = .ok (.invokestatic 55, 3) := by decide +kernel
theorem dX2_carriedLoss_4 : decode cX2_carriedLoss 4 = .ok (.ifCond .eq 21, 3) := by decide +kernel
theorem dX2_carriedLoss_7 : decode cX2_carriedLoss 7 = .ok (.aload_n 0, 1) := by decide +kernel
theorem dX2_carriedLoss_8 : decode cX2_carriedLoss 8 = .ok (.getfield 31, 3) := by decide +kernel
theorem dX2_carriedLoss_11 : decode cX2_carriedLoss 11 = .ok (.iload_n 1, 1) := by decide +kernel
theorem dX2_carriedLoss_12 : decode cX2_carriedLoss 12 = .ok (.baload, 1) := by decide +kernel
theorem dX2_carriedLoss_13 : decode cX2_carriedLoss 13 = .ok (.ifCond .eq 12, 3) := by decide +kernel
theorem dX2_carriedLoss_16 : decode cX2_carriedLoss 16 = .ok (.aload_n 0, 1) := by decide +kernel
theorem dX2_carriedLoss_17 : decode cX2_carriedLoss 17 = .ok (.getfield 15, 3) := by decide +kernel
theorem dX2_carriedLoss_20 : decode cX2_carriedLoss 20 = .ok (.iload_n 1, 1) := by decide +kernel
theorem dX2_carriedLoss_21 : decode cX2_carriedLoss 21 = .ok (.iaload, 1) := by decide +kernel
theorem dX2_carriedLoss_22 : decode cX2_carriedLoss 22 = .ok (.goto 4, 3) := by decide +kernel
theorem dX2_carriedLoss_25 : decode cX2_carriedLoss 25 = .ok (.iconst 0, 1) := by decide +kernel
theorem dX2_carriedLoss_26 : decode cX2_carriedLoss 26 = .ok (.ireturn, 1) := by decide +kernel
theorem dX2_serve_0 : decode cX2_serve 0 = .ok (.iconst 0, 1) := by decide +kernel
theorem dX2_serve_1 : decode cX2_serve 1 = .ok (.iload_n 1, 1) := by decide +kernel
theorem dX2_serve_2 : decode cX2_serve 2 = .ok (.aload_n 0, 1) := by decide +kernel
theorem dX2_serve_3 : decode cX2_serve 3 = .ok (.getfield 47, 3) := by decide +kernel
theorem dX2_serve_6 : decode cX2_serve 6 = .ok (.isub, 1) := by decide +kernel
theorem dX2_serve_7 : decode cX2_serve 7 = .ok (.invokestatic 59, 3) := by decide +kernel
theorem dX2_serve_10 : decode cX2_serve 10 = .ok (.istore_n 2, 1) := by decide +kernel
theorem dX2_serve_11 : decode cX2_serve 11 = .ok (.iconst 1, 1) := by decide +kernel
theorem dX2_serve_12 : decode cX2_serve 12 = .ok (.istore_n 3, 1) := by decide +kernel
theorem dX2_serve_13 : decode cX2_serve 13 = .ok (.iload_n 3, 1) := by decide +kernel
theorem dX2_serve_14 : decode cX2_serve 14 = .ok (.bipush 12, 2) := by decide +kernel
theorem dX2_serve_16 : decode cX2_serve 16 = .ok (.if_icmp .ge 34, 3) := by decide +kernel
theorem dX2_serve_19 : decode cX2_serve 19 = .ok (.aload_n 0, 1) := by decide +kernel
theorem dX2_serve_20 : decode cX2_serve 20 = .ok (.getfield 24, 3) := by decide +kernel
theorem dX2_serve_23 : decode cX2_serve 23 = .ok (.iload_n 3, 1) := by decide +kernel
theorem dX2_serve_24 : decode cX2_serve 24 = .ok (.aload_n 0, 1) := by decide +kernel
theorem dX2_serve_25 : decode cX2_serve 25 = .ok (.getfield 34, 3) := by decide +kernel
theorem dX2_serve_28 : decode cX2_serve 28 = .ok (.iload_n 3, 1) := by decide +kernel
theorem dX2_serve_29 : decode cX2_serve 29 = .ok (.iaload, 1) := by decide +kernel
theorem dX2_serve_30 : decode cX2_serve 30 = .ok (.iload_n 2, 1) := by decide +kernel
theorem dX2_serve_31 : decode cX2_serve 31 = .ok (.invokestatic 64, 3) := by decide +kernel
theorem dX2_serve_34 : decode cX2_serve 34 = .ok (.iastore, 1) := by decide +kernel
theorem dX2_serve_35 : decode cX2_serve 35 = .ok (.iload_n 2, 1) := by decide +kernel
theorem dX2_serve_36 : decode cX2_serve 36 = .ok (.aload_n 0, 1) := by decide +kernel
theorem dX2_serve_37 : decode cX2_serve 37 = .ok (.getfield 24, 3) := by decide +kernel
theorem dX2_serve_40 : decode cX2_serve 40 = .ok (.iload_n 3, 1) := by decide +kernel
theorem dX2_serve_41 : decode cX2_serve 41 = .ok (.iaload, 1) := by decide +kernel
theorem dX2_serve_42 : decode cX2_serve 42 = .ok (.isub, 1) := by decide +kernel
theorem dX2_serve_43 : decode cX2_serve 43 = .ok (.istore_n 2, 1) := by decide +kernel
theorem dX2_serve_44 : decode cX2_serve 44 = .ok (.iinc 3 1, 3) := by decide +kernel
theorem dX2_serve_47 : decode cX2_serve 47 = .ok (.goto (-34), 3) := by decide +kernel
theorem dX2_serve_50 : decode cX2_serve 50 = .ok (.return_, 1) := by decide +kernel
set_option maxRecDepth 20000 in
theorem ggX2_countHousesWithoutHeat_X2_markHeated : GoodIn wsX2_countHousesWithoutHeat wsX2_markHeated := goodIn_r _ [7, 8, 2, 9, 10, 11, 12, 13, 14, 15, 16, 17, 18, 19, 20, 21] (by decide +kernel) (by decide +kernel)
set_option maxRecDepth 20000 in
theorem gX2_countHousesWithoutHeat_X2_markHeated : GoodIn wsX2_countHousesWithoutHeat (wsV RX2 37 RX2 yX2_markHeated wsX2_markHeated) := goodIn_app (goodIn_of _ (by decide +kernel)) ggX2_countHousesWithoutHeat_X2_markHeated
theorem dX2_countHousesWithoutHeat_0 : decode cX2_countHousesWithoutHeat 0 = .ok (.aload_n 0, 1) := by decide +kernel
theorem dX2_countHousesWithoutHeat_1 : decode cX2_countHousesWithoutHeat 1 = .ok (.invokevirtual 37, 3) := by decide +kernel
theorem dX2_countHousesWithoutHeat_4 : decode cX2_countHousesWithoutHeat 4 = .ok (.iconst 0, 1) := by decide +kernel
theorem dX2_countHousesWithoutHeat_5 : decode cX2_countHousesWithoutHeat 5 = .ok (.istore_n 1, 1) := by decide +kernel
theorem dX2_countHousesWithoutHeat_6 : decode cX2_countHousesWithoutHeat 6 = .ok (.iconst 1, 1) := by decide +kernel
theorem dX2_countHousesWithoutHeat_7 : decode cX2_countHousesWithoutHeat 7 = .ok (.istore_n 2, 1) := by decide +kernel
theorem dX2_countHousesWithoutHeat_8 : decode cX2_countHousesWithoutHeat 8 = .ok (.iload_n 2, 1) := by decide +kernel
theorem dX2_countHousesWithoutHeat_9 : decode cX2_countHousesWithoutHeat 9 = .ok (.bipush 12, 2) := by decide +kernel
theorem dX2_countHousesWithoutHeat_11 : decode cX2_countHousesWithoutHeat 11 = .ok (.if_icmp .ge 30, 3) := by decide +kernel
theorem dX2_countHousesWithoutHeat_14 : decode cX2_countHousesWithoutHeat 14 = .ok (.aload_n 0, 1) := by decide +kernel
theorem dX2_countHousesWithoutHeat_15 : decode cX2_countHousesWithoutHeat 15 = .ok (.getfield 18, 3) := by decide +kernel
theorem dX2_countHousesWithoutHeat_18 : decode cX2_countHousesWithoutHeat 18 = .ok (.iload_n 2, 1) := by decide +kernel
theorem dX2_countHousesWithoutHeat_19 : decode cX2_countHousesWithoutHeat 19 = .ok (.iaload, 1) := by decide +kernel
theorem dX2_countHousesWithoutHeat_20 : decode cX2_countHousesWithoutHeat 20 = .ok (.ifCond .le 15, 3) := by decide +kernel
theorem dX2_countHousesWithoutHeat_23 : decode cX2_countHousesWithoutHeat 23 = .ok (.aload_n 0, 1) := by decide +kernel
theorem dX2_countHousesWithoutHeat_24 : decode cX2_countHousesWithoutHeat 24 = .ok (.getfield 27, 3) := by decide +kernel
theorem dX2_countHousesWithoutHeat_27 : decode cX2_countHousesWithoutHeat 27 = .ok (.iload_n 2, 1) := by decide +kernel
theorem dX2_countHousesWithoutHeat_28 : decode cX2_countHousesWithoutHeat 28 = .ok (.baload, 1) := by decide +kernel
theorem dX2_countHousesWithoutHeat_29 : decode cX2_countHousesWithoutHeat 29 = .ok (.ifCond .ne 6, 3) := by decide +kernel
theorem dX2_countHousesWithoutHeat_32 : decode cX2_countHousesWithoutHeat 32 = .ok (.iinc 1 1, 3) := by decide +kernel
theorem dX2_countHousesWithoutHeat_35 : decode cX2_countHousesWithoutHeat 35 = .ok (.iinc 2 1, 3) := by decide +kernel
theorem dX2_countHousesWithoutHeat_38 : decode cX2_countHousesWithoutHeat 38 = .ok (.goto (-30), 3) := by decide +kernel
theorem dX2_countHousesWithoutHeat_41 : decode cX2_countHousesWithoutHeat 41 = .ok (.iload_n 1, 1) := by decide +kernel
theorem dX2_countHousesWithoutHeat_42 : decode cX2_countHousesWithoutHeat 42 = .ok (.ireturn, 1) := by decide +kernel
theorem dX2_endHourOfRepairs_0 : decode cX2_endHourOfRepairs 0 = .ok (.iconst 1, 1) := by decide +kernel
theorem dX2_endHourOfRepairs_1 : decode cX2_endHourOfRepairs 1 = .ok (.istore_n 1, 1) := by decide +kernel
theorem dX2_endHourOfRepairs_2 : decode cX2_endHourOfRepairs 2 = .ok (.iload_n 1, 1) := by decide +kernel
theorem dX2_endHourOfRepairs_3 : decode cX2_endHourOfRepairs 3 = .ok (.bipush 12, 2) := by decide +kernel
theorem dX2_endHourOfRepairs_5 : decode cX2_endHourOfRepairs 5 = .ok (.if_icmp .ge 28, 3) := by decide +kernel
theorem dX2_endHourOfRepairs_8 : decode cX2_endHourOfRepairs 8 = .ok (.aload_n 0, 1) := by decide +kernel
theorem dX2_endHourOfRepairs_9 : decode cX2_endHourOfRepairs 9 = .ok (.getfield 21, 3) := by decide +kernel
theorem dX2_endHourOfRepairs_12 : decode cX2_endHourOfRepairs 12 = .ok (.iload_n 1, 1) := by decide +kernel
theorem dX2_endHourOfRepairs_13 : decode cX2_endHourOfRepairs 13 = .ok (.iaload, 1) := by decide +kernel
theorem dX2_endHourOfRepairs_14 : decode cX2_endHourOfRepairs 14 = .ok (.ifCond .le 13, 3) := by decide +kernel
theorem dX2_endHourOfRepairs_17 : decode cX2_endHourOfRepairs 17 = .ok (.aload_n 0, 1) := by decide +kernel
theorem dX2_endHourOfRepairs_18 : decode cX2_endHourOfRepairs 18 = .ok (.getfield 21, 3) := by decide +kernel
theorem dX2_endHourOfRepairs_21 : decode cX2_endHourOfRepairs 21 = .ok (.iload_n 1, 1) := by decide +kernel
theorem dX2_endHourOfRepairs_22 : decode cX2_endHourOfRepairs 22 = .ok (.dup2, 1) := by decide +kernel
theorem dX2_endHourOfRepairs_23 : decode cX2_endHourOfRepairs 23 = .ok (.iaload, 1) := by decide +kernel
theorem dX2_endHourOfRepairs_24 : decode cX2_endHourOfRepairs 24 = .ok (.iconst 1, 1) := by decide +kernel
theorem dX2_endHourOfRepairs_25 : decode cX2_endHourOfRepairs 25 = .ok (.isub, 1) := by decide +kernel
theorem dX2_endHourOfRepairs_26 : decode cX2_endHourOfRepairs 26 = .ok (.iastore, 1) := by decide +kernel
theorem dX2_endHourOfRepairs_27 : decode cX2_endHourOfRepairs 27 = .ok (.iinc 1 1, 3) := by decide +kernel
theorem dX2_endHourOfRepairs_30 : decode cX2_endHourOfRepairs 30 = .ok (.goto (-28), 3) := by decide +kernel
theorem dX2_endHourOfRepairs_33 : decode cX2_endHourOfRepairs 33 = .ok (.return_, 1) := by decide +kernel
theorem dX3_init_0 : decode cX3_init 0 = .ok (.aload_n 0, 1) := by decide +kernel
theorem dX3_init_1 : decode cX3_init 1 = .ok (.invokespecial 1, 3) := by decide +kernel
theorem dX3_init_4 : decode cX3_init 4 = .ok (.return_, 1) := by decide +kernel
set_option maxRecDepth 20000 in
theorem ggX3_add_X0_init : GoodIn wsX3_add wsX0_init := goodIn_r _ [8, 9, 10, 11, 12, 13, 14, 15, 21, 22, 23, 24, 25, 26] (by decide +kernel) (by decide +kernel)
set_option maxRecDepth 20000 in
theorem gX3_add_X0_init_n15 : GoodIn wsX3_add (wsX0_init) := ggX3_add_X0_init
set_option maxRecDepth 20000 in
theorem ggX3_add_X3_lastFiredBefore : GoodIn wsX3_add wsX3_lastFiredBefore := goodIn_r _ [20, 5, 27, 28, 29, 30, 21, 22, 23, 24, 25, 26] (by decide +kernel) (by decide +kernel)
set_option maxRecDepth 20000 in
theorem gX3_add_X3_lastFiredBefore : GoodIn wsX3_add (wsV RX3 18 RX3 yX3_lastFiredBefore wsX3_lastFiredBefore) := goodIn_app (goodIn_of _ (by decide +kernel)) ggX3_add_X3_lastFiredBefore
theorem dX3_add_0 : decode cX3_add 0 = .ok (.new 7, 3) := by decide +kernel
theorem dX3_add_3 : decode cX3_add 3 = .ok (.dup, 1) := by decide +kernel
theorem dX3_add_4 : decode cX3_add 4 = .ok (.aload_n 0, 1) := by decide +kernel
theorem dX3_add_5 : decode cX3_add 5 = .ok (.getfield 9, 3) := by decide +kernel
theorem dX3_add_8 : decode cX3_add 8 = .ok (.iload_n 1, 1) := by decide +kernel
theorem dX3_add_9 : decode cX3_add 9 = .ok (.iload_n 2, 1) := by decide +kernel
theorem dX3_add_10 : decode cX3_add 10 = .ok (.iload_n 3, 1) := by decide +kernel
theorem dX3_add_11 : decode cX3_add 11 = .ok (.invokespecial 15, 3) := by decide +kernel
theorem dX3_add_14 : decode cX3_add 14 = .ok (.astore 4, 2) := by decide +kernel
theorem dX3_add_16 : decode cX3_add 16 = .ok (.aload_n 0, 1) := by decide +kernel
theorem dX3_add_17 : decode cX3_add 17 = .ok (.iload_n 3, 1) := by decide +kernel
theorem dX3_add_18 : decode cX3_add 18 = .ok (.invokevirtual 18, 3) := by decide +kernel
theorem dX3_add_21 : decode cX3_add 21 = .ok (.astore 5, 2) := by decide +kernel
theorem dX3_add_23 : decode cX3_add 23 = .ok (.aload 5, 2) := by decide +kernel
theorem dX3_add_25 : decode cX3_add 25 = .ok (.ifnonnull 21, 3) := by decide +kernel
theorem dX3_add_28 : decode cX3_add 28 = .ok (.aload 4, 2) := by decide +kernel
theorem dX3_add_30 : decode cX3_add 30 = .ok (.aload_n 0, 1) := by decide +kernel
theorem dX3_add_31 : decode cX3_add 31 = .ok (.getfield 22, 3) := by decide +kernel
theorem dX3_add_34 : decode cX3_add 34 = .ok (.putfield 26, 3) := by decide +kernel
theorem dX3_add_37 : decode cX3_add 37 = .ok (.aload_n 0, 1) := by decide +kernel
theorem dX3_add_38 : decode cX3_add 38 = .ok (.aload 4, 2) := by decide +kernel
theorem dX3_add_40 : decode cX3_add 40 = .ok (.putfield 22, 3) := by decide +kernel
theorem dX3_add_43 : decode cX3_add 43 = .ok (.goto 20, 3) := by decide +kernel
theorem dX3_add_46 : decode cX3_add 46 = .ok (.aload 4, 2) := by decide +kernel
theorem dX3_add_48 : decode cX3_add 48 = .ok (.aload 5, 2) := by decide +kernel
theorem dX3_add_50 : decode cX3_add 50 = .ok (.getfield 26, 3) := by decide +kernel
theorem dX3_add_53 : decode cX3_add 53 = .ok (.putfield 26, 3) := by decide +kernel
theorem dX3_add_56 : decode cX3_add 56 = .ok (.aload 5, 2) := by decide +kernel
theorem dX3_add_58 : decode cX3_add 58 = .ok (.aload 4, 2) := by decide +kernel
theorem dX3_add_60 : decode cX3_add 60 = .ok (.putfield 26, 3) := by decide +kernel
theorem dX3_add_63 : decode cX3_add 63 = .ok (.aload_n 0, 1) := by decide +kernel
theorem dX3_add_64 : decode cX3_add 64 = .ok (.dup, 1) := by decide +kernel
theorem dX3_add_65 : decode cX3_add 65 = .ok (.getfield 9, 3) := by decide +kernel
theorem dX3_add_68 : decode cX3_add 68 = .ok (.iconst 1, 1) := by decide +kernel
theorem dX3_add_69 : decode cX3_add 69 = .ok (.iadd, 1) := by decide +kernel
theorem dX3_add_70 : decode cX3_add 70 = .ok (.putfield 9, 3) := by decide +kernel
theorem dX3_add_73 : decode cX3_add 73 = .ok (.aload_n 0, 1) := by decide +kernel
theorem dX3_add_74 : decode cX3_add 74 = .ok (.dup, 1) := by decide +kernel
theorem dX3_add_75 : decode cX3_add 75 = .ok (.getfield 29, 3) := by decide +kernel
theorem dX3_add_78 : decode cX3_add 78 = .ok (.iload_n 1, 1) := by decide +kernel
theorem dX3_add_79 : decode cX3_add 79 = .ok (.iload_n 2, 1) := by decide +kernel
theorem dX3_add_80 : decode cX3_add 80 = .ok (.imul, 1) := by decide +kernel
theorem dX3_add_81 : decode cX3_add 81 = .ok (.iadd, 1) := by decide +kernel
theorem dX3_add_82 : decode cX3_add 82 = .ok (.putfield 29, 3) := by decide +kernel
theorem dX3_add_85 : decode cX3_add 85 = .ok (.aload 4, 2) := by decide +kernel
theorem dX3_add_87 : decode cX3_add 87 = .ok (.getfield 32, 3) := by decide +kernel
theorem dX3_add_90 : decode cX3_add 90 = .ok (.ireturn, 1) := by decide +kernel
theorem dX3_lastFiredBefore_0 : decode cX3_lastFiredBefore 0 = .ok (.aconst_null, 1) := by decide +kernel
theorem dX3_lastFiredBefore_1 : decode cX3_lastFiredBefore 1 = .ok (.astore_n 2, 1) := by decide +kernel
theorem dX3_lastFiredBefore_2 : decode cX3_lastFiredBefore 2 = .ok (.aload_n 0, 1) := by decide +kernel
theorem dX3_lastFiredBefore_3 : decode cX3_lastFiredBefore 3 = .ok (.getfield 22, 3) := by decide +kernel
theorem dX3_lastFiredBefore_6 : decode cX3_lastFiredBefore 6 = .ok (.astore_n 3, 1) := by decide +kernel
theorem dX3_lastFiredBefore_7 : decode cX3_lastFiredBefore 7 = .ok (.aload_n 3, 1) := by decide +kernel
theorem dX3_lastFiredBefore_8 : decode cX3_lastFiredBefore 8 = .ok (.ifnull 21, 3) := by decide +kernel
theorem dX3_lastFiredBefore_11 : decode cX3_lastFiredBefore 11 = .ok (.aload_n 3, 1) := by decide +kernel
theorem dX3_lastFiredBefore_12 : decode cX3_lastFiredBefore 12 = .ok (.getfield 35, 3) := by decide +kernel
theorem dX3_lastFiredBefore_15 : decode cX3_lastFiredBefore 15 = .ok (.iload_n 1, 1) := by decide +kernel
theorem dX3_lastFiredBefore_16 : decode cX3_lastFiredBefore 16 = .ok (.if_icmp .gt 13, 3) := by decide +kernel
theorem dX3_lastFiredBefore_19 : decode cX3_lastFiredBefore 19 = .ok (.aload_n 3, 1) := by decide +kernel
theorem dX3_lastFiredBefore_20 : decode cX3_lastFiredBefore 20 = .ok (.astore_n 2, 1) := by decide +kernel
theorem dX3_lastFiredBefore_21 : decode cX3_lastFiredBefore 21 = .ok (.aload_n 3, 1) := by decide +kernel
theorem dX3_lastFiredBefore_22 : decode cX3_lastFiredBefore 22 = .ok (.getfield 26, 3) := by decide +kernel
theorem dX3_lastFiredBefore_25 : decode cX3_lastFiredBefore 25 = .ok (.astore_n 3, 1) := by decide +kernel
theorem dX3_lastFiredBefore_26 : decode cX3_lastFiredBefore 26 = .ok (.goto (-19), 3) := by decide +kernel
theorem dX3_lastFiredBefore_29 : decode cX3_lastFiredBefore 29 = .ok (.aload_n 2, 1) := by decide +kernel
theorem dX3_lastFiredBefore_30 : decode cX3_lastFiredBefore 30 = .ok (.areturn, 1) := by decide +kernel
theorem dX3_find_0 : decode cX3_find 0 = .ok (.aload_n 0, 1) := by decide +kernel
theorem dX3_find_1 : decode cX3_find 1 = .ok (.getfield 22, 3) := by decide +kernel
theorem dX3_find_4 : decode cX3_find 4 = .ok (.astore_n 2, 1) := by decide +kernel
theorem dX3_find_5 : decode cX3_find 5 = .ok (.aload_n 2, 1) := by decide +kernel
theorem dX3_find_6 : decode cX3_find 6 = .ok (.ifnull 21, 3) := by decide +kernel
theorem dX3_find_9 : decode cX3_find 9 = .ok (.aload_n 2, 1) := by decide +kernel
theorem dX3_find_10 : decode cX3_find 10 = .ok (.getfield 32, 3) := by decide +kernel
theorem dX3_find_13 : decode cX3_find 13 = .ok (.iload_n 1, 1) := by decide +kernel
theorem dX3_find_14 : decode cX3_find 14 = .ok (.if_icmp .ne 5, 3) := by decide +kernel
theorem dX3_find_17 : decode cX3_find 17 = .ok (.aload_n 2, 1) := by decide +kernel
theorem dX3_find_18 : decode cX3_find 18 = .ok (.areturn, 1) := by decide +kernel
theorem dX3_find_19 : decode cX3_find 19 = .ok (.aload_n 2, 1) := by decide +kernel
theorem dX3_find_20 : decode cX3_find 20 = .ok (.getfield 26, 3) := by decide +kernel
theorem dX3_find_23 : decode cX3_find 23 = .ok (.astore_n 2, 1) := by decide +kernel
theorem dX3_find_24 : decode cX3_find 24 = .ok (.goto (-19), 3) := by decide +kernel
theorem dX3_find_27 : decode cX3_find 27 = .ok (.aconst_null, 1) := by decide +kernel
theorem dX3_find_28 : decode cX3_find 28 = .ok (.areturn, 1) := by decide +kernel
set_option maxRecDepth 20000 in
theorem ggX3_fire_X0_fireFor : GoodIn wsX3_fire wsX0_fireFor := goodIn_r _ [6, 7, 8, 9, 10, 11, 12, 13, 18, 19, 20, 21, 22, 23] (by decide +kernel) (by decide +kernel)
set_option maxRecDepth 20000 in
theorem gX3_fire_X0_fireFor_n38 : GoodIn wsX3_fire (wsX0_fireFor) := ggX3_fire_X0_fireFor
theorem dX3_fire_0 : decode cX3_fire 0 = .ok (.iload_n 1, 1) := by decide +kernel
theorem dX3_fire_1 : decode cX3_fire 1 = .ok (.istore_n 2, 1) := by decide +kernel
theorem dX3_fire_2 : decode cX3_fire 2 = .ok (.aload_n 0, 1) := by decide +kernel
theorem dX3_fire_3 : decode cX3_fire 3 = .ok (.getfield 22, 3) := by decide +kernel
theorem dX3_fire_6 : decode cX3_fire 6 = .ok (.astore_n 3, 1) := by decide +kernel
theorem dX3_fire_7 : decode cX3_fire 7 = .ok (.aload_n 3, 1) := by decide +kernel
theorem dX3_fire_8 : decode cX3_fire 8 = .ok (.ifnull 39, 3) := by decide +kernel
theorem dX3_fire_11 : decode cX3_fire 11 = .ok (.aload_n 3, 1) := by decide +kernel
theorem dX3_fire_12 : decode cX3_fire 12 = .ok (.iload_n 2, 1) := by decide +kernel
theorem dX3_fire_13 : decode cX3_fire 13 = .ok (.invokevirtual 38, 3) := by decide +kernel
theorem dX3_fire_16 : decode cX3_fire 16 = .ok (.istore 4, 2) := by decide +kernel
theorem dX3_fire_18 : decode cX3_fire 18 = .ok (.aload_n 0, 1) := by decide +kernel
theorem dX3_fire_19 : decode cX3_fire 19 = .ok (.dup, 1) := by decide +kernel
theorem dX3_fire_20 : decode cX3_fire 20 = .ok (.getfield 42, 3) := by decide +kernel
theorem dX3_fire_23 : decode cX3_fire 23 = .ok (.iload 4, 2) := by decide +kernel
theorem dX3_fire_25 : decode cX3_fire 25 = .ok (.aload_n 3, 1) := by decide +kernel
theorem dX3_fire_26 : decode cX3_fire 26 = .ok (.getfield 35, 3) := by decide +kernel
theorem dX3_fire_29 : decode cX3_fire 29 = .ok (.imul, 1) := by decide +kernel
theorem dX3_fire_30 : decode cX3_fire 30 = .ok (.iadd, 1) := by decide +kernel
theorem dX3_fire_31 : decode cX3_fire 31 = .ok (.putfield 42, 3) := by decide +kernel
theorem dX3_fire_34 : decode cX3_fire 34 = .ok (.iload_n 2, 1) := by decide +kernel
theorem dX3_fire_35 : decode cX3_fire 35 = .ok (.iload 4, 2) := by decide +kernel
theorem dX3_fire_37 : decode cX3_fire 37 = .ok (.isub, 1) := by decide +kernel
theorem dX3_fire_38 : decode cX3_fire 38 = .ok (.istore_n 2, 1) := by decide +kernel
theorem dX3_fire_39 : decode cX3_fire 39 = .ok (.aload_n 3, 1) := by decide +kernel
theorem dX3_fire_40 : decode cX3_fire 40 = .ok (.getfield 26, 3) := by decide +kernel
theorem dX3_fire_43 : decode cX3_fire 43 = .ok (.astore_n 3, 1) := by decide +kernel
theorem dX3_fire_44 : decode cX3_fire 44 = .ok (.goto (-37), 3) := by decide +kernel
theorem dX3_fire_47 : decode cX3_fire 47 = .ok (.return_, 1) := by decide +kernel
set_option maxRecDepth 20000 in
theorem ggX4_init_X2_init : GoodIn wsX4_init wsX2_init := goodIn_r _ [19, 20, 2, 3, 16, 21, 22, 23, 24, 25, 26, 27, 28, 29, 41, 42, 43, 44, 45, 46, 47, 48, 49] (by decide +kernel) (by decide +kernel)
set_option maxRecDepth 20000 in
theorem gX4_init_X2_init_n9 : GoodIn wsX4_init (wsX2_init) := ggX4_init_X2_init
set_option maxRecDepth 20000 in
theorem ggX4_init_X3_init : GoodIn wsX4_init wsX3_init := goodIn_r _ [31, 32, 2, 3] (by decide +kernel) (by decide +kernel)
set_option maxRecDepth 20000 in
theorem gX4_init_X3_init_n18 : GoodIn wsX4_init (wsX3_init) := ggX4_init_X3_init
set_option maxRecDepth 20000 in
theorem ggX4_init_X1_init : GoodIn wsX4_init wsX1_init := goodIn_r _ [34, 35, 2, 3, 16, 36, 37, 26, 38, 39, 40, 61, 62, 63, 64, 65] (by decide +kernel) (by decide +kernel)
set_option maxRecDepth 20000 in
theorem gX4_init_X1_init_n25 : GoodIn wsX4_init (wsX1_init) := ggX4_init_X1_init
theorem dX4_init_0 : decode cX4_init 0 = .ok (.aload_n 0, 1) := by decide +kernel
theorem dX4_init_1 : decode cX4_init 1 = .ok (.invokespecial 1, 3) := by decide +kernel
theorem dX4_init_4 : decode cX4_init 4 = .ok (.aload_n 0, 1) := by decide +kernel
theorem dX4_init_5 : decode cX4_init 5 = .ok (.new 7, 3) := by decide +kernel
theorem dX4_init_8 : decode cX4_init 8 = .ok (.dup, 1) := by decide +kernel
theorem dX4_init_9 : decode cX4_init 9 = .ok (.invokespecial 9, 3) := by decide +kernel
theorem dX4_init_12 : decode cX4_init 12 = .ok (.putfield 10, 3) := by decide +kernel
theorem dX4_init_15 : decode cX4_init 15 = .ok (.aload_n 0, 1) := by decide +kernel
theorem dX4_init_16 : decode cX4_init 16 = .ok (.new 16, 3) := by decide +kernel
theorem dX4_init_19 : decode cX4_init 19 = .ok (.dup, 1) := by decide +kernel
theorem dX4_init_20 : decode cX4_init 20 = .ok (.invokespecial 18, 3) := by decide +kernel
theorem dX4_init_23 : decode cX4_init 23 = .ok (.putfield 19, 3) := by decide +kernel
theorem dX4_init_26 : decode cX4_init 26 = .ok (.aload_n 0, 1) := by decide +kernel
theorem dX4_init_27 : decode cX4_init 27 = .ok (.new 23, 3) := by decide +kernel
theorem dX4_init_30 : decode cX4_init 30 = .ok (.dup, 1) := by decide +kernel
theorem dX4_init_31 : decode cX4_init 31 = .ok (.invokespecial 25, 3) := by decide +kernel
theorem dX4_init_34 : decode cX4_init 34 = .ok (.putfield 26, 3) := by decide +kernel
theorem dX4_init_37 : decode cX4_init 37 = .ok (.aload_n 0, 1) := by decide +kernel
theorem dX4_init_38 : decode cX4_init 38 = .ok (.bipush 12, 2) := by decide +kernel
theorem dX4_init_40 : decode cX4_init 40 = .ok (.newarray .int, 2) := by decide +kernel
theorem dX4_init_42 : decode cX4_init 42 = .ok (.putfield 30, 3) := by decide +kernel
theorem dX4_init_45 : decode cX4_init 45 = .ok (.return_, 1) := by decide +kernel
set_option maxRecDepth 20000 in
theorem ggX4_feed_X4_isHouse : GoodIn wsX4_feed wsX4_isHouse := goodIn_r _ [10] (by decide +kernel) (by decide +kernel)
set_option maxRecDepth 20000 in
theorem gX4_feed_X4_isHouse : GoodIn wsX4_feed (va_wsS RX4 34 yX4_isHouse wsX4_isHouse) := goodIn_app (goodIn_of _ (by decide +kernel)) ggX4_feed_X4_isHouse
set_option maxRecDepth 20000 in
theorem ggX4_feed_X4_isWithin : GoodIn wsX4_feed wsX4_isWithin := goodIn_r _ [13] (by decide +kernel) (by decide +kernel)
set_option maxRecDepth 20000 in
theorem gX4_feed_X4_isWithin : GoodIn wsX4_feed (va_wsS RX4 38 yX4_isWithin wsX4_isWithin) := goodIn_app (goodIn_of _ (by decide +kernel)) ggX4_feed_X4_isWithin
theorem dX4_feed_0 : decode cX4_feed 0 = .ok (.iload_n 1, 1) := by decide +kernel
theorem dX4_feed_1 : decode cX4_feed 1 = .ok (.invokestatic 34, 3) := by decide +kernel
theorem dX4_feed_4 : decode cX4_feed 4 = .ok (.ifCond .eq 24, 3) := by decide +kernel
theorem dX4_feed_7 : decode cX4_feed 7 = .ok (.iload_n 2, 1) := by decide +kernel
theorem dX4_feed_8 : decode cX4_feed 8 = .ok (.iconst 0, 1) := by decide +kernel
theorem dX4_feed_9 : decode cX4_feed 9 = .ok (.iload_n 1, 1) := by decide +kernel
theorem dX4_feed_10 : decode cX4_feed 10 = .ok (.iconst 1, 1) := by decide +kernel
theorem dX4_feed_11 : decode cX4_feed 11 = .ok (.isub, 1) := by decide +kernel
theorem dX4_feed_12 : decode cX4_feed 12 = .ok (.invokestatic 38, 3) := by decide +kernel
theorem dX4_feed_15 : decode cX4_feed 15 = .ok (.ifCond .eq 13, 3) := by decide +kernel
theorem dX4_feed_18 : decode cX4_feed 18 = .ok (.iload_n 3, 1) := by decide +kernel
theorem dX4_feed_19 : decode cX4_feed 19 = .ok (.iconst 0, 1) := by decide +kernel
theorem dX4_feed_20 : decode cX4_feed 20 = .ok (.bipush 20, 2) := by decide +kernel
theorem dX4_feed_22 : decode cX4_feed 22 = .ok (.invokestatic 38, 3) := by decide +kernel
theorem dX4_feed_25 : decode cX4_feed 25 = .ok (.ifCond .ne 13, 3) := by decide +kernel
theorem dX4_feed_28 : decode cX4_feed 28 = .ok (.new 42, 3) := by decide +kernel
theorem dX4_feed_31 : decode cX4_feed 31 = .ok (.dup, 1) := by decide +kernel
theorem dX4_feed_32 : decode cX4_feed 32 = .ok (.ldc 44, 2) := by decide +kernel
theorem dX4_feed_34 : decode cX4_feed 34 = .ok (.invokespecial 46, 3) := by decide +kernel
theorem dX4_feed_37 : decode cX4_feed 37 = .ok (.athrow, 1) := by decide +kernel
theorem dX4_feed_38 : decode cX4_feed 38 = .ok (.aload_n 0, 1) := by decide +kernel
theorem dX4_feed_39 : decode cX4_feed 39 = .ok (.getfield 49, 3) := by decide +kernel
theorem dX4_feed_42 : decode cX4_feed 42 = .ok (.ifCond .le 13, 3) := by decide +kernel
theorem dX4_feed_45 : decode cX4_feed 45 = .ok (.new 53, 3) := by decide +kernel
theorem dX4_feed_48 : decode cX4_feed 48 = .ok (.dup, 1) := by decide +kernel
theorem dX4_feed_49 : decode cX4_feed 49 = .ok (.ldc 55, 2) := by decide +kernel
theorem dX4_feed_51 : decode cX4_feed 51 = .ok (.invokespecial 57, 3) := by decide +kernel
theorem dX4_feed_54 : decode cX4_feed 54 = .ok (.athrow, 1) := by decide +kernel
theorem dX4_feed_55 : decode cX4_feed 55 = .ok (.aload_n 0, 1) := by decide +kernel
theorem dX4_feed_56 : decode cX4_feed 56 = .ok (.getfield 10, 3) := by decide +kernel
theorem dX4_feed_59 : decode cX4_feed 59 = .ok (.getfield 58, 3) := by decide +kernel
theorem dX4_feed_62 : decode cX4_feed 62 = .ok (.iload_n 1, 1) := by decide +kernel
theorem dX4_feed_63 : decode cX4_feed 63 = .ok (.iaload, 1) := by decide +kernel
theorem dX4_feed_64 : decode cX4_feed 64 = .ok (.istore 4, 2) := by decide +kernel
theorem dX4_feed_66 : decode cX4_feed 66 = .ok (.aload_n 0, 1) := by decide +kernel
theorem dX4_feed_67 : decode cX4_feed 67 = .ok (.getfield 10, 3) := by decide +kernel
theorem dX4_feed_70 : decode cX4_feed 70 = .ok (.getfield 58, 3) := by decide +kernel
theorem dX4_feed_73 : decode cX4_feed 73 = .ok (.iload_n 1, 1) := by decide +kernel
theorem dX4_feed_74 : decode cX4_feed 74 = .ok (.iload_n 2, 1) := by decide +kernel
theorem dX4_feed_75 : decode cX4_feed 75 = .ok (.iastore, 1) := by decide +kernel
theorem dX4_feed_76 : decode cX4_feed 76 = .ok (.aload_n 0, 1) := by decide +kernel
theorem dX4_feed_77 : decode cX4_feed 77 = .ok (.getfield 10, 3) := by decide +kernel
theorem dX4_feed_80 : decode cX4_feed 80 = .ok (.getfield 61, 3) := by decide +kernel
theorem dX4_feed_83 : decode cX4_feed 83 = .ok (.iload_n 1, 1) := by decide +kernel
theorem dX4_feed_84 : decode cX4_feed 84 = .ok (.iload_n 3, 1) := by decide +kernel
theorem dX4_feed_85 : decode cX4_feed 85 = .ok (.iastore, 1) := by decide +kernel
theorem dX4_feed_86 : decode cX4_feed 86 = .ok (.iload 4, 2) := by decide +kernel
theorem dX4_feed_88 : decode cX4_feed 88 = .ok (.ireturn, 1) := by decide +kernel
set_option maxRecDepth 20000 in
theorem ggX4_setArea_X4_isHouse : GoodIn wsX4_setArea wsX4_isHouse := goodIn_r _ [7] (by decide +kernel) (by decide +kernel)
set_option maxRecDepth 20000 in
theorem gX4_setArea_X4_isHouse : GoodIn wsX4_setArea (va_wsS RX4 34 yX4_isHouse wsX4_isHouse) := goodIn_app (goodIn_of _ (by decide +kernel)) ggX4_setArea_X4_isHouse
set_option maxRecDepth 20000 in
theorem ggX4_setArea_X4_isWithin : GoodIn wsX4_setArea wsX4_isWithin := goodIn_r _ [10] (by decide +kernel) (by decide +kernel)
set_option maxRecDepth 20000 in
theorem gX4_setArea_X4_isWithin : GoodIn wsX4_setArea (va_wsS RX4 38 yX4_isWithin wsX4_isWithin) := goodIn_app (goodIn_of _ (by decide +kernel)) ggX4_setArea_X4_isWithin
theorem dX4_setArea_0 : decode cX4_setArea 0 = .ok (.iload_n 1, 1) := by decide +kernel
theorem dX4_setArea_1 : decode cX4_setArea 1 = .ok (.invokestatic 34, 3) := by decide +kernel
theorem dX4_setArea_4 : decode cX4_setArea 4 = .ok (.ifCond .eq 13, 3) := by decide +kernel
theorem dX4_setArea_7 : decode cX4_setArea 7 = .ok (.iload_n 2, 1) := by decide +kernel
theorem dX4_setArea_8 : decode cX4_setArea 8 = .ok (.iconst 0, 1) := by decide +kernel
theorem dX4_setArea_9 : decode cX4_setArea 9 = .ok (.bipush 50, 2) := by decide +kernel
theorem dX4_setArea_11 : decode cX4_setArea 11 = .ok (.invokestatic 38, 3) := by decide +kernel
theorem dX4_setArea_14 : decode cX4_setArea 14 = .ok (.ifCond .ne 13, 3) := by decide +kernel
theorem dX4_setArea_17 : decode cX4_setArea 17 = .ok (.new 42, 3) := by decide +kernel
theorem dX4_setArea_20 : decode cX4_setArea 20 = .ok (.dup, 1) := by decide +kernel
theorem dX4_setArea_21 : decode cX4_setArea 21 = .ok (.ldc 64, 2) := by decide +kernel
theorem dX4_setArea_23 : decode cX4_setArea 23 = .ok (.invokespecial 46, 3) := by decide +kernel
theorem dX4_setArea_26 : decode cX4_setArea 26 = .ok (.athrow, 1) := by decide +kernel
theorem dX4_setArea_27 : decode cX4_setArea 27 = .ok (.aload_n 0, 1) := by decide +kernel
theorem dX4_setArea_28 : decode cX4_setArea 28 = .ok (.getfield 10, 3) := by decide +kernel
theorem dX4_setArea_31 : decode cX4_setArea 31 = .ok (.getfield 66, 3) := by decide +kernel
theorem dX4_setArea_34 : decode cX4_setArea 34 = .ok (.iload_n 1, 1) := by decide +kernel
theorem dX4_setArea_35 : decode cX4_setArea 35 = .ok (.iaload, 1) := by decide +kernel
theorem dX4_setArea_36 : decode cX4_setArea 36 = .ok (.istore_n 3, 1) := by decide +kernel
theorem dX4_setArea_37 : decode cX4_setArea 37 = .ok (.aload_n 0, 1) := by decide +kernel
theorem dX4_setArea_38 : decode cX4_setArea 38 = .ok (.getfield 10, 3) := by decide +kernel
theorem dX4_setArea_41 : decode cX4_setArea 41 = .ok (.getfield 66, 3) := by decide +kernel
theorem dX4_setArea_44 : decode cX4_setArea 44 = .ok (.iload_n 1, 1) := by decide +kernel
theorem dX4_setArea_45 : decode cX4_setArea 45 = .ok (.iload_n 2, 1) := by decide +kernel
theorem dX4_setArea_46 : decode cX4_setArea 46 = .ok (.iastore, 1) := by decide +kernel
theorem dX4_setArea_47 : decode cX4_setArea 47 = .ok (.iload_n 3, 1) := by decide +kernel
theorem dX4_setArea_48 : decode cX4_setArea 48 = .ok (.ireturn, 1) := by decide +kernel
set_option maxRecDepth 20000 in
theorem ggX4_addBoiler_X4_isWithin : GoodIn wsX4_addBoiler wsX4_isWithin := goodIn_r _ [9] (by decide +kernel) (by decide +kernel)
set_option maxRecDepth 20000 in
theorem gX4_addBoiler_X4_isWithin : GoodIn wsX4_addBoiler (va_wsS RX4 38 yX4_isWithin wsX4_isWithin) := goodIn_app (goodIn_of _ (by decide +kernel)) ggX4_addBoiler_X4_isWithin
set_option maxRecDepth 20000 in
theorem ggX4_addBoiler_X3_add : GoodIn wsX4_addBoiler wsX3_add := goodIn_r _ [13, 14, 15, 16, 17, 18, 19, 20, 21, 22, 23, 24, 25, 26, 27, 28, 29, 30, 31, 11, 32, 44, 45, 46, 47, 48, 49, 40, 41, 42, 43] (by decide +kernel) (by decide +kernel)
set_option maxRecDepth 20000 in
theorem gX4_addBoiler_X3_add_n76 : GoodIn wsX4_addBoiler (wsX3_add) := ggX4_addBoiler_X3_add
theorem dX4_addBoiler_0 : decode cX4_addBoiler 0 = .ok (.iload_n 1, 1) := by decide +kernel
theorem dX4_addBoiler_1 : decode cX4_addBoiler 1 = .ok (.iconst 1, 1) := by decide +kernel
theorem dX4_addBoiler_2 : decode cX4_addBoiler 2 = .ok (.iconst 5, 1) := by decide +kernel
theorem dX4_addBoiler_3 : decode cX4_addBoiler 3 = .ok (.invokestatic 38, 3) := by decide +kernel
theorem dX4_addBoiler_6 : decode cX4_addBoiler 6 = .ok (.ifCond .eq 23, 3) := by decide +kernel
theorem dX4_addBoiler_9 : decode cX4_addBoiler 9 = .ok (.iload_n 2, 1) := by decide +kernel
theorem dX4_addBoiler_10 : decode cX4_addBoiler 10 = .ok (.iconst 1, 1) := by decide +kernel
theorem dX4_addBoiler_11 : decode cX4_addBoiler 11 = .ok (.bipush 100, 2) := by decide +kernel
theorem dX4_addBoiler_13 : decode cX4_addBoiler 13 = .ok (.invokestatic 38, 3) := by decide +kernel
theorem dX4_addBoiler_16 : decode cX4_addBoiler 16 = .ok (.ifCond .eq 13, 3) := by decide +kernel
theorem dX4_addBoiler_19 : decode cX4_addBoiler 19 = .ok (.iload_n 3, 1) := by decide +kernel
theorem dX4_addBoiler_20 : decode cX4_addBoiler 20 = .ok (.iconst 1, 1) := by decide +kernel
theorem dX4_addBoiler_21 : decode cX4_addBoiler 21 = .ok (.bipush 100, 2) := by decide +kernel
theorem dX4_addBoiler_23 : decode cX4_addBoiler 23 = .ok (.invokestatic 38, 3) := by decide +kernel
theorem dX4_addBoiler_26 : decode cX4_addBoiler 26 = .ok (.ifCond .ne 13, 3) := by decide +kernel
theorem dX4_addBoiler_29 : decode cX4_addBoiler 29 = .ok (.new 42, 3) := by decide +kernel
theorem dX4_addBoiler_32 : decode cX4_addBoiler 32 = .ok (.dup, 1) := by decide +kernel
theorem dX4_addBoiler_33 : decode cX4_addBoiler 33 = .ok (.ldc 69, 2) := by decide +kernel
theorem dX4_addBoiler_35 : decode cX4_addBoiler 35 = .ok (.invokespecial 46, 3) := by decide +kernel
theorem dX4_addBoiler_38 : decode cX4_addBoiler 38 = .ok (.athrow, 1) := by decide +kernel
theorem dX4_addBoiler_39 : decode cX4_addBoiler 39 = .ok (.aload_n 0, 1) := by decide +kernel
theorem dX4_addBoiler_40 : decode cX4_addBoiler 40 = .ok (.getfield 19, 3) := by decide +kernel
theorem dX4_addBoiler_43 : decode cX4_addBoiler 43 = .ok (.getfield 71, 3) := by decide +kernel
theorem dX4_addBoiler_46 : decode cX4_addBoiler 46 = .ok (.iconst 4, 1) := by decide +kernel
theorem dX4_addBoiler_47 : decode cX4_addBoiler 47 = .ok (.if_icmp .lt 13, 3) := by decide +kernel
theorem dX4_addBoiler_50 : decode cX4_addBoiler 50 = .ok (.new 53, 3) := by decide +kernel
theorem dX4_addBoiler_53 : decode cX4_addBoiler 53 = .ok (.dup, 1) := by decide +kernel
theorem dX4_addBoiler_54 : decode cX4_addBoiler 54 = .ok (.ldc 74, 2) := by decide +kernel
theorem dX4_addBoiler_56 : decode cX4_addBoiler 56 = .ok (.invokespecial 57, 3) := by decide +kernel
theorem dX4_addBoiler_59 : decode cX4_addBoiler 59 = .ok (.athrow, 1) := by decide +kernel
theorem dX4_addBoiler_60 : decode cX4_addBoiler 60 = .ok (.aload_n 0, 1) := by decide +kernel
theorem dX4_addBoiler_61 : decode cX4_addBoiler 61 = .ok (.getfield 19, 3) := by decide +kernel
theorem dX4_addBoiler_64 : decode cX4_addBoiler 64 = .ok (.iload_n 1, 1) := by decide +kernel
theorem dX4_addBoiler_65 : decode cX4_addBoiler 65 = .ok (.iload_n 2, 1) := by decide +kernel
theorem dX4_addBoiler_66 : decode cX4_addBoiler 66 = .ok (.iload_n 3, 1) := by decide +kernel
theorem dX4_addBoiler_67 : decode cX4_addBoiler 67 = .ok (.invokevirtual 76, 3) := by decide +kernel
theorem dX4_addBoiler_70 : decode cX4_addBoiler 70 = .ok (.ireturn, 1) := by decide +kernel
set_option maxRecDepth 20000 in
theorem ggX4_setError_X4_isHouse : GoodIn wsX4_setError wsX4_isHouse := goodIn_r _ [7] (by decide +kernel) (by decide +kernel)
set_option maxRecDepth 20000 in
theorem gX4_setError_X4_isHouse : GoodIn wsX4_setError (va_wsS RX4 34 yX4_isHouse wsX4_isHouse) := goodIn_app (goodIn_of _ (by decide +kernel)) ggX4_setError_X4_isHouse
set_option maxRecDepth 20000 in
theorem ggX4_setError_X4_isWithin : GoodIn wsX4_setError wsX4_isWithin := goodIn_r _ [10] (by decide +kernel) (by decide +kernel)
set_option maxRecDepth 20000 in
theorem gX4_setError_X4_isWithin : GoodIn wsX4_setError (va_wsS RX4 38 yX4_isWithin wsX4_isWithin) := goodIn_app (goodIn_of _ (by decide +kernel)) ggX4_setError_X4_isWithin
theorem dX4_setError_0 : decode cX4_setError 0 = .ok (.iload_n 1, 1) := by decide +kernel
theorem dX4_setError_1 : decode cX4_setError 1 = .ok (.invokestatic 34, 3) := by decide +kernel
theorem dX4_setError_4 : decode cX4_setError 4 = .ok (.ifCond .eq 14, 3) := by decide +kernel
theorem dX4_setError_7 : decode cX4_setError 7 = .ok (.iload_n 2, 1) := by decide +kernel
theorem dX4_setError_8 : decode cX4_setError 8 = .ok (.bipush (-20), 2) := by decide +kernel
theorem dX4_setError_10 : decode cX4_setError 10 = .ok (.bipush 20, 2) := by decide +kernel
theorem dX4_setError_12 : decode cX4_setError 12 = .ok (.invokestatic 38, 3) := by decide +kernel
theorem dX4_setError_15 : decode cX4_setError 15 = .ok (.ifCond .ne 13, 3) := by decide +kernel
theorem dX4_setError_18 : decode cX4_setError 18 = .ok (.new 42, 3) := by decide +kernel
theorem dX4_setError_21 : decode cX4_setError 21 = .ok (.dup, 1) := by decide +kernel
theorem dX4_setError_22 : decode cX4_setError 22 = .ok (.ldc 80, 2) := by decide +kernel
theorem dX4_setError_24 : decode cX4_setError 24 = .ok (.invokespecial 46, 3) := by decide +kernel
theorem dX4_setError_27 : decode cX4_setError 27 = .ok (.athrow, 1) := by decide +kernel
theorem dX4_setError_28 : decode cX4_setError 28 = .ok (.aload_n 0, 1) := by decide +kernel
theorem dX4_setError_29 : decode cX4_setError 29 = .ok (.getfield 26, 3) := by decide +kernel
theorem dX4_setError_32 : decode cX4_setError 32 = .ok (.getfield 82, 3) := by decide +kernel
theorem dX4_setError_35 : decode cX4_setError 35 = .ok (.iload_n 1, 1) := by decide +kernel
theorem dX4_setError_36 : decode cX4_setError 36 = .ok (.iaload, 1) := by decide +kernel
theorem dX4_setError_37 : decode cX4_setError 37 = .ok (.istore_n 3, 1) := by decide +kernel
theorem dX4_setError_38 : decode cX4_setError 38 = .ok (.aload_n 0, 1) := by decide +kernel
theorem dX4_setError_39 : decode cX4_setError 39 = .ok (.getfield 26, 3) := by decide +kernel
theorem dX4_setError_42 : decode cX4_setError 42 = .ok (.getfield 82, 3) := by decide +kernel
theorem dX4_setError_45 : decode cX4_setError 45 = .ok (.iload_n 1, 1) := by decide +kernel
theorem dX4_setError_46 : decode cX4_setError 46 = .ok (.iload_n 2, 1) := by decide +kernel
theorem dX4_setError_47 : decode cX4_setError 47 = .ok (.iastore, 1) := by decide +kernel
theorem dX4_setError_48 : decode cX4_setError 48 = .ok (.iload_n 3, 1) := by decide +kernel
theorem dX4_setError_49 : decode cX4_setError 49 = .ok (.ireturn, 1) := by decide +kernel
set_option maxRecDepth 20000 in
theorem ggX4_repair_X4_isHouse : GoodIn wsX4_repair wsX4_isHouse := goodIn_r _ [11] (by decide +kernel) (by decide +kernel)
set_option maxRecDepth 20000 in
theorem gX4_repair_X4_isHouse : GoodIn wsX4_repair (va_wsS RX4 34 yX4_isHouse wsX4_isHouse) := goodIn_app (goodIn_of _ (by decide +kernel)) ggX4_repair_X4_isHouse
set_option maxRecDepth 20000 in
theorem ggX4_repair_X4_isWithin : GoodIn wsX4_repair wsX4_isWithin := goodIn_r _ [14] (by decide +kernel) (by decide +kernel)
set_option maxRecDepth 20000 in
theorem gX4_repair_X4_isWithin : GoodIn wsX4_repair (va_wsS RX4 38 yX4_isWithin wsX4_isWithin) := goodIn_app (goodIn_of _ (by decide +kernel)) ggX4_repair_X4_isWithin
set_option maxRecDepth 20000 in
theorem ggX4_repair_X2_countHousesWithoutHeat : GoodIn wsX4_repair wsX2_countHousesWithoutHeat := goodIn_r _ [18, 19, 20, 21, 22, 23, 16, 24, 25, 26, 9, 10, 11, 34, 35, 36, 37, 38, 39, 40, 41, 42] (by decide +kernel) (by decide +kernel)
set_option maxRecDepth 20000 in
theorem gX4_repair_X2_countHousesWithoutHeat_n97 : GoodIn wsX4_repair (wsX2_countHousesWithoutHeat) := ggX4_repair_X2_countHousesWithoutHeat
theorem dX4_repair_0 : decode cX4_repair 0 = .ok (.iload_n 1, 1) := by decide +kernel
theorem dX4_repair_1 : decode cX4_repair 1 = .ok (.invokestatic 34, 3) := by decide +kernel
theorem dX4_repair_4 : decode cX4_repair 4 = .ok (.ifCond .eq 13, 3) := by decide +kernel
theorem dX4_repair_7 : decode cX4_repair 7 = .ok (.iload_n 2, 1) := by decide +kernel
theorem dX4_repair_8 : decode cX4_repair 8 = .ok (.iconst 1, 1) := by decide +kernel
theorem dX4_repair_9 : decode cX4_repair 9 = .ok (.bipush 20, 2) := by decide +kernel
theorem dX4_repair_11 : decode cX4_repair 11 = .ok (.invokestatic 38, 3) := by decide +kernel
theorem dX4_repair_14 : decode cX4_repair 14 = .ok (.ifCond .ne 13, 3) := by decide +kernel
theorem dX4_repair_17 : decode cX4_repair 17 = .ok (.new 42, 3) := by decide +kernel
theorem dX4_repair_20 : decode cX4_repair 20 = .ok (.dup, 1) := by decide +kernel
theorem dX4_repair_21 : decode cX4_repair 21 = .ok (.ldc 85, 2) := by decide +kernel
theorem dX4_repair_23 : decode cX4_repair 23 = .ok (.invokespecial 46, 3) := by decide +kernel
theorem dX4_repair_26 : decode cX4_repair 26 = .ok (.athrow, 1) := by decide +kernel
theorem dX4_repair_27 : decode cX4_repair 27 = .ok (.aload_n 0, 1) := by decide +kernel
theorem dX4_repair_28 : decode cX4_repair 28 = .ok (.getfield 10, 3) := by decide +kernel
theorem dX4_repair_31 : decode cX4_repair 31 = .ok (.getfield 87, 3) := by decide +kernel
theorem dX4_repair_34 : decode cX4_repair 34 = .ok (.iload_n 1, 1) := by decide +kernel
theorem dX4_repair_35 : decode cX4_repair 35 = .ok (.iaload, 1) := by decide +kernel
theorem dX4_repair_36 : decode cX4_repair 36 = .ok (.ifCond .le 13, 3) := by decide +kernel
theorem dX4_repair_39 : decode cX4_repair 39 = .ok (.new 53, 3) := by decide +kernel
theorem dX4_repair_42 : decode cX4_repair 42 = .ok (.dup, 1) := by decide +kernel
theorem dX4_repair_43 : decode cX4_repair 43 = .ok (.ldc 90, 2) := by decide +kernel
theorem dX4_repair_45 : decode cX4_repair 45 = .ok (.invokespecial 57, 3) := by decide +kernel
theorem dX4_repair_48 : decode cX4_repair 48 = .ok (.athrow, 1) := by decide +kernel
theorem dX4_repair_49 : decode cX4_repair 49 = .ok (.aload_n 0, 1) := by decide +kernel
theorem dX4_repair_50 : decode cX4_repair 50 = .ok (.getfield 49, 3) := by decide +kernel
theorem dX4_repair_53 : decode cX4_repair 53 = .ok (.ifCond .le 22, 3) := by decide +kernel
theorem dX4_repair_56 : decode cX4_repair 56 = .ok (.aload_n 0, 1) := by decide +kernel
theorem dX4_repair_57 : decode cX4_repair 57 = .ok (.getfield 92, 3) := by decide +kernel
theorem dX4_repair_60 : decode cX4_repair 60 = .ok (.bipush 10, 2) := by decide +kernel
theorem dX4_repair_62 : decode cX4_repair 62 = .ok (.if_icmp .ge 13, 3) := by decide +kernel
theorem dX4_repair_65 : decode cX4_repair 65 = .ok (.new 53, 3) := by decide +kernel
theorem dX4_repair_68 : decode cX4_repair 68 = .ok (.dup, 1) := by decide +kernel
theorem dX4_repair_69 : decode cX4_repair 69 = .ok (.ldc 95, 2) := by decide +kernel
theorem dX4_repair_71 : decode cX4_repair 71 = .ok (.invokespecial 57, 3) := by decide +kernel
theorem dX4_repair_74 : decode cX4_repair 74 = .ok (.athrow, 1) := by decide +kernel
theorem dX4_repair_75 : decode cX4_repair 75 = .ok (.aload_n 0, 1) := by decide +kernel
theorem dX4_repair_76 : decode cX4_repair 76 = .ok (.getfield 10, 3) := by decide +kernel
theorem dX4_repair_79 : decode cX4_repair 79 = .ok (.getfield 87, 3) := by decide +kernel
theorem dX4_repair_82 : decode cX4_repair 82 = .ok (.iload_n 1, 1) := by decide +kernel
theorem dX4_repair_83 : decode cX4_repair 83 = .ok (.iload_n 2, 1) := by decide +kernel
theorem dX4_repair_84 : decode cX4_repair 84 = .ok (.iastore, 1) := by decide +kernel
theorem dX4_repair_85 : decode cX4_repair 85 = .ok (.aload_n 0, 1) := by decide +kernel
theorem dX4_repair_86 : decode cX4_repair 86 = .ok (.getfield 10, 3) := by decide +kernel
theorem dX4_repair_89 : decode cX4_repair 89 = .ok (.invokevirtual 97, 3) := by decide +kernel
theorem dX4_repair_92 : decode cX4_repair 92 = .ok (.ireturn, 1) := by decide +kernel
set_option maxRecDepth 20000 in
theorem ggX4_hour_X4_requireTemperature : GoodIn wsX4_hour wsX4_requireTemperature := goodIn_ca (goodIn_r _ [10, 11, 12, 13, 14, 9, 15] (by decide +kernel) (by decide +kernel)) (goodIn_sub (fun _ h => List.mem_cons_of_mem _ (List.mem_append_right _ h)) (by decide +kernel))
set_option maxRecDepth 20000 in
theorem gX4_hour_X4_requireTemperature : GoodIn wsX4_hour (va_wsS RX4 101 yX4_requireTemperature wsX4_requireTemperature) := goodIn_app (goodIn_of _ (by decide +kernel)) ggX4_hour_X4_requireTemperature
set_option maxRecDepth 20000 in
theorem ggX4_hour_X2_survey : GoodIn wsX4_hour wsX2_survey := goodIn_r _ [19, 20, 21, 22, 23, 24, 25, 26, 17, 27, 28, 29, 30, 9, 31, 32, 33, 34, 35, 36, 37, 38, 39, 40, 41, 42, 43, 102, 103, 104, 105, 106, 107, 108, 109, 110] (by decide +kernel) (by decide +kernel)
set_option maxRecDepth 20000 in
theorem gX4_hour_X2_survey_n105 : GoodIn wsX4_hour (wsX2_survey) := ggX4_hour_X2_survey
set_option maxRecDepth 20000 in
theorem ggX4_hour_X2_serve : GoodIn wsX4_hour wsX2_serve := goodIn_r _ [46, 23, 47, 48, 49, 50, 51, 20, 52, 53, 54, 102, 103, 104, 105, 106, 107, 108, 109, 110] (by decide +kernel) (by decide +kernel)
set_option maxRecDepth 20000 in
theorem gX4_hour_X2_serve_n112 : GoodIn wsX4_hour (wsX2_serve) := ggX4_hour_X2_serve
set_option maxRecDepth 20000 in
theorem ggX4_hour_X3_fire : GoodIn wsX4_hour wsX3_fire := goodIn_r _ [58, 59, 60, 61, 62, 63, 64, 65, 66, 67, 68, 53, 49, 54, 98, 99, 100, 101, 111, 112, 113, 114, 115, 116] (by decide +kernel) (by decide +kernel)
set_option maxRecDepth 20000 in
theorem gX4_hour_X3_fire_n115 : GoodIn wsX4_hour (wsX3_fire) := ggX4_hour_X3_fire
set_option maxRecDepth 20000 in
theorem ggX4_hour_X1_read : GoodIn wsX4_hour wsX1_read := goodIn_r _ [72, 73, 74, 75, 76, 77, 30, 9, 31, 40, 17, 41, 42, 38, 43, 117, 118, 119, 120, 121, 102, 103, 104, 105, 106, 107, 108, 109, 110] (by decide +kernel) (by decide +kernel)
set_option maxRecDepth 20000 in
theorem gX4_hour_X1_read_n118 : GoodIn wsX4_hour (wsX1_read) := ggX4_hour_X1_read
set_option maxRecDepth 20000 in
theorem ggX4_hour_X4_isPeak : GoodIn wsX4_hour wsX4_isPeak := goodIn_r _ [81, 2, 91, 92, 93, 94, 95, 96, 97, 98, 99, 100, 101] (by decide +kernel) (by decide +kernel)
set_option maxRecDepth 20000 in
theorem gX4_hour_X4_isPeak : GoodIn wsX4_hour (wsV RX4 122 RX4 yX4_isPeak wsX4_isPeak) := goodIn_app (goodIn_of _ (by decide +kernel)) ggX4_hour_X4_isPeak
set_option maxRecDepth 20000 in
theorem ggX4_hour_X4_charge : GoodIn wsX4_hour wsX4_charge := goodIn_r _ [85, 1, 86, 87, 32, 9, 33, 91, 92, 93, 94, 95, 96, 97, 102, 103, 104, 105, 106, 107, 108, 109, 110] (by decide +kernel) (by decide +kernel)
set_option maxRecDepth 20000 in
theorem gX4_hour_X4_charge : GoodIn wsX4_hour (wsV RX4 125 RX4 yX4_charge wsX4_charge) := goodIn_app (goodIn_of _ (by decide +kernel)) ggX4_hour_X4_charge
set_option maxRecDepth 20000 in
theorem ggX4_hour_X2_endHourOfRepairs : GoodIn wsX4_hour wsX2_endHourOfRepairs := goodIn_r _ [90, 29, 102, 103, 104, 105, 106, 107, 108, 109, 110] (by decide +kernel) (by decide +kernel)
set_option maxRecDepth 20000 in
theorem gX4_hour_X2_endHourOfRepairs_n129 : GoodIn wsX4_hour (wsX2_endHourOfRepairs) := ggX4_hour_X2_endHourOfRepairs
theorem dX4_hour_0 : decode cX4_hour 0 = .ok (.iload_n 1, 1) := by decide +kernel
theorem dX4_hour_1 : decode cX4_hour 1 = .ok (.invokestatic 101, 3) := by decide +kernel
theorem dX4_hour_4 : decode cX4_hour 4 = .ok (.aload_n 0, 1) := by decide +kernel
theorem dX4_hour_5 : decode cX4_hour 5 = .ok (.getfield 10, 3) := by decide +kernel
theorem dX4_hour_8 : decode cX4_hour 8 = .ok (.iload_n 1, 1) := by decide +kernel
theorem dX4_hour_9 : decode cX4_hour 9 = .ok (.invokevirtual 105, 3) := by decide +kernel
theorem dX4_hour_12 : decode cX4_hour 12 = .ok (.istore_n 2, 1) := by decide +kernel
theorem dX4_hour_13 : decode cX4_hour 13 = .ok (.aload_n 0, 1) := by decide +kernel
theorem dX4_hour_14 : decode cX4_hour 14 = .ok (.getfield 10, 3) := by decide +kernel
theorem dX4_hour_17 : decode cX4_hour 17 = .ok (.aload_n 0, 1) := by decide +kernel
theorem dX4_hour_18 : decode cX4_hour 18 = .ok (.getfield 19, 3) := by decide +kernel
theorem dX4_hour_21 : decode cX4_hour 21 = .ok (.getfield 109, 3) := by decide +kernel
theorem dX4_hour_24 : decode cX4_hour 24 = .ok (.invokevirtual 112, 3) := by decide +kernel
theorem dX4_hour_27 : decode cX4_hour 27 = .ok (.aload_n 0, 1) := by decide +kernel
theorem dX4_hour_28 : decode cX4_hour 28 = .ok (.getfield 19, 3) := by decide +kernel
theorem dX4_hour_31 : decode cX4_hour 31 = .ok (.iload_n 2, 1) := by decide +kernel
theorem dX4_hour_32 : decode cX4_hour 32 = .ok (.invokevirtual 115, 3) := by decide +kernel
theorem dX4_hour_35 : decode cX4_hour 35 = .ok (.aload_n 0, 1) := by decide +kernel
theorem dX4_hour_36 : decode cX4_hour 36 = .ok (.getfield 26, 3) := by decide +kernel
theorem dX4_hour_39 : decode cX4_hour 39 = .ok (.aload_n 0, 1) := by decide +kernel
theorem dX4_hour_40 : decode cX4_hour 40 = .ok (.getfield 10, 3) := by decide +kernel
theorem dX4_hour_43 : decode cX4_hour 43 = .ok (.invokevirtual 118, 3) := by decide +kernel
theorem dX4_hour_46 : decode cX4_hour 46 = .ok (.aload_n 0, 1) := by decide +kernel
theorem dX4_hour_47 : decode cX4_hour 47 = .ok (.iload_n 1, 1) := by decide +kernel
theorem dX4_hour_48 : decode cX4_hour 48 = .ok (.aload_n 0, 1) := by decide +kernel
theorem dX4_hour_49 : decode cX4_hour 49 = .ok (.iload_n 2, 1) := by decide +kernel
theorem dX4_hour_50 : decode cX4_hour 50 = .ok (.invokevirtual 122, 3) := by decide +kernel
theorem dX4_hour_53 : decode cX4_hour 53 = .ok (.invokevirtual 125, 3) := by decide +kernel
theorem dX4_hour_56 : decode cX4_hour 56 = .ok (.aload_n 0, 1) := by decide +kernel
theorem dX4_hour_57 : decode cX4_hour 57 = .ok (.getfield 10, 3) := by decide +kernel
theorem dX4_hour_60 : decode cX4_hour 60 = .ok (.invokevirtual 129, 3) := by decide +kernel
theorem dX4_hour_63 : decode cX4_hour 63 = .ok (.aload_n 0, 1) := by decide +kernel
theorem dX4_hour_64 : decode cX4_hour 64 = .ok (.aload_n 0, 1) := by decide +kernel
theorem dX4_hour_65 : decode cX4_hour 65 = .ok (.getfield 10, 3) := by decide +kernel
theorem dX4_hour_68 : decode cX4_hour 68 = .ok (.getfield 132, 3) := by decide +kernel
theorem dX4_hour_71 : decode cX4_hour 71 = .ok (.putfield 135, 3) := by decide +kernel
theorem dX4_hour_74 : decode cX4_hour 74 = .ok (.aload_n 0, 1) := by decide +kernel
theorem dX4_hour_75 : decode cX4_hour 75 = .ok (.iload_n 1, 1) := by decide +kernel
theorem dX4_hour_76 : decode cX4_hour 76 = .ok (.putfield 92, 3) := by decide +kernel
theorem dX4_hour_79 : decode cX4_hour 79 = .ok (.aload_n 0, 1) := by decide +kernel
theorem dX4_hour_80 : decode cX4_hour 80 = .ok (.dup, 1) := by decide +kernel
theorem dX4_hour_81 : decode cX4_hour 81 = .ok (.getfield 49, 3) := by decide +kernel
theorem dX4_hour_84 : decode cX4_hour 84 = .ok (.iconst 1, 1) := by decide +kernel
theorem dX4_hour_85 : decode cX4_hour 85 = .ok (.iadd, 1) := by decide +kernel
theorem dX4_hour_86 : decode cX4_hour 86 = .ok (.putfield 49, 3) := by decide +kernel
theorem dX4_hour_89 : decode cX4_hour 89 = .ok (.iload_n 2, 1) := by decide +kernel
theorem dX4_hour_90 : decode cX4_hour 90 = .ok (.ireturn, 1) := by decide +kernel
theorem dX4_hours_0 : decode cX4_hours 0 = .ok (.aload_n 0, 1) := by decide +kernel
theorem dX4_hours_1 : decode cX4_hours 1 = .ok (.getfield 49, 3) := by decide +kernel
theorem dX4_hours_4 : decode cX4_hours 4 = .ok (.ireturn, 1) := by decide +kernel
set_option maxRecDepth 20000 in
theorem ggX4_load_X4_requireTemperature : GoodIn wsX4_load wsX4_requireTemperature := goodIn_ca (goodIn_r _ [5, 6, 7, 8, 9, 4, 10] (by decide +kernel) (by decide +kernel)) (goodIn_sub (fun _ h => List.mem_cons_of_mem _ (List.mem_append_right _ h)) (by decide +kernel))
set_option maxRecDepth 20000 in
theorem gX4_load_X4_requireTemperature : GoodIn wsX4_load (va_wsS RX4 101 yX4_requireTemperature wsX4_requireTemperature) := goodIn_app (goodIn_of _ (by decide +kernel)) ggX4_load_X4_requireTemperature
set_option maxRecDepth 20000 in
theorem ggX4_load_X2_survey : GoodIn wsX4_load wsX2_survey := goodIn_r _ [14, 15, 16, 17, 18, 19, 20, 21, 12, 22, 23, 24, 25, 4, 26, 27, 28, 29, 30, 31, 32, 33, 34, 35, 36, 37, 38, 46, 47, 48, 49, 50, 51, 52, 53, 54] (by decide +kernel) (by decide +kernel)
set_option maxRecDepth 20000 in
theorem gX4_load_X2_survey_n105 : GoodIn wsX4_load (wsX2_survey) := ggX4_load_X2_survey
theorem dX4_load_0 : decode cX4_load 0 = .ok (.iload_n 1, 1) := by decide +kernel
theorem dX4_load_1 : decode cX4_load 1 = .ok (.invokestatic 101, 3) := by decide +kernel
theorem dX4_load_4 : decode cX4_load 4 = .ok (.aload_n 0, 1) := by decide +kernel
theorem dX4_load_5 : decode cX4_load 5 = .ok (.getfield 10, 3) := by decide +kernel
theorem dX4_load_8 : decode cX4_load 8 = .ok (.iload_n 1, 1) := by decide +kernel
theorem dX4_load_9 : decode cX4_load 9 = .ok (.invokevirtual 105, 3) := by decide +kernel
theorem dX4_load_12 : decode cX4_load 12 = .ok (.ireturn, 1) := by decide +kernel
set_option maxRecDepth 20000 in
theorem ggX4_fired_X3_find : GoodIn wsX4_fired wsX3_find := goodIn_r _ [7, 8, 22, 23, 24, 25, 16, 17, 18, 19, 20, 21] (by decide +kernel) (by decide +kernel)
set_option maxRecDepth 20000 in
theorem gX4_fired_X3_find_n138 : GoodIn wsX4_fired (wsX3_find) := ggX4_fired_X3_find
theorem dX4_fired_0 : decode cX4_fired 0 = .ok (.aload_n 0, 1) := by decide +kernel
theorem dX4_fired_1 : decode cX4_fired 1 = .ok (.getfield 19, 3) := by decide +kernel
theorem dX4_fired_4 : decode cX4_fired 4 = .ok (.iload_n 1, 1) := by decide +kernel
theorem dX4_fired_5 : decode cX4_fired 5 = .ok (.invokevirtual 138, 3) := by decide +kernel
theorem dX4_fired_8 : decode cX4_fired 8 = .ok (.astore_n 2, 1) := by decide +kernel
theorem dX4_fired_9 : decode cX4_fired 9 = .ok (.aload_n 2, 1) := by decide +kernel
theorem dX4_fired_10 : decode cX4_fired 10 = .ok (.ifnonnull 13, 3) := by decide +kernel
theorem dX4_fired_13 : decode cX4_fired 13 = .ok (.new 142, 3) := by decide +kernel
theorem dX4_fired_16 : decode cX4_fired 16 = .ok (.dup, 1) := by decide +kernel
theorem dX4_fired_17 : decode cX4_fired 17 = .ok (.ldc 144, 2) := by decide +kernel
theorem dX4_fired_19 : decode cX4_fired 19 = .ok (.invokespecial 146, 3) := by decide +kernel
theorem dX4_fired_22 : decode cX4_fired 22 = .ok (.athrow, 1) := by decide +kernel
theorem dX4_fired_23 : decode cX4_fired 23 = .ok (.aload_n 2, 1) := by decide +kernel
theorem dX4_fired_24 : decode cX4_fired 24 = .ok (.getfield 147, 3) := by decide +kernel
theorem dX4_fired_27 : decode cX4_fired 27 = .ok (.ireturn, 1) := by decide +kernel
set_option maxRecDepth 20000 in
theorem ggX4_got_X4_isHouse : GoodIn wsX4_got wsX4_isHouse := goodIn_r _ [7] (by decide +kernel) (by decide +kernel)
set_option maxRecDepth 20000 in
theorem gX4_got_X4_isHouse : GoodIn wsX4_got (va_wsS RX4 34 yX4_isHouse wsX4_isHouse) := goodIn_app (goodIn_of _ (by decide +kernel)) ggX4_got_X4_isHouse
theorem dX4_got_0 : decode cX4_got 0 = .ok (.iload_n 1, 1) := by decide +kernel
theorem dX4_got_1 : decode cX4_got 1 = .ok (.invokestatic 34, 3) := by decide +kernel
theorem dX4_got_4 : decode cX4_got 4 = .ok (.ifCond .ne 13, 3) := by decide +kernel
theorem dX4_got_7 : decode cX4_got 7 = .ok (.new 42, 3) := by decide +kernel
theorem dX4_got_10 : decode cX4_got 10 = .ok (.dup, 1) := by decide +kernel
theorem dX4_got_11 : decode cX4_got 11 = .ok (.ldc 152, 2) := by decide +kernel
theorem dX4_got_13 : decode cX4_got 13 = .ok (.invokespecial 46, 3) := by decide +kernel
theorem dX4_got_16 : decode cX4_got 16 = .ok (.athrow, 1) := by decide +kernel
theorem dX4_got_17 : decode cX4_got 17 = .ok (.aload_n 0, 1) := by decide +kernel
theorem dX4_got_18 : decode cX4_got 18 = .ok (.getfield 10, 3) := by decide +kernel
theorem dX4_got_21 : decode cX4_got 21 = .ok (.getfield 154, 3) := by decide +kernel
theorem dX4_got_24 : decode cX4_got 24 = .ok (.iload_n 1, 1) := by decide +kernel
theorem dX4_got_25 : decode cX4_got 25 = .ok (.iaload, 1) := by decide +kernel
theorem dX4_got_26 : decode cX4_got 26 = .ok (.ireturn, 1) := by decide +kernel
set_option maxRecDepth 20000 in
theorem ggX4_meter_X4_isHouse : GoodIn wsX4_meter wsX4_isHouse := goodIn_r _ [7] (by decide +kernel) (by decide +kernel)
set_option maxRecDepth 20000 in
theorem gX4_meter_X4_isHouse : GoodIn wsX4_meter (va_wsS RX4 34 yX4_isHouse wsX4_isHouse) := goodIn_app (goodIn_of _ (by decide +kernel)) ggX4_meter_X4_isHouse
theorem dX4_meter_0 : decode cX4_meter 0 = .ok (.iload_n 1, 1) := by decide +kernel
theorem dX4_meter_1 : decode cX4_meter 1 = .ok (.invokestatic 34, 3) := by decide +kernel
theorem dX4_meter_4 : decode cX4_meter 4 = .ok (.ifCond .ne 13, 3) := by decide +kernel
theorem dX4_meter_7 : decode cX4_meter 7 = .ok (.new 42, 3) := by decide +kernel
theorem dX4_meter_10 : decode cX4_meter 10 = .ok (.dup, 1) := by decide +kernel
theorem dX4_meter_11 : decode cX4_meter 11 = .ok (.ldc 152, 2) := by decide +kernel
theorem dX4_meter_13 : decode cX4_meter 13 = .ok (.invokespecial 46, 3) := by decide +kernel
theorem dX4_meter_16 : decode cX4_meter 16 = .ok (.athrow, 1) := by decide +kernel
theorem dX4_meter_17 : decode cX4_meter 17 = .ok (.aload_n 0, 1) := by decide +kernel
theorem dX4_meter_18 : decode cX4_meter 18 = .ok (.getfield 26, 3) := by decide +kernel
theorem dX4_meter_21 : decode cX4_meter 21 = .ok (.getfield 157, 3) := by decide +kernel
theorem dX4_meter_24 : decode cX4_meter 24 = .ok (.iload_n 1, 1) := by decide +kernel
theorem dX4_meter_25 : decode cX4_meter 25 = .ok (.iaload, 1) := by decide +kernel
theorem dX4_meter_26 : decode cX4_meter 26 = .ok (.ireturn, 1) := by decide +kernel
set_option maxRecDepth 20000 in
theorem ggX4_isSuspected_X4_isHouse : GoodIn wsX4_isSuspected wsX4_isHouse := goodIn_r _ [7] (by decide +kernel) (by decide +kernel)
set_option maxRecDepth 20000 in
theorem gX4_isSuspected_X4_isHouse : GoodIn wsX4_isSuspected (va_wsS RX4 34 yX4_isHouse wsX4_isHouse) := goodIn_app (goodIn_of _ (by decide +kernel)) ggX4_isSuspected_X4_isHouse
theorem dX4_isSuspected_0 : decode cX4_isSuspected 0 = .ok (.iload_n 1, 1) := by decide +kernel
theorem dX4_isSuspected_1 : decode cX4_isSuspected 1 = .ok (.invokestatic 34, 3) := by decide +kernel
theorem dX4_isSuspected_4 : decode cX4_isSuspected 4 = .ok (.ifCond .ne 13, 3) := by decide +kernel
theorem dX4_isSuspected_7 : decode cX4_isSuspected 7 = .ok (.new 42, 3) := by decide +kernel
theorem dX4_isSuspected_10 : decode cX4_isSuspected 10 = .ok (.dup, 1) := by decide +kernel
theorem dX4_isSuspected_11 : decode cX4_isSuspected 11 = .ok (.ldc 152, 2) := by decide +kernel
theorem dX4_isSuspected_13 : decode cX4_isSuspected 13 = .ok (.invokespecial 46, 3) := by decide +kernel
theorem dX4_isSuspected_16 : decode cX4_isSuspected 16 = .ok (.athrow, 1) := by decide +kernel
theorem dX4_isSuspected_17 : decode cX4_isSuspected 17 = .ok (.aload_n 0, 1) := by decide +kernel
theorem dX4_isSuspected_18 : decode cX4_isSuspected 18 = .ok (.getfield 26, 3) := by decide +kernel
theorem dX4_isSuspected_21 : decode cX4_isSuspected 21 = .ok (.getfield 160, 3) := by decide +kernel
theorem dX4_isSuspected_24 : decode cX4_isSuspected 24 = .ok (.iload_n 1, 1) := by decide +kernel
theorem dX4_isSuspected_25 : decode cX4_isSuspected 25 = .ok (.baload, 1) := by decide +kernel
theorem dX4_isSuspected_26 : decode cX4_isSuspected 26 = .ok (.ireturn, 1) := by decide +kernel
theorem dX4_losses_0 : decode cX4_losses 0 = .ok (.aload_n 0, 1) := by decide +kernel
theorem dX4_losses_1 : decode cX4_losses 1 = .ok (.getfield 135, 3) := by decide +kernel
theorem dX4_losses_4 : decode cX4_losses 4 = .ok (.ireturn, 1) := by decide +kernel
set_option maxRecDepth 20000 in
theorem ggX4_bill_X4_isHouse : GoodIn wsX4_bill wsX4_isHouse := goodIn_r _ [7] (by decide +kernel) (by decide +kernel)
set_option maxRecDepth 20000 in
theorem gX4_bill_X4_isHouse : GoodIn wsX4_bill (va_wsS RX4 34 yX4_isHouse wsX4_isHouse) := goodIn_app (goodIn_of _ (by decide +kernel)) ggX4_bill_X4_isHouse
theorem dX4_bill_0 : decode cX4_bill 0 = .ok (.iload_n 1, 1) := by decide +kernel
theorem dX4_bill_1 : decode cX4_bill 1 = .ok (.invokestatic 34, 3) := by decide +kernel
theorem dX4_bill_4 : decode cX4_bill 4 = .ok (.ifCond .ne 13, 3) := by decide +kernel
theorem dX4_bill_7 : decode cX4_bill 7 = .ok (.new 42, 3) := by decide +kernel
theorem dX4_bill_10 : decode cX4_bill 10 = .ok (.dup, 1) := by decide +kernel
theorem dX4_bill_11 : decode cX4_bill 11 = .ok (.ldc 152, 2) := by decide +kernel
theorem dX4_bill_13 : decode cX4_bill 13 = .ok (.invokespecial 46, 3) := by decide +kernel
theorem dX4_bill_16 : decode cX4_bill 16 = .ok (.athrow, 1) := by decide +kernel
theorem dX4_bill_17 : decode cX4_bill 17 = .ok (.aload_n 0, 1) := by decide +kernel
theorem dX4_bill_18 : decode cX4_bill 18 = .ok (.getfield 30, 3) := by decide +kernel
theorem dX4_bill_21 : decode cX4_bill 21 = .ok (.iload_n 1, 1) := by decide +kernel
theorem dX4_bill_22 : decode cX4_bill 22 = .ok (.iaload, 1) := by decide +kernel
theorem dX4_bill_23 : decode cX4_bill 23 = .ok (.ireturn, 1) := by decide +kernel
theorem dX4_cost_0 : decode cX4_cost 0 = .ok (.aload_n 0, 1) := by decide +kernel
theorem dX4_cost_1 : decode cX4_cost 1 = .ok (.getfield 19, 3) := by decide +kernel
theorem dX4_cost_4 : decode cX4_cost 4 = .ok (.getfield 164, 3) := by decide +kernel
theorem dX4_cost_7 : decode cX4_cost 7 = .ok (.ireturn, 1) := by decide +kernel
set_option maxRecDepth 20000 in
theorem ggX4_isOpen_X4_isHouse : GoodIn wsX4_isOpen wsX4_isHouse := goodIn_r _ [7] (by decide +kernel) (by decide +kernel)
set_option maxRecDepth 20000 in
theorem gX4_isOpen_X4_isHouse : GoodIn wsX4_isOpen (va_wsS RX4 34 yX4_isHouse wsX4_isHouse) := goodIn_app (goodIn_of _ (by decide +kernel)) ggX4_isOpen_X4_isHouse
theorem dX4_isOpen_0 : decode cX4_isOpen 0 = .ok (.iload_n 1, 1) := by decide +kernel
theorem dX4_isOpen_1 : decode cX4_isOpen 1 = .ok (.invokestatic 34, 3) := by decide +kernel
theorem dX4_isOpen_4 : decode cX4_isOpen 4 = .ok (.ifCond .ne 13, 3) := by decide +kernel
theorem dX4_isOpen_7 : decode cX4_isOpen 7 = .ok (.new 42, 3) := by decide +kernel
theorem dX4_isOpen_10 : decode cX4_isOpen 10 = .ok (.dup, 1) := by decide +kernel
theorem dX4_isOpen_11 : decode cX4_isOpen 11 = .ok (.ldc 152, 2) := by decide +kernel
theorem dX4_isOpen_13 : decode cX4_isOpen 13 = .ok (.invokespecial 46, 3) := by decide +kernel
theorem dX4_isOpen_16 : decode cX4_isOpen 16 = .ok (.athrow, 1) := by decide +kernel
theorem dX4_isOpen_17 : decode cX4_isOpen 17 = .ok (.aload_n 0, 1) := by decide +kernel
theorem dX4_isOpen_18 : decode cX4_isOpen 18 = .ok (.getfield 10, 3) := by decide +kernel
theorem dX4_isOpen_21 : decode cX4_isOpen 21 = .ok (.getfield 87, 3) := by decide +kernel
theorem dX4_isOpen_24 : decode cX4_isOpen 24 = .ok (.iload_n 1, 1) := by decide +kernel
theorem dX4_isOpen_25 : decode cX4_isOpen 25 = .ok (.iaload, 1) := by decide +kernel
theorem dX4_isOpen_26 : decode cX4_isOpen 26 = .ok (.ifCond .ne 7, 3) := by decide +kernel
theorem dX4_isOpen_29 : decode cX4_isOpen 29 = .ok (.iconst 1, 1) := by decide +kernel
theorem dX4_isOpen_30 : decode cX4_isOpen 30 = .ok (.goto 4, 3) := by decide +kernel
theorem dX4_isOpen_33 : decode cX4_isOpen 33 = .ok (.iconst 0, 1) := by decide +kernel
theorem dX4_isOpen_34 : decode cX4_isOpen 34 = .ok (.ireturn, 1) := by decide +kernel
theorem dX4_isPeak_0 : decode cX4_isPeak 0 = .ok (.iconst 2, 1) := by decide +kernel
theorem dX4_isPeak_1 : decode cX4_isPeak 1 = .ok (.iload_n 1, 1) := by decide +kernel
theorem dX4_isPeak_2 : decode cX4_isPeak 2 = .ok (.imul, 1) := by decide +kernel
theorem dX4_isPeak_3 : decode cX4_isPeak 3 = .ok (.aload_n 0, 1) := by decide +kernel
theorem dX4_isPeak_4 : decode cX4_isPeak 4 = .ok (.getfield 19, 3) := by decide +kernel
theorem dX4_isPeak_7 : decode cX4_isPeak 7 = .ok (.getfield 109, 3) := by decide +kernel
theorem dX4_isPeak_10 : decode cX4_isPeak 10 = .ok (.if_icmp .le 7, 3) := by decide +kernel
theorem dX4_isPeak_13 : decode cX4_isPeak 13 = .ok (.iconst 1, 1) := by decide +kernel
theorem dX4_isPeak_14 : decode cX4_isPeak 14 = .ok (.goto 4, 3) := by decide +kernel
theorem dX4_isPeak_17 : decode cX4_isPeak 17 = .ok (.iconst 0, 1) := by decide +kernel
theorem dX4_isPeak_18 : decode cX4_isPeak 18 = .ok (.ireturn, 1) := by decide +kernel
set_option maxRecDepth 20000 in
theorem ggX4_charge_X4_wantedHeat : GoodIn wsX4_charge wsX4_wantedHeat := goodIn_r _ [6] (by decide +kernel) (by decide +kernel)
set_option maxRecDepth 20000 in
theorem gX4_charge_X4_wantedHeat : GoodIn wsX4_charge (va_wsS RX4 170 yX4_wantedHeat wsX4_wantedHeat) := goodIn_app (goodIn_of _ (by decide +kernel)) ggX4_charge_X4_wantedHeat
theorem dX4_charge_0 : decode cX4_charge 0 = .ok (.iload_n 2, 1) := by decide +kernel
theorem dX4_charge_1 : decode cX4_charge 1 = .ok (.ifCond .eq 7, 3) := by decide +kernel
theorem dX4_charge_4 : decode cX4_charge 4 = .ok (.iconst 3, 1) := by decide +kernel
theorem dX4_charge_5 : decode cX4_charge 5 = .ok (.goto 4, 3) := by decide +kernel
theorem dX4_charge_8 : decode cX4_charge 8 = .ok (.iconst 2, 1) := by decide +kernel
theorem dX4_charge_9 : decode cX4_charge 9 = .ok (.istore_n 3, 1) := by decide +kernel
theorem dX4_charge_10 : decode cX4_charge 10 = .ok (.iconst 1, 1) := by decide +kernel
theorem dX4_charge_11 : decode cX4_charge 11 = .ok (.istore 4, 2) := by decide +kernel
theorem dX4_charge_13 : decode cX4_charge 13 = .ok (.iload 4, 2) := by decide +kernel
theorem dX4_charge_15 : decode cX4_charge 15 = .ok (.bipush 12, 2) := by decide +kernel
theorem dX4_charge_17 : decode cX4_charge 17 = .ok (.if_icmp .ge 75, 3) := by decide +kernel
theorem dX4_charge_20 : decode cX4_charge 20 = .ok (.aload_n 0, 1) := by decide +kernel
theorem dX4_charge_21 : decode cX4_charge 21 = .ok (.getfield 10, 3) := by decide +kernel
theorem dX4_charge_24 : decode cX4_charge 24 = .ok (.getfield 167, 3) := by decide +kernel
theorem dX4_charge_27 : decode cX4_charge 27 = .ok (.iload 4, 2) := by decide +kernel
theorem dX4_charge_29 : decode cX4_charge 29 = .ok (.baload, 1) := by decide +kernel
theorem dX4_charge_30 : decode cX4_charge 30 = .ok (.ifCond .eq 28, 3) := by decide +kernel
theorem dX4_charge_33 : decode cX4_charge 33 = .ok (.aload_n 0, 1) := by decide +kernel
theorem dX4_charge_34 : decode cX4_charge 34 = .ok (.getfield 30, 3) := by decide +kernel
theorem dX4_charge_37 : decode cX4_charge 37 = .ok (.iload 4, 2) := by decide +kernel
theorem dX4_charge_39 : decode cX4_charge 39 = .ok (.dup2, 1) := by decide +kernel
theorem dX4_charge_40 : decode cX4_charge 40 = .ok (.iaload, 1) := by decide +kernel
theorem dX4_charge_41 : decode cX4_charge 41 = .ok (.iload_n 3, 1) := by decide +kernel
theorem dX4_charge_42 : decode cX4_charge 42 = .ok (.aload_n 0, 1) := by decide +kernel
theorem dX4_charge_43 : decode cX4_charge 43 = .ok (.getfield 10, 3) := by decide +kernel
theorem dX4_charge_46 : decode cX4_charge 46 = .ok (.getfield 154, 3) := by decide +kernel
theorem dX4_charge_49 : decode cX4_charge 49 = .ok (.iload 4, 2) := by decide +kernel
theorem dX4_charge_51 : decode cX4_charge 51 = .ok (.iaload, 1) := by decide +kernel
theorem dX4_charge_52 : decode cX4_charge 52 = .ok (.imul, 1) := by decide +kernel
theorem dX4_charge_53 : decode cX4_charge 53 = .ok (.iadd, 1) := by decide +kernel
theorem dX4_charge_54 : decode cX4_charge 54 = .ok (.iastore, 1) := by decide +kernel
theorem dX4_charge_55 : decode cX4_charge 55 = .ok (.goto 31, 3) := by decide +kernel
theorem dX4_charge_58 : decode cX4_charge 58 = .ok (.aload_n 0, 1) := by decide +kernel
theorem dX4_charge_59 : decode cX4_charge 59 = .ok (.getfield 10, 3) := by decide +kernel
theorem dX4_charge_62 : decode cX4_charge 62 = .ok (.getfield 66, 3) := by decide +kernel
theorem dX4_charge_65 : decode cX4_charge 65 = .ok (.iload 4, 2) := by decide +kernel
theorem dX4_charge_67 : decode cX4_charge 67 = .ok (.iaload, 1) := by decide +kernel
theorem dX4_charge_68 : decode cX4_charge 68 = .ok (.iload_n 1, 1) := by decide +kernel
theorem dX4_charge_69 : decode cX4_charge 69 = .ok (.invokestatic 170, 3) := by decide +kernel
theorem dX4_charge_72 : decode cX4_charge 72 = .ok (.ifCond .le 14, 3) := by decide +kernel
theorem dX4_charge_75 : decode cX4_charge 75 = .ok (.aload_n 0, 1) := by decide +kernel
theorem dX4_charge_76 : decode cX4_charge 76 = .ok (.getfield 30, 3) := by decide +kernel
theorem dX4_charge_79 : decode cX4_charge 79 = .ok (.iload 4, 2) := by decide +kernel
theorem dX4_charge_81 : decode cX4_charge 81 = .ok (.dup2, 1) := by decide +kernel
theorem dX4_charge_82 : decode cX4_charge 82 = .ok (.iaload, 1) := by decide +kernel
theorem dX4_charge_83 : decode cX4_charge 83 = .ok (.iconst 3, 1) := by decide +kernel
theorem dX4_charge_84 : decode cX4_charge 84 = .ok (.isub, 1) := by decide +kernel
theorem dX4_charge_85 : decode cX4_charge 85 = .ok (.iastore, 1) := by decide +kernel
theorem dX4_charge_86 : decode cX4_charge 86 = .ok (.iinc 4 1, 3) := by decide +kernel
theorem dX4_charge_89 : decode cX4_charge 89 = .ok (.goto (-76), 3) := by decide +kernel
theorem dX4_charge_92 : decode cX4_charge 92 = .ok (.return_, 1) := by decide +kernel
set_option maxRecDepth 20000 in
theorem ggX4_requireTemperature_X4_isWithin : GoodIn wsX4_requireTemperature wsX4_isWithin := goodIn_r _ [6] (by decide +kernel) (by decide +kernel)
set_option maxRecDepth 20000 in
theorem gX4_requireTemperature_X4_isWithin : GoodIn wsX4_requireTemperature (va_wsS RX4 38 yX4_isWithin wsX4_isWithin) := goodIn_app (goodIn_of _ (by decide +kernel)) ggX4_requireTemperature_X4_isWithin
theorem dX4_requireTemperature_0 : decode cX4_requireTemperature 0 = .ok (.iload_n 0, 1) := by decide +kernel
theorem dX4_requireTemperature_1 : decode cX4_requireTemperature 1 = .ok (.bipush (-20), 2) := by decide +kernel
theorem dX4_requireTemperature_3 : decode cX4_requireTemperature 3 = .ok (.bipush 30, 2) := by decide +kernel
theorem dX4_requireTemperature_5 : decode cX4_requireTemperature 5 = .ok (.invokestatic 38, 3) := by decide +kernel
theorem dX4_requireTemperature_8 : decode cX4_requireTemperature 8 = .ok (.ifCond .ne 13, 3) := by decide +kernel
theorem dX4_requireTemperature_11 : decode cX4_requireTemperature 11 = .ok (.new 42, 3) := by decide +kernel
theorem dX4_requireTemperature_14 : decode cX4_requireTemperature 14 = .ok (.dup, 1) := by decide +kernel
theorem dX4_requireTemperature_15 : decode cX4_requireTemperature 15 = .ok (.ldc 174, 2) := by decide +kernel
theorem dX4_requireTemperature_17 : decode cX4_requireTemperature 17 = .ok (.invokespecial 46, 3) := by decide +kernel
theorem dX4_requireTemperature_20 : decode cX4_requireTemperature 20 = .ok (.athrow, 1) := by decide +kernel
theorem dX4_requireTemperature_21 : decode cX4_requireTemperature 21 = .ok (.return_, 1) := by decide +kernel
theorem dX4_isHouse_0 : decode cX4_isHouse 0 = .ok (.iload_n 0, 1) := by decide +kernel
theorem dX4_isHouse_1 : decode cX4_isHouse 1 = .ok (.iconst 1, 1) := by decide +kernel
theorem dX4_isHouse_2 : decode cX4_isHouse 2 = .ok (.if_icmp .lt 13, 3) := by decide +kernel
theorem dX4_isHouse_5 : decode cX4_isHouse 5 = .ok (.iload_n 0, 1) := by decide +kernel
theorem dX4_isHouse_6 : decode cX4_isHouse 6 = .ok (.bipush 12, 2) := by decide +kernel
theorem dX4_isHouse_8 : decode cX4_isHouse 8 = .ok (.if_icmp .ge 7, 3) := by decide +kernel
theorem dX4_isHouse_11 : decode cX4_isHouse 11 = .ok (.iconst 1, 1) := by decide +kernel
theorem dX4_isHouse_12 : decode cX4_isHouse 12 = .ok (.goto 4, 3) := by decide +kernel
theorem dX4_isHouse_15 : decode cX4_isHouse 15 = .ok (.iconst 0, 1) := by decide +kernel
theorem dX4_isHouse_16 : decode cX4_isHouse 16 = .ok (.ireturn, 1) := by decide +kernel
theorem dX4_isWithin_0 : decode cX4_isWithin 0 = .ok (.iload_n 0, 1) := by decide +kernel
theorem dX4_isWithin_1 : decode cX4_isWithin 1 = .ok (.iload_n 1, 1) := by decide +kernel
theorem dX4_isWithin_2 : decode cX4_isWithin 2 = .ok (.if_icmp .lt 12, 3) := by decide +kernel
theorem dX4_isWithin_5 : decode cX4_isWithin 5 = .ok (.iload_n 0, 1) := by decide +kernel
theorem dX4_isWithin_6 : decode cX4_isWithin 6 = .ok (.iload_n 2, 1) := by decide +kernel
theorem dX4_isWithin_7 : decode cX4_isWithin 7 = .ok (.if_icmp .gt 7, 3) := by decide +kernel
theorem dX4_isWithin_10 : decode cX4_isWithin 10 = .ok (.iconst 1, 1) := by decide +kernel
theorem dX4_isWithin_11 : decode cX4_isWithin 11 = .ok (.goto 4, 3) := by decide +kernel
theorem dX4_isWithin_14 : decode cX4_isWithin 14 = .ok (.iconst 0, 1) := by decide +kernel
theorem dX4_isWithin_15 : decode cX4_isWithin 15 = .ok (.ireturn, 1) := by decide +kernel
theorem dX4_wantedHeat_0 : decode cX4_wantedHeat 0 = .ok (.iload_n 1, 1) := by decide +kernel
theorem dX4_wantedHeat_1 : decode cX4_wantedHeat 1 = .ok (.bipush 18, 2) := by decide +kernel
theorem dX4_wantedHeat_3 : decode cX4_wantedHeat 3 = .ok (.if_icmp .lt 5, 3) := by decide +kernel
theorem dX4_wantedHeat_6 : decode cX4_wantedHeat 6 = .ok (.iconst 0, 1) := by decide +kernel
theorem dX4_wantedHeat_7 : decode cX4_wantedHeat 7 = .ok (.ireturn, 1) := by decide +kernel
theorem dX4_wantedHeat_8 : decode cX4_wantedHeat 8 = .ok (.iload_n 0, 1) := by decide +kernel
theorem dX4_wantedHeat_9 : decode cX4_wantedHeat 9 = .ok (.bipush 18, 2) := by decide +kernel
theorem dX4_wantedHeat_11 : decode cX4_wantedHeat 11 = .ok (.iload_n 1, 1) := by decide +kernel
theorem dX4_wantedHeat_12 : decode cX4_wantedHeat 12 = .ok (.isub, 1) := by decide +kernel
theorem dX4_wantedHeat_13 : decode cX4_wantedHeat 13 = .ok (.imul, 1) := by decide +kernel
theorem dX4_wantedHeat_14 : decode cX4_wantedHeat 14 = .ok (.bipush 9, 2) := by decide +kernel
theorem dX4_wantedHeat_16 : decode cX4_wantedHeat 16 = .ok (.iadd, 1) := by decide +kernel
theorem dX4_wantedHeat_17 : decode cX4_wantedHeat 17 = .ok (.bipush 10, 2) := by decide +kernel
theorem dX4_wantedHeat_19 : decode cX4_wantedHeat 19 = .ok (.idiv, 1) := by decide +kernel
theorem dX4_wantedHeat_20 : decode cX4_wantedHeat 20 = .ok (.ireturn, 1) := by decide +kernel
theorem dJ9_max_7cf53_0 : decode cJ9_max_7cf53 0 = .ok (.iload_n 0, 1) := by decide +kernel
theorem dJ9_max_7cf53_1 : decode cJ9_max_7cf53 1 = .ok (.iload_n 1, 1) := by decide +kernel
theorem dJ9_max_7cf53_2 : decode cJ9_max_7cf53 2 = .ok (.if_icmp .lt 7, 3) := by decide +kernel
theorem dJ9_max_7cf53_5 : decode cJ9_max_7cf53 5 = .ok (.iload_n 0, 1) := by decide +kernel
theorem dJ9_max_7cf53_6 : decode cJ9_max_7cf53 6 = .ok (.goto 4, 3) := by decide +kernel
theorem dJ9_max_7cf53_9 : decode cJ9_max_7cf53 9 = .ok (.iload_n 1, 1) := by decide +kernel
theorem dJ9_max_7cf53_10 : decode cJ9_max_7cf53 10 = .ok (.ireturn, 1) := by decide +kernel
theorem dJ9_min_7cf53_0 : decode cJ9_min_7cf53 0 = .ok (.iload_n 0, 1) := by decide +kernel
theorem dJ9_min_7cf53_1 : decode cJ9_min_7cf53 1 = .ok (.iload_n 1, 1) := by decide +kernel
theorem dJ9_min_7cf53_2 : decode cJ9_min_7cf53 2 = .ok (.if_icmp .gt 7, 3) := by decide +kernel
theorem dJ9_min_7cf53_5 : decode cJ9_min_7cf53 5 = .ok (.iload_n 0, 1) := by decide +kernel
theorem dJ9_min_7cf53_6 : decode cJ9_min_7cf53 6 = .ok (.goto 4, 3) := by decide +kernel
theorem dJ9_min_7cf53_9 : decode cJ9_min_7cf53 9 = .ok (.iload_n 1, 1) := by decide +kernel
theorem dJ9_min_7cf53_10 : decode cJ9_min_7cf53 10 = .ok (.ireturn, 1) := by decide +kernel
