theorem dL_areMetered_0 : decode cL_areMetered 0 = .ok (.iconst 1, 1) := by decide +kernel
theorem dL_areMetered_1 : decode cL_areMetered 1 = .ok (.istore 4, 2) := by decide +kernel
theorem dL_areMetered_3 : decode cL_areMetered 3 = .ok (.iconst 1, 1) := by decide +kernel
theorem dL_areMetered_4 : decode cL_areMetered 4 = .ok (.istore 5, 2) := by decide +kernel
theorem dL_areMetered_6 : decode cL_areMetered 6 = .ok (.iload 5, 2) := by decide +kernel
theorem dL_areMetered_8 : decode cL_areMetered 8 = .ok (.bipush 12, 2) := by decide +kernel
theorem dL_areMetered_10 : decode cL_areMetered 10 = .ok (.if_icmp .ge 231, 3) := by decide +kernel
theorem dL_areMetered_13 : decode cL_areMetered 13 = .ok (.iload 4, 2) := by decide +kernel
theorem dL_areMetered_15 : decode cL_areMetered 15 = .ok (.ifCond .eq 226, 3) := by decide +kernel
theorem dL_areMetered_18 : decode cL_areMetered 18 = .ok (.iload_n 3, 1) := by decide +kernel
theorem dL_areMetered_19 : decode cL_areMetered 19 = .ok (.iload 5, 2) := by decide +kernel
theorem dL_areMetered_21 : decode cL_areMetered 21 = .ok (.ishr, 1) := by decide +kernel
theorem dL_areMetered_22 : decode cL_areMetered 22 = .ok (.iconst 1, 1) := by decide +kernel
theorem dL_areMetered_23 : decode cL_areMetered 23 = .ok (.iand, 1) := by decide +kernel
theorem dL_areMetered_24 : decode cL_areMetered 24 = .ok (.iconst 1, 1) := by decide +kernel
theorem dL_areMetered_25 : decode cL_areMetered 25 = .ok (.if_icmp .ne 7, 3) := by decide +kernel
theorem dL_areMetered_28 : decode cL_areMetered 28 = .ok (.iconst 1, 1) := by decide +kernel
theorem dL_areMetered_29 : decode cL_areMetered 29 = .ok (.goto 4, 3) := by decide +kernel
theorem dL_areMetered_32 : decode cL_areMetered 32 = .ok (.iconst 0, 1) := by decide +kernel
theorem dL_areMetered_33 : decode cL_areMetered 33 = .ok (.istore 6, 2) := by decide +kernel
theorem dL_areMetered_35 : decode cL_areMetered 35 = .ok (.iload 6, 2) := by decide +kernel
theorem dL_areMetered_37 : decode cL_areMetered 37 = .ok (.ifCond .eq 13, 3) := by decide +kernel
theorem dL_areMetered_40 : decode cL_areMetered 40 = .ok (.aload_n 1, 1) := by decide +kernel
theorem dL_areMetered_41 : decode cL_areMetered 41 = .ok (.bipush 36, 2) := by decide +kernel
theorem dL_areMetered_43 : decode cL_areMetered 43 = .ok (.iload 5, 2) := by decide +kernel
theorem dL_areMetered_45 : decode cL_areMetered 45 = .ok (.iadd, 1) := by decide +kernel
theorem dL_areMetered_46 : decode cL_areMetered 46 = .ok (.iaload, 1) := by decide +kernel
theorem dL_areMetered_47 : decode cL_areMetered 47 = .ok (.goto 4, 3) := by decide +kernel
theorem dL_areMetered_50 : decode cL_areMetered 50 = .ok (.iconst 0, 1) := by decide +kernel
theorem dL_areMetered_51 : decode cL_areMetered 51 = .ok (.istore 7, 2) := by decide +kernel
theorem dL_areMetered_53 : decode cL_areMetered 53 = .ok (.iconst 0, 1) := by decide +kernel
theorem dL_areMetered_54 : decode cL_areMetered 54 = .ok (.istore 8, 2) := by decide +kernel
theorem dL_areMetered_56 : decode cL_areMetered 56 = .ok (.iload 5, 2) := by decide +kernel
theorem dL_areMetered_58 : decode cL_areMetered 58 = .ok (.istore 9, 2) := by decide +kernel
theorem dL_areMetered_60 : decode cL_areMetered 60 = .ok (.iload 9, 2) := by decide +kernel
theorem dL_areMetered_62 : decode cL_areMetered 62 = .ok (.bipush 12, 2) := by decide +kernel
theorem dL_areMetered_64 : decode cL_areMetered 64 = .ok (.if_icmp .ge 109, 3) := by decide +kernel
theorem dL_areMetered_67 : decode cL_areMetered 67 = .ok (.aload_n 1, 1) := by decide +kernel
theorem dL_areMetered_68 : decode cL_areMetered 68 = .ok (.iload 5, 2) := by decide +kernel
theorem dL_areMetered_70 : decode cL_areMetered 70 = .ok (.iload 9, 2) := by decide +kernel
theorem dL_areMetered_72 : decode cL_areMetered 72 = .ok (.invokestatic 74, 3) := by decide +kernel
theorem dL_areMetered_75 : decode cL_areMetered 75 = .ok (.ifCond .eq 17, 3) := by decide +kernel
theorem dL_areMetered_78 : decode cL_areMetered 78 = .ok (.iload_n 3, 1) := by decide +kernel
theorem dL_areMetered_79 : decode cL_areMetered 79 = .ok (.iload 9, 2) := by decide +kernel
theorem dL_areMetered_81 : decode cL_areMetered 81 = .ok (.ishr, 1) := by decide +kernel
theorem dL_areMetered_82 : decode cL_areMetered 82 = .ok (.iconst 1, 1) := by decide +kernel
theorem dL_areMetered_83 : decode cL_areMetered 83 = .ok (.iand, 1) := by decide +kernel
theorem dL_areMetered_84 : decode cL_areMetered 84 = .ok (.iconst 1, 1) := by decide +kernel
theorem dL_areMetered_85 : decode cL_areMetered 85 = .ok (.if_icmp .ne 7, 3) := by decide +kernel
theorem dL_areMetered_88 : decode cL_areMetered 88 = .ok (.iconst 1, 1) := by decide +kernel
theorem dL_areMetered_89 : decode cL_areMetered 89 = .ok (.goto 4, 3) := by decide +kernel
theorem dL_areMetered_92 : decode cL_areMetered 92 = .ok (.iconst 0, 1) := by decide +kernel
theorem dL_areMetered_93 : decode cL_areMetered 93 = .ok (.istore 10, 2) := by decide +kernel
theorem dL_areMetered_95 : decode cL_areMetered 95 = .ok (.iload 7, 2) := by decide +kernel
theorem dL_areMetered_97 : decode cL_areMetered 97 = .ok (.iload 10, 2) := by decide +kernel
theorem dL_areMetered_99 : decode cL_areMetered 99 = .ok (.ifCond .eq 29, 3) := by decide +kernel
theorem dL_areMetered_102 : decode cL_areMetered 102 = .ok (.aload_n 2, 1) := by decide +kernel
theorem dL_areMetered_103 : decode cL_areMetered 103 = .ok (.iload 9, 2) := by decide +kernel
theorem dL_areMetered_105 : decode cL_areMetered 105 = .ok (.iaload, 1) := by decide +kernel
theorem dL_areMetered_106 : decode cL_areMetered 106 = .ok (.iload 9, 2) := by decide +kernel
theorem dL_areMetered_108 : decode cL_areMetered 108 = .ok (.iload 5, 2) := by decide +kernel
theorem dL_areMetered_110 : decode cL_areMetered 110 = .ok (.if_icmp .ne 7, 3) := by decide +kernel
theorem dL_areMetered_113 : decode cL_areMetered 113 = .ok (.iconst 0, 1) := by decide +kernel
theorem dL_areMetered_114 : decode cL_areMetered 114 = .ok (.goto 10, 3) := by decide +kernel
theorem dL_areMetered_117 : decode cL_areMetered 117 = .ok (.aload_n 1, 1) := by decide +kernel
theorem dL_areMetered_118 : decode cL_areMetered 118 = .ok (.bipush 12, 2) := by decide +kernel
theorem dL_areMetered_120 : decode cL_areMetered 120 = .ok (.iload 9, 2) := by decide +kernel
theorem dL_areMetered_122 : decode cL_areMetered 122 = .ok (.iadd, 1) := by decide +kernel
theorem dL_areMetered_123 : decode cL_areMetered 123 = .ok (.iaload, 1) := by decide +kernel
theorem dL_areMetered_124 : decode cL_areMetered 124 = .ok (.iadd, 1) := by decide +kernel
theorem dL_areMetered_125 : decode cL_areMetered 125 = .ok (.goto 4, 3) := by decide +kernel
theorem dL_areMetered_128 : decode cL_areMetered 128 = .ok (.iconst 0, 1) := by decide +kernel
theorem dL_areMetered_129 : decode cL_areMetered 129 = .ok (.iadd, 1) := by decide +kernel
theorem dL_areMetered_130 : decode cL_areMetered 130 = .ok (.istore 7, 2) := by decide +kernel
theorem dL_areMetered_132 : decode cL_areMetered 132 = .ok (.iload 8, 2) := by decide +kernel
theorem dL_areMetered_134 : decode cL_areMetered 134 = .ok (.aload_n 1, 1) := by decide +kernel
theorem dL_areMetered_135 : decode cL_areMetered 135 = .ok (.iload 9, 2) := by decide +kernel
theorem dL_areMetered_137 : decode cL_areMetered 137 = .ok (.iaload, 1) := by decide +kernel
theorem dL_areMetered_138 : decode cL_areMetered 138 = .ok (.iload 5, 2) := by decide +kernel
theorem dL_areMetered_140 : decode cL_areMetered 140 = .ok (.if_icmp .ne 23, 3) := by decide +kernel
theorem dL_areMetered_143 : decode cL_areMetered 143 = .ok (.iload_n 3, 1) := by decide +kernel
theorem dL_areMetered_144 : decode cL_areMetered 144 = .ok (.iload 9, 2) := by decide +kernel
theorem dL_areMetered_146 : decode cL_areMetered 146 = .ok (.ishr, 1) := by decide +kernel
theorem dL_areMetered_147 : decode cL_areMetered 147 = .ok (.iconst 1, 1) := by decide +kernel
theorem dL_areMetered_148 : decode cL_areMetered 148 = .ok (.iand, 1) := by decide +kernel
theorem dL_areMetered_149 : decode cL_areMetered 149 = .ok (.iconst 1, 1) := by decide +kernel
theorem dL_areMetered_150 : decode cL_areMetered 150 = .ok (.if_icmp .ne 13, 3) := by decide +kernel
theorem dL_areMetered_153 : decode cL_areMetered 153 = .ok (.aload_n 1, 1) := by decide +kernel
theorem dL_areMetered_154 : decode cL_areMetered 154 = .ok (.bipush 36, 2) := by decide +kernel
theorem dL_areMetered_156 : decode cL_areMetered 156 = .ok (.iload 9, 2) := by decide +kernel
theorem dL_areMetered_158 : decode cL_areMetered 158 = .ok (.iadd, 1) := by decide +kernel
theorem dL_areMetered_159 : decode cL_areMetered 159 = .ok (.iaload, 1) := by decide +kernel
theorem dL_areMetered_160 : decode cL_areMetered 160 = .ok (.goto 4, 3) := by decide +kernel
theorem dL_areMetered_163 : decode cL_areMetered 163 = .ok (.iconst 0, 1) := by decide +kernel
theorem dL_areMetered_164 : decode cL_areMetered 164 = .ok (.iadd, 1) := by decide +kernel
theorem dL_areMetered_165 : decode cL_areMetered 165 = .ok (.istore 8, 2) := by decide +kernel
theorem dL_areMetered_167 : decode cL_areMetered 167 = .ok (.iinc 9 1, 3) := by decide +kernel
theorem dL_areMetered_170 : decode cL_areMetered 170 = .ok (.goto (-110), 3) := by decide +kernel
theorem dL_areMetered_173 : decode cL_areMetered 173 = .ok (.aload_n 0, 1) := by decide +kernel
theorem dL_areMetered_174 : decode cL_areMetered 174 = .ok (.iload 5, 2) := by decide +kernel
theorem dL_areMetered_176 : decode cL_areMetered 176 = .ok (.invokevirtual 78, 3) := by decide +kernel
theorem dL_areMetered_179 : decode cL_areMetered 179 = .ok (.aload_n 2, 1) := by decide +kernel
theorem dL_areMetered_180 : decode cL_areMetered 180 = .ok (.iload 5, 2) := by decide +kernel
theorem dL_areMetered_182 : decode cL_areMetered 182 = .ok (.iaload, 1) := by decide +kernel
theorem dL_areMetered_183 : decode cL_areMetered 183 = .ok (.if_icmp .ne 49, 3) := by decide +kernel
theorem dL_areMetered_186 : decode cL_areMetered 186 = .ok (.aload_n 0, 1) := by decide +kernel
theorem dL_areMetered_187 : decode cL_areMetered 187 = .ok (.iload 5, 2) := by decide +kernel
theorem dL_areMetered_189 : decode cL_areMetered 189 = .ok (.invokevirtual 81, 3) := by decide +kernel
theorem dL_areMetered_192 : decode cL_areMetered 192 = .ok (.iload 7, 2) := by decide +kernel
theorem dL_areMetered_194 : decode cL_areMetered 194 = .ok (.if_icmp .ne 38, 3) := by decide +kernel
theorem dL_areMetered_197 : decode cL_areMetered 197 = .ok (.aload_n 0, 1) := by decide +kernel
theorem dL_areMetered_198 : decode cL_areMetered 198 = .ok (.iload 5, 2) := by decide +kernel
theorem dL_areMetered_200 : decode cL_areMetered 200 = .ok (.invokevirtual 84, 3) := by decide +kernel
theorem dL_areMetered_203 : decode cL_areMetered 203 = .ok (.iload 6, 2) := by decide +kernel
theorem dL_areMetered_205 : decode cL_areMetered 205 = .ok (.ifCond .eq 19, 3) := by decide +kernel
theorem dL_areMetered_208 : decode cL_areMetered 208 = .ok (.aload_n 1, 1) := by decide +kernel
theorem dL_areMetered_209 : decode cL_areMetered 209 = .ok (.bipush 36, 2) := by decide +kernel
theorem dL_areMetered_211 : decode cL_areMetered 211 = .ok (.iload 5, 2) := by decide +kernel
theorem dL_areMetered_213 : decode cL_areMetered 213 = .ok (.iadd, 1) := by decide +kernel
theorem dL_areMetered_214 : decode cL_areMetered 214 = .ok (.iaload, 1) := by decide +kernel
theorem dL_areMetered_215 : decode cL_areMetered 215 = .ok (.iload 8, 2) := by decide +kernel
theorem dL_areMetered_217 : decode cL_areMetered 217 = .ok (.if_icmp .eq 7, 3) := by decide +kernel
theorem dL_areMetered_220 : decode cL_areMetered 220 = .ok (.iconst 1, 1) := by decide +kernel
theorem dL_areMetered_221 : decode cL_areMetered 221 = .ok (.goto 4, 3) := by decide +kernel
theorem dL_areMetered_224 : decode cL_areMetered 224 = .ok (.iconst 0, 1) := by decide +kernel
theorem dL_areMetered_225 : decode cL_areMetered 225 = .ok (.if_icmp .ne 7, 3) := by decide +kernel
theorem dL_areMetered_228 : decode cL_areMetered 228 = .ok (.iconst 1, 1) := by decide +kernel
theorem dL_areMetered_229 : decode cL_areMetered 229 = .ok (.goto 4, 3) := by decide +kernel
theorem dL_areMetered_232 : decode cL_areMetered 232 = .ok (.iconst 0, 1) := by decide +kernel
theorem dL_areMetered_233 : decode cL_areMetered 233 = .ok (.istore 4, 2) := by decide +kernel
theorem dL_areMetered_235 : decode cL_areMetered 235 = .ok (.iinc 5 1, 3) := by decide +kernel
theorem dL_areMetered_238 : decode cL_areMetered 238 = .ok (.goto (-232), 3) := by decide +kernel
theorem dL_areMetered_241 : decode cL_areMetered 241 = .ok (.iload 4, 2) := by decide +kernel
theorem dL_areMetered_243 : decode cL_areMetered 243 = .ok (.ireturn, 1) := by decide +kernel
set_option maxRecDepth 20000 in
theorem ggL_areFired_X4_fired : GoodIn wsL_areFired wsX4_fired := goodIn_ca (goodIn_r _ [5, 6, 7, 8, 9, 10, 11, 12, 13, 18, 19, 20, 21, 22, 23, 24, 25, 26, 27, 28, 29, 30, 31, 32, 33, 34] (by decide +kernel) (by decide +kernel)) (goodIn_sub (fun _ h => List.mem_cons_of_mem _ (List.mem_append_right _ h)) (by decide +kernel))
set_option maxRecDepth 20000 in
theorem gL_areFired_X4_fired : GoodIn wsL_areFired (wsV RL 24 RX4 yX4_fired wsX4_fired) := goodIn_app (goodIn_of _ (by decide +kernel)) ggL_areFired_X4_fired
set_option maxRecDepth 20000 in
theorem ggL_areFired_X4_cost : GoodIn wsL_areFired wsX4_cost := goodIn_r _ [17, 8, 18, 19, 20, 21, 22, 23, 24, 31, 32, 33, 34] (by decide +kernel) (by decide +kernel)
set_option maxRecDepth 20000 in
theorem gL_areFired_X4_cost : GoodIn wsL_areFired (wsV RL 87 RX4 yX4_cost wsX4_cost) := goodIn_app (goodIn_of _ (by decide +kernel)) ggL_areFired_X4_cost
theorem dL_areFired_0 : decode cL_areFired 0 = .ok (.iconst 1, 1) := by decide +kernel
theorem dL_areFired_1 : decode cL_areFired 1 = .ok (.istore 4, 2) := by decide +kernel
theorem dL_areFired_3 : decode cL_areFired 3 = .ok (.iconst 0, 1) := by decide +kernel
theorem dL_areFired_4 : decode cL_areFired 4 = .ok (.istore 5, 2) := by decide +kernel
theorem dL_areFired_6 : decode cL_areFired 6 = .ok (.iconst 0, 1) := by decide +kernel
theorem dL_areFired_7 : decode cL_areFired 7 = .ok (.istore 6, 2) := by decide +kernel
theorem dL_areFired_9 : decode cL_areFired 9 = .ok (.iload 6, 2) := by decide +kernel
theorem dL_areFired_11 : decode cL_areFired 11 = .ok (.aload_n 1, 1) := by decide +kernel
theorem dL_areFired_12 : decode cL_areFired 12 = .ok (.iconst 2, 1) := by decide +kernel
theorem dL_areFired_13 : decode cL_areFired 13 = .ok (.iaload, 1) := by decide +kernel
theorem dL_areFired_14 : decode cL_areFired 14 = .ok (.if_icmp .ge 236, 3) := by decide +kernel
theorem dL_areFired_17 : decode cL_areFired 17 = .ok (.iload 4, 2) := by decide +kernel
theorem dL_areFired_19 : decode cL_areFired 19 = .ok (.ifCond .eq 231, 3) := by decide +kernel
theorem dL_areFired_22 : decode cL_areFired 22 = .ok (.iconst 0, 1) := by decide +kernel
theorem dL_areFired_23 : decode cL_areFired 23 = .ok (.istore 7, 2) := by decide +kernel
theorem dL_areFired_25 : decode cL_areFired 25 = .ok (.iconst 0, 1) := by decide +kernel
theorem dL_areFired_26 : decode cL_areFired 26 = .ok (.istore 8, 2) := by decide +kernel
theorem dL_areFired_28 : decode cL_areFired 28 = .ok (.iload 8, 2) := by decide +kernel
theorem dL_areFired_30 : decode cL_areFired 30 = .ok (.aload_n 1, 1) := by decide +kernel
theorem dL_areFired_31 : decode cL_areFired 31 = .ok (.iconst 2, 1) := by decide +kernel
theorem dL_areFired_32 : decode cL_areFired 32 = .ok (.iaload, 1) := by decide +kernel
theorem dL_areFired_33 : decode cL_areFired 33 = .ok (.if_icmp .ge 82, 3) := by decide +kernel
theorem dL_areFired_36 : decode cL_areFired 36 = .ok (.aload_n 2, 1) := by decide +kernel
theorem dL_areFired_37 : decode cL_areFired 37 = .ok (.bipush 8, 2) := by decide +kernel
theorem dL_areFired_39 : decode cL_areFired 39 = .ok (.iload 8, 2) := by decide +kernel
theorem dL_areFired_41 : decode cL_areFired 41 = .ok (.iadd, 1) := by decide +kernel
theorem dL_areFired_42 : decode cL_areFired 42 = .ok (.iaload, 1) := by decide +kernel
theorem dL_areFired_43 : decode cL_areFired 43 = .ok (.aload_n 2, 1) := by decide +kernel
theorem dL_areFired_44 : decode cL_areFired 44 = .ok (.bipush 8, 2) := by decide +kernel
theorem dL_areFired_46 : decode cL_areFired 46 = .ok (.iload 6, 2) := by decide +kernel
theorem dL_areFired_48 : decode cL_areFired 48 = .ok (.iadd, 1) := by decide +kernel
theorem dL_areFired_49 : decode cL_areFired 49 = .ok (.iaload, 1) := by decide +kernel
theorem dL_areFired_50 : decode cL_areFired 50 = .ok (.if_icmp .lt 27, 3) := by decide +kernel
theorem dL_areFired_53 : decode cL_areFired 53 = .ok (.aload_n 2, 1) := by decide +kernel
theorem dL_areFired_54 : decode cL_areFired 54 = .ok (.bipush 8, 2) := by decide +kernel
theorem dL_areFired_56 : decode cL_areFired 56 = .ok (.iload 8, 2) := by decide +kernel
theorem dL_areFired_58 : decode cL_areFired 58 = .ok (.iadd, 1) := by decide +kernel
theorem dL_areFired_59 : decode cL_areFired 59 = .ok (.iaload, 1) := by decide +kernel
theorem dL_areFired_60 : decode cL_areFired 60 = .ok (.aload_n 2, 1) := by decide +kernel
theorem dL_areFired_61 : decode cL_areFired 61 = .ok (.bipush 8, 2) := by decide +kernel
theorem dL_areFired_63 : decode cL_areFired 63 = .ok (.iload 6, 2) := by decide +kernel
theorem dL_areFired_65 : decode cL_areFired 65 = .ok (.iadd, 1) := by decide +kernel
theorem dL_areFired_66 : decode cL_areFired 66 = .ok (.iaload, 1) := by decide +kernel
theorem dL_areFired_67 : decode cL_areFired 67 = .ok (.if_icmp .ne 14, 3) := by decide +kernel
theorem dL_areFired_70 : decode cL_areFired 70 = .ok (.iload 8, 2) := by decide +kernel
theorem dL_areFired_72 : decode cL_areFired 72 = .ok (.iload 6, 2) := by decide +kernel
theorem dL_areFired_74 : decode cL_areFired 74 = .ok (.if_icmp .ge 7, 3) := by decide +kernel
theorem dL_areFired_77 : decode cL_areFired 77 = .ok (.iconst 1, 1) := by decide +kernel
theorem dL_areFired_78 : decode cL_areFired 78 = .ok (.goto 4, 3) := by decide +kernel
theorem dL_areFired_81 : decode cL_areFired 81 = .ok (.iconst 0, 1) := by decide +kernel
theorem dL_areFired_82 : decode cL_areFired 82 = .ok (.istore 9, 2) := by decide +kernel
theorem dL_areFired_84 : decode cL_areFired 84 = .ok (.iload 7, 2) := by decide +kernel
theorem dL_areFired_86 : decode cL_areFired 86 = .ok (.iload 9, 2) := by decide +kernel
theorem dL_areFired_88 : decode cL_areFired 88 = .ok (.ifCond .eq 17, 3) := by decide +kernel
theorem dL_areFired_91 : decode cL_areFired 91 = .ok (.aload_n 2, 1) := by decide +kernel
theorem dL_areFired_92 : decode cL_areFired 92 = .ok (.iload 8, 2) := by decide +kernel
theorem dL_areFired_94 : decode cL_areFired 94 = .ok (.iaload, 1) := by decide +kernel
theorem dL_areFired_95 : decode cL_areFired 95 = .ok (.aload_n 2, 1) := by decide +kernel
theorem dL_areFired_96 : decode cL_areFired 96 = .ok (.iconst 4, 1) := by decide +kernel
theorem dL_areFired_97 : decode cL_areFired 97 = .ok (.iload 8, 2) := by decide +kernel
theorem dL_areFired_99 : decode cL_areFired 99 = .ok (.iadd, 1) := by decide +kernel
theorem dL_areFired_100 : decode cL_areFired 100 = .ok (.iaload, 1) := by decide +kernel
theorem dL_areFired_101 : decode cL_areFired 101 = .ok (.imul, 1) := by decide +kernel
theorem dL_areFired_102 : decode cL_areFired 102 = .ok (.goto 4, 3) := by decide +kernel
theorem dL_areFired_105 : decode cL_areFired 105 = .ok (.iconst 0, 1) := by decide +kernel
theorem dL_areFired_106 : decode cL_areFired 106 = .ok (.iadd, 1) := by decide +kernel
theorem dL_areFired_107 : decode cL_areFired 107 = .ok (.istore 7, 2) := by decide +kernel
theorem dL_areFired_109 : decode cL_areFired 109 = .ok (.iinc 8 1, 3) := by decide +kernel
theorem dL_areFired_112 : decode cL_areFired 112 = .ok (.goto (-84), 3) := by decide +kernel
theorem dL_areFired_115 : decode cL_areFired 115 = .ok (.iload_n 3, 1) := by decide +kernel
theorem dL_areFired_116 : decode cL_areFired 116 = .ok (.iload 7, 2) := by decide +kernel
theorem dL_areFired_118 : decode cL_areFired 118 = .ok (.if_icmp .le 10, 3) := by decide +kernel
theorem dL_areFired_121 : decode cL_areFired 121 = .ok (.iload_n 3, 1) := by decide +kernel
theorem dL_areFired_122 : decode cL_areFired 122 = .ok (.iload 7, 2) := by decide +kernel
theorem dL_areFired_124 : decode cL_areFired 124 = .ok (.isub, 1) := by decide +kernel
theorem dL_areFired_125 : decode cL_areFired 125 = .ok (.goto 4, 3) := by decide +kernel
theorem dL_areFired_128 : decode cL_areFired 128 = .ok (.iconst 0, 1) := by decide +kernel
theorem dL_areFired_129 : decode cL_areFired 129 = .ok (.istore 8, 2) := by decide +kernel
theorem dL_areFired_131 : decode cL_areFired 131 = .ok (.aload_n 0, 1) := by decide +kernel
theorem dL_areFired_132 : decode cL_areFired 132 = .ok (.iload 6, 2) := by decide +kernel
theorem dL_areFired_134 : decode cL_areFired 134 = .ok (.invokevirtual 24, 3) := by decide +kernel
theorem dL_areFired_137 : decode cL_areFired 137 = .ok (.istore 9, 2) := by decide +kernel
theorem dL_areFired_139 : decode cL_areFired 139 = .ok (.aload_n 2, 1) := by decide +kernel
theorem dL_areFired_140 : decode cL_areFired 140 = .ok (.iload 6, 2) := by decide +kernel
theorem dL_areFired_142 : decode cL_areFired 142 = .ok (.iaload, 1) := by decide +kernel
theorem dL_areFired_143 : decode cL_areFired 143 = .ok (.aload_n 2, 1) := by decide +kernel
theorem dL_areFired_144 : decode cL_areFired 144 = .ok (.iconst 4, 1) := by decide +kernel
theorem dL_areFired_145 : decode cL_areFired 145 = .ok (.iload 6, 2) := by decide +kernel
theorem dL_areFired_147 : decode cL_areFired 147 = .ok (.iadd, 1) := by decide +kernel
theorem dL_areFired_148 : decode cL_areFired 148 = .ok (.iaload, 1) := by decide +kernel
theorem dL_areFired_149 : decode cL_areFired 149 = .ok (.imul, 1) := by decide +kernel
theorem dL_areFired_150 : decode cL_areFired 150 = .ok (.istore 10, 2) := by decide +kernel
theorem dL_areFired_152 : decode cL_areFired 152 = .ok (.iload 5, 2) := by decide +kernel
theorem dL_areFired_154 : decode cL_areFired 154 = .ok (.iload 8, 2) := by decide +kernel
theorem dL_areFired_156 : decode cL_areFired 156 = .ok (.iload 10, 2) := by decide +kernel
theorem dL_areFired_158 : decode cL_areFired 158 = .ok (.if_icmp .ge 8, 3) := by decide +kernel
theorem dL_areFired_161 : decode cL_areFired 161 = .ok (.iload 8, 2) := by decide +kernel
theorem dL_areFired_163 : decode cL_areFired 163 = .ok (.goto 5, 3) := by decide +kernel
theorem dL_areFired_166 : decode cL_areFired 166 = .ok (.iload 10, 2) := by decide +kernel
theorem dL_areFired_168 : decode cL_areFired 168 = .ok (.aload_n 2, 1) := by decide +kernel
theorem dL_areFired_169 : decode cL_areFired 169 = .ok (.bipush 8, 2) := by decide +kernel
theorem dL_areFired_171 : decode cL_areFired 171 = .ok (.iload 6, 2) := by decide +kernel
theorem dL_areFired_173 : decode cL_areFired 173 = .ok (.iadd, 1) := by decide +kernel
theorem dL_areFired_174 : decode cL_areFired 174 = .ok (.iaload, 1) := by decide +kernel
theorem dL_areFired_175 : decode cL_areFired 175 = .ok (.imul, 1) := by decide +kernel
theorem dL_areFired_176 : decode cL_areFired 176 = .ok (.iadd, 1) := by decide +kernel
theorem dL_areFired_177 : decode cL_areFired 177 = .ok (.istore 5, 2) := by decide +kernel
theorem dL_areFired_179 : decode cL_areFired 179 = .ok (.iload 9, 2) := by decide +kernel
theorem dL_areFired_181 : decode cL_areFired 181 = .ok (.ifCond .lt 60, 3) := by decide +kernel
theorem dL_areFired_184 : decode cL_areFired 184 = .ok (.iload 9, 2) := by decide +kernel
theorem dL_areFired_186 : decode cL_areFired 186 = .ok (.aload_n 2, 1) := by decide +kernel
theorem dL_areFired_187 : decode cL_areFired 187 = .ok (.iload 6, 2) := by decide +kernel
theorem dL_areFired_189 : decode cL_areFired 189 = .ok (.iaload, 1) := by decide +kernel
theorem dL_areFired_190 : decode cL_areFired 190 = .ok (.if_icmp .gt 51, 3) := by decide +kernel
theorem dL_areFired_193 : decode cL_areFired 193 = .ok (.iload 9, 2) := by decide +kernel
theorem dL_areFired_195 : decode cL_areFired 195 = .ok (.aload_n 2, 1) := by decide +kernel
theorem dL_areFired_196 : decode cL_areFired 196 = .ok (.iload 6, 2) := by decide +kernel
theorem dL_areFired_198 : decode cL_areFired 198 = .ok (.iaload, 1) := by decide +kernel
theorem dL_areFired_199 : decode cL_areFired 199 = .ok (.if_icmp .eq 17, 3) := by decide +kernel
theorem dL_areFired_202 : decode cL_areFired 202 = .ok (.iload 9, 2) := by decide +kernel
theorem dL_areFired_204 : decode cL_areFired 204 = .ok (.aload_n 2, 1) := by decide +kernel
theorem dL_areFired_205 : decode cL_areFired 205 = .ok (.iconst 4, 1) := by decide +kernel
theorem dL_areFired_206 : decode cL_areFired 206 = .ok (.iload 6, 2) := by decide +kernel
theorem dL_areFired_208 : decode cL_areFired 208 = .ok (.iadd, 1) := by decide +kernel
theorem dL_areFired_209 : decode cL_areFired 209 = .ok (.iaload, 1) := by decide +kernel
theorem dL_areFired_210 : decode cL_areFired 210 = .ok (.imul, 1) := by decide +kernel
theorem dL_areFired_211 : decode cL_areFired 211 = .ok (.iload 8, 2) := by decide +kernel
theorem dL_areFired_213 : decode cL_areFired 213 = .ok (.if_icmp .lt 28, 3) := by decide +kernel
theorem dL_areFired_216 : decode cL_areFired 216 = .ok (.iload 9, 2) := by decide +kernel
theorem dL_areFired_218 : decode cL_areFired 218 = .ok (.ifCond .eq 19, 3) := by decide +kernel
theorem dL_areFired_221 : decode cL_areFired 221 = .ok (.iload 9, 2) := by decide +kernel
theorem dL_areFired_223 : decode cL_areFired 223 = .ok (.iconst 1, 1) := by decide +kernel
theorem dL_areFired_224 : decode cL_areFired 224 = .ok (.isub, 1) := by decide +kernel
theorem dL_areFired_225 : decode cL_areFired 225 = .ok (.aload_n 2, 1) := by decide +kernel
theorem dL_areFired_226 : decode cL_areFired 226 = .ok (.iconst 4, 1) := by decide +kernel
theorem dL_areFired_227 : decode cL_areFired 227 = .ok (.iload 6, 2) := by decide +kernel
theorem dL_areFired_229 : decode cL_areFired 229 = .ok (.iadd, 1) := by decide +kernel
theorem dL_areFired_230 : decode cL_areFired 230 = .ok (.iaload, 1) := by decide +kernel
theorem dL_areFired_231 : decode cL_areFired 231 = .ok (.imul, 1) := by decide +kernel
theorem dL_areFired_232 : decode cL_areFired 232 = .ok (.iload 8, 2) := by decide +kernel
theorem dL_areFired_234 : decode cL_areFired 234 = .ok (.if_icmp .ge 7, 3) := by decide +kernel
theorem dL_areFired_237 : decode cL_areFired 237 = .ok (.iconst 1, 1) := by decide +kernel
theorem dL_areFired_238 : decode cL_areFired 238 = .ok (.goto 4, 3) := by decide +kernel
theorem dL_areFired_241 : decode cL_areFired 241 = .ok (.iconst 0, 1) := by decide +kernel
theorem dL_areFired_242 : decode cL_areFired 242 = .ok (.istore 4, 2) := by decide +kernel
theorem dL_areFired_244 : decode cL_areFired 244 = .ok (.iinc 6 1, 3) := by decide +kernel
theorem dL_areFired_247 : decode cL_areFired 247 = .ok (.goto (-238), 3) := by decide +kernel
theorem dL_areFired_250 : decode cL_areFired 250 = .ok (.aload_n 1, 1) := by decide +kernel
theorem dL_areFired_251 : decode cL_areFired 251 = .ok (.iconst 3, 1) := by decide +kernel
theorem dL_areFired_252 : decode cL_areFired 252 = .ok (.dup2, 1) := by decide +kernel
theorem dL_areFired_253 : decode cL_areFired 253 = .ok (.iaload, 1) := by decide +kernel
theorem dL_areFired_254 : decode cL_areFired 254 = .ok (.iload 5, 2) := by decide +kernel
theorem dL_areFired_256 : decode cL_areFired 256 = .ok (.iadd, 1) := by decide +kernel
theorem dL_areFired_257 : decode cL_areFired 257 = .ok (.iastore, 1) := by decide +kernel
theorem dL_areFired_258 : decode cL_areFired 258 = .ok (.iload 4, 2) := by decide +kernel
theorem dL_areFired_260 : decode cL_areFired 260 = .ok (.ifCond .eq 17, 3) := by decide +kernel
theorem dL_areFired_263 : decode cL_areFired 263 = .ok (.aload_n 0, 1) := by decide +kernel
theorem dL_areFired_264 : decode cL_areFired 264 = .ok (.invokevirtual 87, 3) := by decide +kernel
theorem dL_areFired_267 : decode cL_areFired 267 = .ok (.aload_n 1, 1) := by decide +kernel
theorem dL_areFired_268 : decode cL_areFired 268 = .ok (.iconst 3, 1) := by decide +kernel
theorem dL_areFired_269 : decode cL_areFired 269 = .ok (.iaload, 1) := by decide +kernel
theorem dL_areFired_270 : decode cL_areFired 270 = .ok (.if_icmp .ne 7, 3) := by decide +kernel
theorem dL_areFired_273 : decode cL_areFired 273 = .ok (.iconst 1, 1) := by decide +kernel
theorem dL_areFired_274 : decode cL_areFired 274 = .ok (.goto 4, 3) := by decide +kernel
theorem dL_areFired_277 : decode cL_areFired 277 = .ok (.iconst 0, 1) := by decide +kernel
theorem dL_areFired_278 : decode cL_areFired 278 = .ok (.ireturn, 1) := by decide +kernel
set_option maxRecDepth 20000 in
theorem ggL_areBills_X4_bill : GoodIn wsL_areBills wsX4_bill := goodIn_ca (goodIn_r _ [5, 6, 7, 8, 9, 10, 4, 11, 12, 13, 14, 15, 16, 17, 18] (by decide +kernel) (by decide +kernel)) (goodIn_sub (fun _ h => List.mem_cons_of_mem _ (List.mem_append_right _ h)) (by decide +kernel))
set_option maxRecDepth 20000 in
theorem gL_areBills_X4_bill : GoodIn wsL_areBills (wsV RL 90 RX4 yX4_bill wsX4_bill) := goodIn_app (goodIn_of _ (by decide +kernel)) ggL_areBills_X4_bill
theorem dL_areBills_0 : decode cL_areBills 0 = .ok (.iconst 1, 1) := by decide +kernel
theorem dL_areBills_1 : decode cL_areBills 1 = .ok (.istore_n 2, 1) := by decide +kernel
theorem dL_areBills_2 : decode cL_areBills 2 = .ok (.iconst 1, 1) := by decide +kernel
theorem dL_areBills_3 : decode cL_areBills 3 = .ok (.istore_n 3, 1) := by decide +kernel
theorem dL_areBills_4 : decode cL_areBills 4 = .ok (.iload_n 3, 1) := by decide +kernel
theorem dL_areBills_5 : decode cL_areBills 5 = .ok (.bipush 12, 2) := by decide +kernel
theorem dL_areBills_7 : decode cL_areBills 7 = .ok (.if_icmp .ge 33, 3) := by decide +kernel
theorem dL_areBills_10 : decode cL_areBills 10 = .ok (.iload_n 2, 1) := by decide +kernel
theorem dL_areBills_11 : decode cL_areBills 11 = .ok (.ifCond .eq 21, 3) := by decide +kernel
theorem dL_areBills_14 : decode cL_areBills 14 = .ok (.aload_n 0, 1) := by decide +kernel
theorem dL_areBills_15 : decode cL_areBills 15 = .ok (.iload_n 3, 1) := by decide +kernel
theorem dL_areBills_16 : decode cL_areBills 16 = .ok (.invokevirtual 90, 3) := by decide +kernel
theorem dL_areBills_19 : decode cL_areBills 19 = .ok (.aload_n 1, 1) := by decide +kernel
theorem dL_areBills_20 : decode cL_areBills 20 = .ok (.bipush 48, 2) := by decide +kernel
theorem dL_areBills_22 : decode cL_areBills 22 = .ok (.iload_n 3, 1) := by decide +kernel
theorem dL_areBills_23 : decode cL_areBills 23 = .ok (.iadd, 1) := by decide +kernel
theorem dL_areBills_24 : decode cL_areBills 24 = .ok (.iaload, 1) := by decide +kernel
theorem dL_areBills_25 : decode cL_areBills 25 = .ok (.if_icmp .ne 7, 3) := by decide +kernel
theorem dL_areBills_28 : decode cL_areBills 28 = .ok (.iconst 1, 1) := by decide +kernel
theorem dL_areBills_29 : decode cL_areBills 29 = .ok (.goto 4, 3) := by decide +kernel
theorem dL_areBills_32 : decode cL_areBills 32 = .ok (.iconst 0, 1) := by decide +kernel
theorem dL_areBills_33 : decode cL_areBills 33 = .ok (.istore_n 2, 1) := by decide +kernel
theorem dL_areBills_34 : decode cL_areBills 34 = .ok (.iinc 3 1, 3) := by decide +kernel
theorem dL_areBills_37 : decode cL_areBills 37 = .ok (.goto (-33), 3) := by decide +kernel
theorem dL_areBills_40 : decode cL_areBills 40 = .ok (.iload_n 2, 1) := by decide +kernel
theorem dL_areBills_41 : decode cL_areBills 41 = .ok (.ireturn, 1) := by decide +kernel
set_option maxRecDepth 20000 in
theorem ggL_law_X4_init : GoodIn wsL_law wsX4_init := goodIn_r _ [6, 7, 8, 9, 10, 11, 12, 13, 14, 15, 16, 17, 18, 19, 20, 21, 3, 22, 23, 24, 25, 26, 27, 28, 29, 30, 31, 32, 33, 34, 35, 36, 37, 38, 39, 40, 41, 42, 43, 44, 45, 247, 248, 249, 250, 251, 252, 253, 254, 255, 240, 241, 242, 243, 244, 245, 246, 256, 257, 258, 259, 260, 261, 262, 263, 264] (by decide +kernel) (by decide +kernel)
set_option maxRecDepth 20000 in
theorem gL_law_X4_init : GoodIn wsL_law (wsX4_init) := ggL_law_X4_init
set_option maxRecDepth 20000 in
theorem ggL_law_X4_hours : GoodIn wsL_law wsX4_hours := goodIn_r _ [49, 50, 240, 241, 242, 243, 244, 245, 246] (by decide +kernel) (by decide +kernel)
set_option maxRecDepth 20000 in
theorem gL_law_X4_hours : GoodIn wsL_law (wsV RL 10 RX4 yX4_hours wsX4_hours) := goodIn_app (goodIn_of _ (by decide +kernel)) ggL_law_X4_hours
set_option maxRecDepth 20000 in
theorem ggL_law_X4_cost : GoodIn wsL_law wsX4_cost := goodIn_r _ [54, 17, 240, 241, 242, 243, 244, 245, 246, 256, 257, 258, 259] (by decide +kernel) (by decide +kernel)
set_option maxRecDepth 20000 in
theorem gL_law_X4_cost : GoodIn wsL_law (wsV RL 87 RX4 yX4_cost wsX4_cost) := goodIn_app (goodIn_of _ (by decide +kernel)) ggL_law_X4_cost
set_option maxRecDepth 20000 in
theorem ggL_law_X4_losses : GoodIn wsL_law wsX4_losses := goodIn_r _ [58, 59, 240, 241, 242, 243, 244, 245, 246] (by decide +kernel) (by decide +kernel)
set_option maxRecDepth 20000 in
theorem gL_law_X4_losses : GoodIn wsL_law (wsV RL 64 RX4 yX4_losses wsX4_losses) := goodIn_app (goodIn_of _ (by decide +kernel)) ggL_law_X4_losses
set_option maxRecDepth 20000 in
theorem ggL_law_X4_load : GoodIn wsL_law wsX4_load := goodIn_ca (goodIn_r _ [63, 13, 64, 65, 2, 66, 67, 68, 69, 70, 71, 72, 12, 73, 74, 34, 32, 28, 75, 76, 77, 78, 79, 26, 29, 80, 81, 82, 83, 84, 85, 86, 87, 33, 88, 89, 90, 91, 27, 240, 241, 242, 243, 244, 245, 246, 247, 248, 249, 250, 251, 252, 253, 254, 255] (by decide +kernel) (by decide +kernel)) (goodIn_sub (fun _ h => List.mem_append_left _ (List.mem_append_left _ (List.mem_append_right _ h))) (by decide +kernel))
set_option maxRecDepth 20000 in
theorem gL_law_X4_load : GoodIn wsL_law (wsV RL 58 RX4 yX4_load wsX4_load) := goodIn_app (goodIn_of _ (by decide +kernel)) ggL_law_X4_load
set_option maxRecDepth 20000 in
theorem ggL_law_L_draw : GoodIn wsL_law wsL_draw := goodIn_r _ [95, 96, 97, 98] (by decide +kernel) (by decide +kernel)
set_option maxRecDepth 20000 in
theorem gL_law_L_draw : GoodIn wsL_law (va_wsS RL 94 yL_draw wsL_draw) := goodIn_app (goodIn_of _ (by decide +kernel)) ggL_law_L_draw
set_option maxRecDepth 20000 in
theorem ggL_law_L_step_wsL_step_r1 : GoodIn wsL_law wsL_step_r1 := goodIn_r wsL_step_r1 [46, 47, 48, 2, 49, 50, 102, 103, 104, 105, 67, 68, 106, 107, 13, 108, 80, 81, 69, 70, 71, 109, 110, 111] (by decide +kernel) (by decide +kernel)
set_option maxRecDepth 20000 in
theorem ggL_law_L_step_wsL_step_r2 : GoodIn wsL_law wsL_step_r2 := goodIn_r wsL_step_r2 [112, 113, 114, 115, 116, 117, 118, 17, 119, 16, 120, 121, 122, 123, 124, 125, 126, 127, 128, 129, 130, 131, 132, 133] (by decide +kernel) (by decide +kernel)
set_option maxRecDepth 20000 in
theorem ggL_law_L_step_wsL_step_r3 : GoodIn wsL_law wsL_step_r3 := goodIn_r wsL_step_r3 [134, 135, 136, 137, 8, 9, 138, 139, 140, 141, 142, 143, 144, 145, 146, 147, 148, 149, 21, 150, 151, 152, 153, 154] (by decide +kernel) (by decide +kernel)
set_option maxRecDepth 20000 in
theorem ggL_law_L_step_wsL_step_r4 : GoodIn wsL_law wsL_step_r4 := goodIn_r wsL_step_r4 [155, 94, 156, 157, 158, 159, 160, 161, 162, 12, 163, 164, 28, 32, 76, 77, 78, 79, 26, 29, 165, 166, 167, 168] (by decide +kernel) (by decide +kernel)
set_option maxRecDepth 20000 in
theorem ggL_law_L_step_wsL_step_r5 : GoodIn wsL_law wsL_step_r5 := goodIn_r wsL_step_r5 [169, 170, 3, 171, 172, 173, 60, 61, 62, 63, 64, 65, 66, 72, 73, 74, 34, 75, 82, 83, 84, 85, 86, 87] (by decide +kernel) (by decide +kernel)
set_option maxRecDepth 20000 in
theorem ggL_law_L_step_wsL_step_r6 : GoodIn wsL_law wsL_step_r6 := goodIn_r wsL_step_r6 [33, 88, 89, 90, 91, 27, 174, 175, 176, 177, 59, 178, 179, 180, 181, 182, 183, 184, 30, 185, 186, 187, 188, 189] (by decide +kernel) (by decide +kernel)
set_option maxRecDepth 20000 in
theorem ggL_law_L_step_wsL_step_r7 : GoodIn wsL_law wsL_step_r7 := goodIn_r wsL_step_r7 [190, 191, 192, 193, 194, 195, 196, 197, 20, 198, 199, 44, 45, 42, 41, 43, 200, 201, 202, 203, 204, 205, 206, 207] (by decide +kernel) (by decide +kernel)
set_option maxRecDepth 20000 in
theorem ggL_law_L_step_wsL_step_r8 : GoodIn wsL_law wsL_step_r8 := goodIn_r wsL_step_r8 [22, 208, 209, 210, 211, 55, 56, 57, 58, 212, 213, 214, 215, 216, 217, 218, 219, 220, 221, 222, 223, 224, 225, 226] (by decide +kernel) (by decide +kernel)
set_option maxRecDepth 20000 in
theorem ggL_law_L_step_wsL_step_r9 : GoodIn wsL_law wsL_step_r9 := goodIn_r wsL_step_r9 [227, 228, 229, 230, 231, 232, 51, 52, 53, 54] (by decide +kernel) (by decide +kernel)
set_option maxRecDepth 20000 in
theorem ggL_law_L_step_c : GoodIn wsL_law [Cond.code yL_step cL_step 11 (some .boolean)] := goodIn_r _ [101] (by decide +kernel) (by decide +kernel)
theorem ggL_law_L_step : GoodIn wsL_law wsL_step := goodIn_c1 ggL_law_L_step_c (goodIn_app (goodIn_app (goodIn_app (goodIn_app (goodIn_app (goodIn_app (goodIn_app (goodIn_app (goodIn_app ggL_law_L_step_wsL_step_r1 (goodIn_app ggL_law_L_step_wsL_step_r2 (goodIn_app ggL_law_L_step_wsL_step_r3 (goodIn_app ggL_law_L_step_wsL_step_r4 (goodIn_app ggL_law_L_step_wsL_step_r5 (goodIn_app ggL_law_L_step_wsL_step_r6 (goodIn_app ggL_law_L_step_wsL_step_r7 (goodIn_app ggL_law_L_step_wsL_step_r8 ggL_law_L_step_wsL_step_r9)))))))) (goodIn_sub (fun _ h => inlX4 _ h) (by decide +kernel))) (goodIn_sub (fun _ h => inlX2 _ h) (by decide +kernel))) (goodIn_sub (fun _ h => inlX0 _ h) (by decide +kernel))) (goodIn_sub (fun _ h => inlX3 _ h) (by decide +kernel))) (goodIn_sub (fun _ h => inlX1 _ h) (by decide +kernel))) (goodIn_sub (fun _ h => List.mem_append_left _ (List.mem_append_left _ (List.mem_append_right _ h))) (by decide +kernel))) (goodIn_sub (fun _ h => List.mem_append_left _ (List.mem_append_right _ h)) (by decide +kernel))) (goodIn_sub (fun _ h => List.mem_append_right _ h) (by decide +kernel)))
set_option maxRecDepth 20000 in
theorem gL_law_L_step : GoodIn wsL_law (va_wsS RL 98 yL_step wsL_step) := goodIn_app (goodIn_of _ (by decide +kernel)) ggL_law_L_step
set_option maxRecDepth 20000 in
theorem ggL_law_L_areBills : GoodIn wsL_law wsL_areBills := goodIn_ca (goodIn_r _ [235, 236, 237, 238, 2, 239, 67, 68, 22, 108, 80, 81, 240, 241, 242, 243, 244, 245, 246] (by decide +kernel) (by decide +kernel)) (goodIn_sub (fun _ h => List.mem_append_left _ (List.mem_append_left _ (List.mem_append_right _ h))) (by decide +kernel))
set_option maxRecDepth 20000 in
theorem gL_law_L_areBills : GoodIn wsL_law (va_wsS RL 102 yL_areBills wsL_areBills) := goodIn_app (goodIn_of _ (by decide +kernel)) ggL_law_L_areBills
