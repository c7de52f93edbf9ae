theorem goodIn_c1 {big a : List Cond} {c : Cond} (hc : GoodIn big [c]) (ha : GoodIn big a) : GoodIn big (c :: a) := fun w h => (List.mem_cons.mp h).elim (fun e => hc w (List.mem_cons.mpr (Or.inl e))) (ha w)
theorem dL_draw_0 : decode cL_draw 0 = .ok (.iload_n 1, 1) := by decide +kernel
theorem dL_draw_1 : decode cL_draw 1 = .ok (.aload_n 0, 1) := by decide +kernel
theorem dL_draw_2 : decode cL_draw 2 = .ok (.arraylength, 1) := by decide +kernel
theorem dL_draw_3 : decode cL_draw 3 = .ok (.if_icmp .ge 12, 3) := by decide +kernel
theorem dL_draw_6 : decode cL_draw 6 = .ok (.aload_n 0, 1) := by decide +kernel
theorem dL_draw_7 : decode cL_draw 7 = .ok (.iload_n 1, 1) := by decide +kernel
theorem dL_draw_8 : decode cL_draw 8 = .ok (.iaload, 1) := by decide +kernel
theorem dL_draw_9 : decode cL_draw 9 = .ok (.ldc 7, 2) := by decide +kernel
theorem dL_draw_11 : decode cL_draw 11 = .ok (.iand, 1) := by decide +kernel
theorem dL_draw_12 : decode cL_draw 12 = .ok (.goto 12, 3) := by decide +kernel
theorem dL_draw_15 : decode cL_draw 15 = .ok (.ldc 8, 2) := by decide +kernel
theorem dL_draw_17 : decode cL_draw 17 = .ok (.iload_n 1, 1) := by decide +kernel
theorem dL_draw_18 : decode cL_draw 18 = .ok (.iconst 2, 1) := by decide +kernel
theorem dL_draw_19 : decode cL_draw 19 = .ok (.iadd, 1) := by decide +kernel
theorem dL_draw_20 : decode cL_draw 20 = .ok (.imul, 1) := by decide +kernel
theorem dL_draw_21 : decode cL_draw 21 = .ok (.ldc 9, 2) := by decide +kernel
theorem dL_draw_23 : decode cL_draw 23 = .ok (.irem, 1) := by decide +kernel
theorem dL_draw_24 : decode cL_draw 24 = .ok (.ireturn, 1) := by decide +kernel
set_option maxRecDepth 20000 in
theorem ggL_step_X4_hours : GoodIn wsL_step wsX4_hours := goodIn_r _ [5, 6, 203, 204, 205, 206, 207, 208, 209] (by decide +kernel) (by decide +kernel)
set_option maxRecDepth 20000 in
theorem gL_step_X4_hours : GoodIn wsL_step (wsV RL 10 RX4 yX4_hours wsX4_hours) := goodIn_app (goodIn_of _ (by decide +kernel)) ggL_step_X4_hours
set_option maxRecDepth 20000 in
theorem ggL_step_X4_feed : GoodIn wsL_step wsX4_feed := goodIn_ca (goodIn_ca (goodIn_r _ [10, 11, 12, 13, 14, 6, 15, 16, 17, 4, 18, 19, 20, 21, 203, 204, 205, 206, 207, 208, 209, 210, 211, 212, 213, 214, 215, 216, 217, 218] (by decide +kernel) (by decide +kernel)) (goodIn_sub (fun _ h => List.mem_cons_of_mem _ (List.mem_append_left _ (List.mem_append_left _ (List.mem_append_right _ h)))) (by decide +kernel))) (goodIn_sub (fun _ h => List.mem_cons_of_mem _ (List.mem_append_left _ (List.mem_append_right _ h))) (by decide +kernel))
set_option maxRecDepth 20000 in
theorem gL_step_X4_feed : GoodIn wsL_step (wsV RL 16 RX4 yX4_feed wsX4_feed) := goodIn_app (goodIn_of _ (by decide +kernel)) ggL_step_X4_feed
set_option maxRecDepth 20000 in
theorem ggL_step_X4_setArea : GoodIn wsL_step wsX4_setArea := goodIn_ca (goodIn_r _ [25, 11, 12, 15, 16, 17, 4, 18, 19, 20, 21, 203, 204, 205, 206, 207, 208, 209, 210, 211, 212, 213, 214, 215, 216, 217, 218] (by decide +kernel) (by decide +kernel)) (goodIn_sub (fun _ h => List.mem_cons_of_mem _ (List.mem_append_left _ (List.mem_append_left _ (List.mem_append_right _ h)))) (by decide +kernel))
set_option maxRecDepth 20000 in
theorem gL_step_X4_setArea : GoodIn wsL_step (wsV RL 20 RX4 yX4_setArea wsX4_setArea) := goodIn_app (goodIn_of _ (by decide +kernel)) ggL_step_X4_setArea
set_option maxRecDepth 20000 in
theorem ggL_step_X4_fired : GoodIn wsL_step wsX4_fired := goodIn_ca (goodIn_r _ [29, 30, 31, 32, 33, 34, 35, 36, 37, 203, 204, 205, 206, 207, 208, 209, 219, 220, 221, 222, 223, 224, 225, 226, 227, 228] (by decide +kernel) (by decide +kernel)) (goodIn_sub (fun _ h => List.mem_cons_of_mem _ (List.mem_append_right _ h)) (by decide +kernel))
set_option maxRecDepth 20000 in
theorem gL_step_X4_fired : GoodIn wsL_step (wsV RL 24 RX4 yX4_fired wsX4_fired) := goodIn_app (goodIn_of _ (by decide +kernel)) ggL_step_X4_fired
set_option maxRecDepth 20000 in
theorem ggL_step_X4_addBoiler : GoodIn wsL_step wsX4_addBoiler := goodIn_ca (goodIn_ca (goodIn_r _ [41, 11, 12, 13, 14, 32, 19, 20, 4, 21, 42, 34, 43, 44, 45, 46, 47, 48, 37, 49, 50, 51, 52, 53, 54, 55, 56, 57, 58, 59, 60, 61, 62, 203, 204, 205, 206, 207, 208, 209, 225, 226, 227, 228, 219, 220, 221, 222, 223, 224] (by decide +kernel) (by decide +kernel)) (goodIn_sub (fun _ h => List.mem_cons_of_mem _ (List.mem_append_left _ (List.mem_append_left _ (List.mem_append_right _ h)))) (by decide +kernel))) (goodIn_sub (fun _ h => List.mem_cons_of_mem _ (List.mem_append_left _ (List.mem_append_right _ h))) (by decide +kernel))
set_option maxRecDepth 20000 in
theorem gL_step_X4_addBoiler : GoodIn wsL_step (wsV RL 28 RX4 yX4_addBoiler wsX4_addBoiler) := goodIn_app (goodIn_of _ (by decide +kernel)) ggL_step_X4_addBoiler
set_option maxRecDepth 20000 in
theorem ggL_step_X4_setError : GoodIn wsL_step wsX4_setError := goodIn_ca (goodIn_r _ [66, 11, 12, 67, 16, 17, 4, 18, 19, 20, 21, 203, 204, 205, 206, 207, 208, 209, 229, 230, 231, 232, 233] (by decide +kernel) (by decide +kernel)) (goodIn_sub (fun _ h => List.mem_cons_of_mem _ (List.mem_append_left _ (List.mem_append_left _ (List.mem_append_right _ h)))) (by decide +kernel))
set_option maxRecDepth 20000 in
theorem gL_step_X4_setError : GoodIn wsL_step (wsV RL 31 RX4 yX4_setError wsX4_setError) := goodIn_app (goodIn_of _ (by decide +kernel)) ggL_step_X4_setError
set_option maxRecDepth 20000 in
theorem ggL_step_X4_isOpen : GoodIn wsL_step wsX4_isOpen := goodIn_ca (goodIn_r _ [71, 11, 12, 15, 16, 17, 4, 18, 203, 204, 205, 206, 207, 208, 209, 210, 211, 212, 213, 214, 215, 216, 217, 218] (by decide +kernel) (by decide +kernel)) (goodIn_sub (fun _ h => List.mem_cons_of_mem _ (List.mem_append_left _ (List.mem_append_left _ (List.mem_append_right _ h)))) (by decide +kernel))
set_option maxRecDepth 20000 in
theorem gL_step_X4_isOpen : GoodIn wsL_step (wsV RL 34 RX4 yX4_isOpen wsX4_isOpen) := goodIn_app (goodIn_of _ (by decide +kernel)) ggL_step_X4_isOpen
set_option maxRecDepth 20000 in
theorem ggL_step_L_repairs : GoodIn wsL_step wsL_repairs := goodIn_ca (goodIn_ca (goodIn_r _ [75, 76, 77, 78, 4, 79, 11, 12, 13, 14, 15, 6, 80, 16, 17, 18, 19, 20, 21, 81, 82, 83, 84, 85, 86, 87, 88, 89, 90, 91, 92, 93, 94, 74, 95, 68, 69, 70, 71, 203, 204, 205, 206, 207, 208, 209, 210, 211, 212, 213, 214, 215, 216, 217, 218] (by decide +kernel) (by decide +kernel)) (goodIn_sub (fun _ h => List.mem_cons_of_mem _ (List.mem_append_left _ (List.mem_append_left _ (List.mem_append_right _ h)))) (by decide +kernel))) (goodIn_sub (fun _ h => List.mem_cons_of_mem _ (List.mem_append_left _ (List.mem_append_right _ h))) (by decide +kernel))
set_option maxRecDepth 20000 in
theorem gL_step_L_repairs : GoodIn wsL_step (va_wsS RL 38 yL_repairs wsL_repairs) := goodIn_app (goodIn_of _ (by decide +kernel)) ggL_step_L_repairs
set_option maxRecDepth 20000 in
theorem ggL_step_L_hours_wsL_hours_r1 : GoodIn wsL_step wsL_hours_r1 := goodIn_r wsL_hours_r1 [99, 100, 101, 74, 102, 93, 94, 95, 68, 69, 70, 4, 71, 11, 12, 15, 16, 17, 18, 103, 104, 105, 106, 107] (by decide +kernel) (by decide +kernel)
set_option maxRecDepth 20000 in
theorem ggL_step_L_hours_wsL_hours_r2 : GoodIn wsL_step wsL_hours_r2 := goodIn_r wsL_hours_r2 [108, 109, 19, 20, 21, 110, 82, 111, 112, 113, 86, 85, 114, 87, 88, 89, 90, 91, 92, 115, 116, 117, 118, 119] (by decide +kernel) (by decide +kernel)
set_option maxRecDepth 20000 in
theorem ggL_step_L_hours_wsL_hours_r3 : GoodIn wsL_step wsL_hours_r3 := goodIn_r wsL_hours_r3 [120, 121, 122, 123, 124, 125, 126, 127, 128, 129, 130, 32, 67, 131, 80, 6, 132, 133, 134, 135, 136, 137, 138, 139] (by decide +kernel) (by decide +kernel)
set_option maxRecDepth 20000 in
theorem ggL_step_L_hours_wsL_hours_r4 : GoodIn wsL_step wsL_hours_r4 := goodIn_r wsL_hours_r4 [140, 141, 142, 143, 34, 144, 145, 37, 146, 147, 47, 148, 149, 150, 56, 57, 151, 152, 153, 154, 155, 156, 157, 158] (by decide +kernel) (by decide +kernel)
set_option maxRecDepth 20000 in
theorem ggL_step_L_hours_wsL_hours_r5 : GoodIn wsL_step wsL_hours_r5 := goodIn_r wsL_hours_r5 [159, 160, 161, 162, 163, 164, 165, 166, 167, 168, 169, 170, 171, 172, 173, 174, 175, 176, 177, 178, 179, 180, 181, 182] (by decide +kernel) (by decide +kernel)
set_option maxRecDepth 20000 in
theorem ggL_step_L_hours_wsL_hours_r6 : GoodIn wsL_step wsL_hours_r6 := goodIn_r wsL_hours_r6 [183, 184, 185, 186, 187, 188, 189, 190, 191, 192, 193, 194, 195, 196, 197, 198, 26, 27, 28, 29, 30, 31, 33, 35] (by decide +kernel) (by decide +kernel)
set_option maxRecDepth 20000 in
theorem ggL_step_L_hours_wsL_hours_r7 : GoodIn wsL_step wsL_hours_r7 := goodIn_r wsL_hours_r7 [36, 199, 200, 201, 202] (by decide +kernel) (by decide +kernel)
set_option maxRecDepth 20000 in
theorem ggL_step_L_hours_c : GoodIn wsL_step [Cond.code yL_hours cL_hours 14 (some .boolean)] := goodIn_r _ [98] (by decide +kernel) (by decide +kernel)
theorem ggL_step_L_hours : GoodIn wsL_step wsL_hours := goodIn_c1 ggL_step_L_hours_c (goodIn_app (goodIn_app (goodIn_app (goodIn_app (goodIn_app (goodIn_app (goodIn_app (goodIn_app ggL_step_L_hours_wsL_hours_r1 (goodIn_app ggL_step_L_hours_wsL_hours_r2 (goodIn_app ggL_step_L_hours_wsL_hours_r3 (goodIn_app ggL_step_L_hours_wsL_hours_r4 (goodIn_app ggL_step_L_hours_wsL_hours_r5 (goodIn_app ggL_step_L_hours_wsL_hours_r6 ggL_step_L_hours_wsL_hours_r7)))))) (goodIn_sub (fun _ h => List.mem_cons_of_mem _ (List.mem_append_left _ (List.mem_append_left _ (List.mem_append_left _ (List.mem_append_left _ (List.mem_append_left _ (List.mem_append_left _ (List.mem_append_left _ (List.mem_append_right _ h))))))))) (by decide +kernel))) (goodIn_sub (fun _ h => List.mem_cons_of_mem _ (List.mem_append_left _ (List.mem_append_left _ (List.mem_append_left _ (List.mem_append_left _ (List.mem_append_left _ (List.mem_append_left _ (List.mem_append_right _ h)))))))) (by decide +kernel))) (goodIn_sub (fun _ h => List.mem_cons_of_mem _ (List.mem_append_left _ (List.mem_append_left _ (List.mem_append_left _ (List.mem_append_left _ (List.mem_append_right _ h)))))) (by decide +kernel))) (goodIn_sub (fun _ h => List.mem_cons_of_mem _ (List.mem_append_left _ (List.mem_append_left _ (List.mem_append_left _ (List.mem_append_left _ (List.mem_append_left _ (List.mem_append_right _ h))))))) (by decide +kernel))) (goodIn_sub (fun _ h => List.mem_cons_of_mem _ (List.mem_append_left _ (List.mem_append_left _ (List.mem_append_left _ (List.mem_append_right _ h))))) (by decide +kernel))) (goodIn_sub (fun _ h => List.mem_cons_of_mem _ (List.mem_append_left _ (List.mem_append_left _ (List.mem_append_right _ h)))) (by decide +kernel))) (goodIn_sub (fun _ h => List.mem_cons_of_mem _ (List.mem_append_right _ h)) (by decide +kernel)))
set_option maxRecDepth 20000 in
theorem gL_step_L_hours : GoodIn wsL_step (va_wsS RL 44 yL_hours wsL_hours) := goodIn_app (goodIn_of _ (by decide +kernel)) ggL_step_L_hours
theorem dL_step_0 : decode cL_step 0 = .ok (.iconst 1, 1) := by decide +kernel
theorem dL_step_1 : decode cL_step 1 = .ok (.iload 5, 2) := by decide +kernel
theorem dL_step_3 : decode cL_step 3 = .ok (.bipush 11, 2) := by decide +kernel
theorem dL_step_5 : decode cL_step 5 = .ok (.irem, 1) := by decide +kernel
theorem dL_step_6 : decode cL_step 6 = .ok (.iadd, 1) := by decide +kernel
theorem dL_step_7 : decode cL_step 7 = .ok (.istore 7, 2) := by decide +kernel
theorem dL_step_9 : decode cL_step 9 = .ok (.iload 4, 2) := by decide +kernel
theorem dL_step_11 : decode cL_step 11 = .ok (.bipush 12, 2) := by decide +kernel
theorem dL_step_13 : decode cL_step 13 = .ok (.irem, 1) := by decide +kernel
theorem dL_step_14 : decode cL_step 14 = .ok (.tableswitch 400 0 7 #[46, 46, 126, 126, 171, 293, 354, 354], 46) := by decide +kernel
theorem dL_step_60 : decode cL_step 60 = .ok (.aload_n 1, 1) := by decide +kernel
theorem dL_step_61 : decode cL_step 61 = .ok (.iconst 0, 1) := by decide +kernel
theorem dL_step_62 : decode cL_step 62 = .ok (.iaload, 1) := by decide +kernel
theorem dL_step_63 : decode cL_step 63 = .ok (.ifCond .le 19, 3) := by decide +kernel
theorem dL_step_66 : decode cL_step 66 = .ok (.aload_n 0, 1) := by decide +kernel
theorem dL_step_67 : decode cL_step 67 = .ok (.invokevirtual 10, 3) := by decide +kernel
theorem dL_step_70 : decode cL_step 70 = .ok (.aload_n 1, 1) := by decide +kernel
theorem dL_step_71 : decode cL_step 71 = .ok (.iconst 0, 1) := by decide +kernel
theorem dL_step_72 : decode cL_step 72 = .ok (.iaload, 1) := by decide +kernel
theorem dL_step_73 : decode cL_step 73 = .ok (.if_icmp .ne 7, 3) := by decide +kernel
theorem dL_step_76 : decode cL_step 76 = .ok (.iconst 1, 1) := by decide +kernel
theorem dL_step_77 : decode cL_step 77 = .ok (.goto 4, 3) := by decide +kernel
theorem dL_step_80 : decode cL_step 80 = .ok (.iconst 0, 1) := by decide +kernel
theorem dL_step_81 : decode cL_step 81 = .ok (.ireturn, 1) := by decide +kernel
theorem dL_step_82 : decode cL_step 82 = .ok (.aload_n 2, 1) := by decide +kernel
theorem dL_step_83 : decode cL_step 83 = .ok (.iload 7, 2) := by decide +kernel
theorem dL_step_85 : decode cL_step 85 = .ok (.iaload, 1) := by decide +kernel
theorem dL_step_86 : decode cL_step 86 = .ok (.istore 8, 2) := by decide +kernel
theorem dL_step_88 : decode cL_step 88 = .ok (.aload_n 2, 1) := by decide +kernel
theorem dL_step_89 : decode cL_step 89 = .ok (.iload 7, 2) := by decide +kernel
theorem dL_step_91 : decode cL_step 91 = .ok (.iload 6, 2) := by decide +kernel
theorem dL_step_93 : decode cL_step 93 = .ok (.iload 7, 2) := by decide +kernel
theorem dL_step_95 : decode cL_step 95 = .ok (.irem, 1) := by decide +kernel
theorem dL_step_96 : decode cL_step 96 = .ok (.iastore, 1) := by decide +kernel
theorem dL_step_97 : decode cL_step 97 = .ok (.aload_n 2, 1) := by decide +kernel
theorem dL_step_98 : decode cL_step 98 = .ok (.bipush 12, 2) := by decide +kernel
theorem dL_step_100 : decode cL_step 100 = .ok (.iload 7, 2) := by decide +kernel
theorem dL_step_102 : decode cL_step 102 = .ok (.iadd, 1) := by decide +kernel
theorem dL_step_103 : decode cL_step 103 = .ok (.iload 6, 2) := by decide +kernel
theorem dL_step_105 : decode cL_step 105 = .ok (.bipush 11, 2) := by decide +kernel
theorem dL_step_107 : decode cL_step 107 = .ok (.idiv, 1) := by decide +kernel
theorem dL_step_108 : decode cL_step 108 = .ok (.bipush 21, 2) := by decide +kernel
theorem dL_step_110 : decode cL_step 110 = .ok (.irem, 1) := by decide +kernel
theorem dL_step_111 : decode cL_step 111 = .ok (.iastore, 1) := by decide +kernel
theorem dL_step_112 : decode cL_step 112 = .ok (.aload_n 0, 1) := by decide +kernel
theorem dL_step_113 : decode cL_step 113 = .ok (.iload 7, 2) := by decide +kernel
theorem dL_step_115 : decode cL_step 115 = .ok (.aload_n 2, 1) := by decide +kernel
theorem dL_step_116 : decode cL_step 116 = .ok (.iload 7, 2) := by decide +kernel
theorem dL_step_118 : decode cL_step 118 = .ok (.iaload, 1) := by decide +kernel
theorem dL_step_119 : decode cL_step 119 = .ok (.aload_n 2, 1) := by decide +kernel
theorem dL_step_120 : decode cL_step 120 = .ok (.bipush 12, 2) := by decide +kernel
theorem dL_step_122 : decode cL_step 122 = .ok (.iload 7, 2) := by decide +kernel
theorem dL_step_124 : decode cL_step 124 = .ok (.iadd, 1) := by decide +kernel
theorem dL_step_125 : decode cL_step 125 = .ok (.iaload, 1) := by decide +kernel
theorem dL_step_126 : decode cL_step 126 = .ok (.invokevirtual 16, 3) := by decide +kernel
theorem dL_step_129 : decode cL_step 129 = .ok (.iload 8, 2) := by decide +kernel
theorem dL_step_131 : decode cL_step 131 = .ok (.if_icmp .ne 7, 3) := by decide +kernel
theorem dL_step_134 : decode cL_step 134 = .ok (.iconst 1, 1) := by decide +kernel
theorem dL_step_135 : decode cL_step 135 = .ok (.goto 4, 3) := by decide +kernel
theorem dL_step_138 : decode cL_step 138 = .ok (.iconst 0, 1) := by decide +kernel
theorem dL_step_139 : decode cL_step 139 = .ok (.ireturn, 1) := by decide +kernel
theorem dL_step_140 : decode cL_step 140 = .ok (.aload_n 2, 1) := by decide +kernel
theorem dL_step_141 : decode cL_step 141 = .ok (.bipush 24, 2) := by decide +kernel
theorem dL_step_143 : decode cL_step 143 = .ok (.iload 7, 2) := by decide +kernel
theorem dL_step_145 : decode cL_step 145 = .ok (.iadd, 1) := by decide +kernel
theorem dL_step_146 : decode cL_step 146 = .ok (.iaload, 1) := by decide +kernel
theorem dL_step_147 : decode cL_step 147 = .ok (.istore 9, 2) := by decide +kernel
theorem dL_step_149 : decode cL_step 149 = .ok (.aload_n 2, 1) := by decide +kernel
theorem dL_step_150 : decode cL_step 150 = .ok (.bipush 24, 2) := by decide +kernel
theorem dL_step_152 : decode cL_step 152 = .ok (.iload 7, 2) := by decide +kernel
theorem dL_step_154 : decode cL_step 154 = .ok (.iadd, 1) := by decide +kernel
theorem dL_step_155 : decode cL_step 155 = .ok (.iload 6, 2) := by decide +kernel
theorem dL_step_157 : decode cL_step 157 = .ok (.bipush 51, 2) := by decide +kernel
theorem dL_step_159 : decode cL_step 159 = .ok (.irem, 1) := by decide +kernel
theorem dL_step_160 : decode cL_step 160 = .ok (.iastore, 1) := by decide +kernel
theorem dL_step_161 : decode cL_step 161 = .ok (.aload_n 0, 1) := by decide +kernel
theorem dL_step_162 : decode cL_step 162 = .ok (.iload 7, 2) := by decide +kernel
theorem dL_step_164 : decode cL_step 164 = .ok (.aload_n 2, 1) := by decide +kernel
theorem dL_step_165 : decode cL_step 165 = .ok (.bipush 24, 2) := by decide +kernel
theorem dL_step_167 : decode cL_step 167 = .ok (.iload 7, 2) := by decide +kernel
theorem dL_step_169 : decode cL_step 169 = .ok (.iadd, 1) := by decide +kernel
theorem dL_step_170 : decode cL_step 170 = .ok (.iaload, 1) := by decide +kernel
theorem dL_step_171 : decode cL_step 171 = .ok (.invokevirtual 20, 3) := by decide +kernel
theorem dL_step_174 : decode cL_step 174 = .ok (.iload 9, 2) := by decide +kernel
theorem dL_step_176 : decode cL_step 176 = .ok (.if_icmp .ne 7, 3) := by decide +kernel
theorem dL_step_179 : decode cL_step 179 = .ok (.iconst 1, 1) := by decide +kernel
theorem dL_step_180 : decode cL_step 180 = .ok (.goto 4, 3) := by decide +kernel
theorem dL_step_183 : decode cL_step 183 = .ok (.iconst 0, 1) := by decide +kernel
theorem dL_step_184 : decode cL_step 184 = .ok (.ireturn, 1) := by decide +kernel
theorem dL_step_185 : decode cL_step 185 = .ok (.aload_n 1, 1) := by decide +kernel
theorem dL_step_186 : decode cL_step 186 = .ok (.iconst 2, 1) := by decide +kernel
theorem dL_step_187 : decode cL_step 187 = .ok (.iaload, 1) := by decide +kernel
theorem dL_step_188 : decode cL_step 188 = .ok (.iconst 4, 1) := by decide +kernel
theorem dL_step_189 : decode cL_step 189 = .ok (.if_icmp .ne 17, 3) := by decide +kernel
theorem dL_step_192 : decode cL_step 192 = .ok (.aload_n 0, 1) := by decide +kernel
theorem dL_step_193 : decode cL_step 193 = .ok (.iconst 3, 1) := by decide +kernel
theorem dL_step_194 : decode cL_step 194 = .ok (.invokevirtual 24, 3) := by decide +kernel
theorem dL_step_197 : decode cL_step 197 = .ok (.ifCond .lt 7, 3) := by decide +kernel
theorem dL_step_200 : decode cL_step 200 = .ok (.iconst 1, 1) := by decide +kernel
theorem dL_step_201 : decode cL_step 201 = .ok (.goto 4, 3) := by decide +kernel
theorem dL_step_204 : decode cL_step 204 = .ok (.iconst 0, 1) := by decide +kernel
theorem dL_step_205 : decode cL_step 205 = .ok (.ireturn, 1) := by decide +kernel
theorem dL_step_206 : decode cL_step 206 = .ok (.aload_n 3, 1) := by decide +kernel
theorem dL_step_207 : decode cL_step 207 = .ok (.aload_n 1, 1) := by decide +kernel
theorem dL_step_208 : decode cL_step 208 = .ok (.iconst 2, 1) := by decide +kernel
theorem dL_step_209 : decode cL_step 209 = .ok (.iaload, 1) := by decide +kernel
theorem dL_step_210 : decode cL_step 210 = .ok (.iconst 1, 1) := by decide +kernel
theorem dL_step_211 : decode cL_step 211 = .ok (.iload 5, 2) := by decide +kernel
theorem dL_step_213 : decode cL_step 213 = .ok (.iconst 5, 1) := by decide +kernel
theorem dL_step_214 : decode cL_step 214 = .ok (.irem, 1) := by decide +kernel
theorem dL_step_215 : decode cL_step 215 = .ok (.iadd, 1) := by decide +kernel
theorem dL_step_216 : decode cL_step 216 = .ok (.iastore, 1) := by decide +kernel
theorem dL_step_217 : decode cL_step 217 = .ok (.aload_n 3, 1) := by decide +kernel
theorem dL_step_218 : decode cL_step 218 = .ok (.iconst 4, 1) := by decide +kernel
theorem dL_step_219 : decode cL_step 219 = .ok (.aload_n 1, 1) := by decide +kernel
theorem dL_step_220 : decode cL_step 220 = .ok (.iconst 2, 1) := by decide +kernel
theorem dL_step_221 : decode cL_step 221 = .ok (.iaload, 1) := by decide +kernel
theorem dL_step_222 : decode cL_step 222 = .ok (.iadd, 1) := by decide +kernel
theorem dL_step_223 : decode cL_step 223 = .ok (.iconst 1, 1) := by decide +kernel
theorem dL_step_224 : decode cL_step 224 = .ok (.iload 6, 2) := by decide +kernel
theorem dL_step_226 : decode cL_step 226 = .ok (.bipush 100, 2) := by decide +kernel
theorem dL_step_228 : decode cL_step 228 = .ok (.irem, 1) := by decide +kernel
theorem dL_step_229 : decode cL_step 229 = .ok (.iadd, 1) := by decide +kernel
theorem dL_step_230 : decode cL_step 230 = .ok (.iastore, 1) := by decide +kernel
theorem dL_step_231 : decode cL_step 231 = .ok (.aload_n 3, 1) := by decide +kernel
theorem dL_step_232 : decode cL_step 232 = .ok (.bipush 8, 2) := by decide +kernel
theorem dL_step_234 : decode cL_step 234 = .ok (.aload_n 1, 1) := by decide +kernel
theorem dL_step_235 : decode cL_step 235 = .ok (.iconst 2, 1) := by decide +kernel
theorem dL_step_236 : decode cL_step 236 = .ok (.iaload, 1) := by decide +kernel
theorem dL_step_237 : decode cL_step 237 = .ok (.iadd, 1) := by decide +kernel
theorem dL_step_238 : decode cL_step 238 = .ok (.iconst 1, 1) := by decide +kernel
theorem dL_step_239 : decode cL_step 239 = .ok (.iload 5, 2) := by decide +kernel
theorem dL_step_241 : decode cL_step 241 = .ok (.iconst 5, 1) := by decide +kernel
theorem dL_step_242 : decode cL_step 242 = .ok (.idiv, 1) := by decide +kernel
theorem dL_step_243 : decode cL_step 243 = .ok (.bipush 100, 2) := by decide +kernel
theorem dL_step_245 : decode cL_step 245 = .ok (.irem, 1) := by decide +kernel
theorem dL_step_246 : decode cL_step 246 = .ok (.iadd, 1) := by decide +kernel
theorem dL_step_247 : decode cL_step 247 = .ok (.iastore, 1) := by decide +kernel
theorem dL_step_248 : decode cL_step 248 = .ok (.aload_n 1, 1) := by decide +kernel
theorem dL_step_249 : decode cL_step 249 = .ok (.iconst 2, 1) := by decide +kernel
theorem dL_step_250 : decode cL_step 250 = .ok (.dup2, 1) := by decide +kernel
theorem dL_step_251 : decode cL_step 251 = .ok (.iaload, 1) := by decide +kernel
theorem dL_step_252 : decode cL_step 252 = .ok (.iconst 1, 1) := by decide +kernel
theorem dL_step_253 : decode cL_step 253 = .ok (.iadd, 1) := by decide +kernel
theorem dL_step_254 : decode cL_step 254 = .ok (.iastore, 1) := by decide +kernel
theorem dL_step_255 : decode cL_step 255 = .ok (.aload_n 0, 1) := by decide +kernel
theorem dL_step_256 : decode cL_step 256 = .ok (.aload_n 3, 1) := by decide +kernel
theorem dL_step_257 : decode cL_step 257 = .ok (.aload_n 1, 1) := by decide +kernel
theorem dL_step_258 : decode cL_step 258 = .ok (.iconst 2, 1) := by decide +kernel
theorem dL_step_259 : decode cL_step 259 = .ok (.iaload, 1) := by decide +kernel
theorem dL_step_260 : decode cL_step 260 = .ok (.iconst 1, 1) := by decide +kernel
theorem dL_step_261 : decode cL_step 261 = .ok (.isub, 1) := by decide +kernel
theorem dL_step_262 : decode cL_step 262 = .ok (.iaload, 1) := by decide +kernel
theorem dL_step_263 : decode cL_step 263 = .ok (.aload_n 3, 1) := by decide +kernel
theorem dL_step_264 : decode cL_step 264 = .ok (.iconst 3, 1) := by decide +kernel
theorem dL_step_265 : decode cL_step 265 = .ok (.aload_n 1, 1) := by decide +kernel
theorem dL_step_266 : decode cL_step 266 = .ok (.iconst 2, 1) := by decide +kernel
theorem dL_step_267 : decode cL_step 267 = .ok (.iaload, 1) := by decide +kernel
theorem dL_step_268 : decode cL_step 268 = .ok (.iadd, 1) := by decide +kernel
theorem dL_step_269 : decode cL_step 269 = .ok (.iaload, 1) := by decide +kernel
theorem dL_step_270 : decode cL_step 270 = .ok (.aload_n 3, 1) := by decide +kernel
theorem dL_step_271 : decode cL_step 271 = .ok (.bipush 7, 2) := by decide +kernel
theorem dL_step_273 : decode cL_step 273 = .ok (.aload_n 1, 1) := by decide +kernel
theorem dL_step_274 : decode cL_step 274 = .ok (.iconst 2, 1) := by decide +kernel
theorem dL_step_275 : decode cL_step 275 = .ok (.iaload, 1) := by decide +kernel
theorem dL_step_276 : decode cL_step 276 = .ok (.iadd, 1) := by decide +kernel
theorem dL_step_277 : decode cL_step 277 = .ok (.iaload, 1) := by decide +kernel
theorem dL_step_278 : decode cL_step 278 = .ok (.invokevirtual 28, 3) := by decide +kernel
theorem dL_step_281 : decode cL_step 281 = .ok (.aload_n 1, 1) := by decide +kernel
theorem dL_step_282 : decode cL_step 282 = .ok (.iconst 2, 1) := by decide +kernel
theorem dL_step_283 : decode cL_step 283 = .ok (.iaload, 1) := by decide +kernel
theorem dL_step_284 : decode cL_step 284 = .ok (.iconst 1, 1) := by decide +kernel
theorem dL_step_285 : decode cL_step 285 = .ok (.isub, 1) := by decide +kernel
theorem dL_step_286 : decode cL_step 286 = .ok (.if_icmp .ne 19, 3) := by decide +kernel
theorem dL_step_289 : decode cL_step 289 = .ok (.aload_n 0, 1) := by decide +kernel
theorem dL_step_290 : decode cL_step 290 = .ok (.aload_n 1, 1) := by decide +kernel
theorem dL_step_291 : decode cL_step 291 = .ok (.iconst 2, 1) := by decide +kernel
theorem dL_step_292 : decode cL_step 292 = .ok (.iaload, 1) := by decide +kernel
theorem dL_step_293 : decode cL_step 293 = .ok (.iconst 1, 1) := by decide +kernel
theorem dL_step_294 : decode cL_step 294 = .ok (.isub, 1) := by decide +kernel
theorem dL_step_295 : decode cL_step 295 = .ok (.invokevirtual 24, 3) := by decide +kernel
theorem dL_step_298 : decode cL_step 298 = .ok (.ifCond .ne 7, 3) := by decide +kernel
theorem dL_step_301 : decode cL_step 301 = .ok (.iconst 1, 1) := by decide +kernel
theorem dL_step_302 : decode cL_step 302 = .ok (.goto 4, 3) := by decide +kernel
theorem dL_step_305 : decode cL_step 305 = .ok (.iconst 0, 1) := by decide +kernel
theorem dL_step_306 : decode cL_step 306 = .ok (.ireturn, 1) := by decide +kernel
theorem dL_step_307 : decode cL_step 307 = .ok (.aload_n 2, 1) := by decide +kernel
theorem dL_step_308 : decode cL_step 308 = .ok (.bipush 36, 2) := by decide +kernel
theorem dL_step_310 : decode cL_step 310 = .ok (.iload 7, 2) := by decide +kernel
theorem dL_step_312 : decode cL_step 312 = .ok (.iadd, 1) := by decide +kernel
theorem dL_step_313 : decode cL_step 313 = .ok (.iaload, 1) := by decide +kernel
theorem dL_step_314 : decode cL_step 314 = .ok (.istore 10, 2) := by decide +kernel
theorem dL_step_316 : decode cL_step 316 = .ok (.aload_n 2, 1) := by decide +kernel
theorem dL_step_317 : decode cL_step 317 = .ok (.bipush 36, 2) := by decide +kernel
theorem dL_step_319 : decode cL_step 319 = .ok (.iload 7, 2) := by decide +kernel
theorem dL_step_321 : decode cL_step 321 = .ok (.iadd, 1) := by decide +kernel
theorem dL_step_322 : decode cL_step 322 = .ok (.iload 6, 2) := by decide +kernel
theorem dL_step_324 : decode cL_step 324 = .ok (.iconst 3, 1) := by decide +kernel
theorem dL_step_325 : decode cL_step 325 = .ok (.irem, 1) := by decide +kernel
theorem dL_step_326 : decode cL_step 326 = .ok (.ifCond .ne 7, 3) := by decide +kernel
theorem dL_step_329 : decode cL_step 329 = .ok (.iconst 0, 1) := by decide +kernel
theorem dL_step_330 : decode cL_step 330 = .ok (.goto 13, 3) := by decide +kernel
theorem dL_step_333 : decode cL_step 333 = .ok (.iload 6, 2) := by decide +kernel
theorem dL_step_335 : decode cL_step 335 = .ok (.iconst 3, 1) := by decide +kernel
theorem dL_step_336 : decode cL_step 336 = .ok (.idiv, 1) := by decide +kernel
theorem dL_step_337 : decode cL_step 337 = .ok (.bipush 41, 2) := by decide +kernel
theorem dL_step_339 : decode cL_step 339 = .ok (.irem, 1) := by decide +kernel
theorem dL_step_340 : decode cL_step 340 = .ok (.bipush 20, 2) := by decide +kernel
theorem dL_step_342 : decode cL_step 342 = .ok (.isub, 1) := by decide +kernel
theorem dL_step_343 : decode cL_step 343 = .ok (.iastore, 1) := by decide +kernel
theorem dL_step_344 : decode cL_step 344 = .ok (.aload_n 0, 1) := by decide +kernel
theorem dL_step_345 : decode cL_step 345 = .ok (.iload 7, 2) := by decide +kernel
theorem dL_step_347 : decode cL_step 347 = .ok (.aload_n 2, 1) := by decide +kernel
theorem dL_step_348 : decode cL_step 348 = .ok (.bipush 36, 2) := by decide +kernel
theorem dL_step_350 : decode cL_step 350 = .ok (.iload 7, 2) := by decide +kernel
theorem dL_step_352 : decode cL_step 352 = .ok (.iadd, 1) := by decide +kernel
theorem dL_step_353 : decode cL_step 353 = .ok (.iaload, 1) := by decide +kernel
theorem dL_step_354 : decode cL_step 354 = .ok (.invokevirtual 31, 3) := by decide +kernel
theorem dL_step_357 : decode cL_step 357 = .ok (.iload 10, 2) := by decide +kernel
theorem dL_step_359 : decode cL_step 359 = .ok (.if_icmp .ne 7, 3) := by decide +kernel
theorem dL_step_362 : decode cL_step 362 = .ok (.iconst 1, 1) := by decide +kernel
theorem dL_step_363 : decode cL_step 363 = .ok (.goto 4, 3) := by decide +kernel
theorem dL_step_366 : decode cL_step 366 = .ok (.iconst 0, 1) := by decide +kernel
theorem dL_step_367 : decode cL_step 367 = .ok (.ireturn, 1) := by decide +kernel
theorem dL_step_368 : decode cL_step 368 = .ok (.aload_n 0, 1) := by decide +kernel
theorem dL_step_369 : decode cL_step 369 = .ok (.iload 7, 2) := by decide +kernel
theorem dL_step_371 : decode cL_step 371 = .ok (.invokevirtual 34, 3) := by decide +kernel
theorem dL_step_374 : decode cL_step 374 = .ok (.ifCond .eq 34, 3) := by decide +kernel
theorem dL_step_377 : decode cL_step 377 = .ok (.aload_n 1, 1) := by decide +kernel
theorem dL_step_378 : decode cL_step 378 = .ok (.iconst 0, 1) := by decide +kernel
theorem dL_step_379 : decode cL_step 379 = .ok (.iaload, 1) := by decide +kernel
theorem dL_step_380 : decode cL_step 380 = .ok (.ifCond .le 11, 3) := by decide +kernel
theorem dL_step_383 : decode cL_step 383 = .ok (.aload_n 1, 1) := by decide +kernel
theorem dL_step_384 : decode cL_step 384 = .ok (.iconst 1, 1) := by decide +kernel
theorem dL_step_385 : decode cL_step 385 = .ok (.iaload, 1) := by decide +kernel
theorem dL_step_386 : decode cL_step 386 = .ok (.bipush 10, 2) := by decide +kernel
theorem dL_step_388 : decode cL_step 388 = .ok (.if_icmp .lt 20, 3) := by decide +kernel
theorem dL_step_391 : decode cL_step 391 = .ok (.aload_n 0, 1) := by decide +kernel
theorem dL_step_392 : decode cL_step 392 = .ok (.aload_n 2, 1) := by decide +kernel
theorem dL_step_393 : decode cL_step 393 = .ok (.iload 7, 2) := by decide +kernel
theorem dL_step_395 : decode cL_step 395 = .ok (.iconst 1, 1) := by decide +kernel
theorem dL_step_396 : decode cL_step 396 = .ok (.iload 6, 2) := by decide +kernel
theorem dL_step_398 : decode cL_step 398 = .ok (.bipush 20, 2) := by decide +kernel
theorem dL_step_400 : decode cL_step 400 = .ok (.irem, 1) := by decide +kernel
theorem dL_step_401 : decode cL_step 401 = .ok (.iadd, 1) := by decide +kernel
theorem dL_step_402 : decode cL_step 402 = .ok (.invokestatic 38, 3) := by decide +kernel
theorem dL_step_405 : decode cL_step 405 = .ok (.ifCond .eq 7, 3) := by decide +kernel
theorem dL_step_408 : decode cL_step 408 = .ok (.iconst 1, 1) := by decide +kernel
theorem dL_step_409 : decode cL_step 409 = .ok (.goto 4, 3) := by decide +kernel
theorem dL_step_412 : decode cL_step 412 = .ok (.iconst 0, 1) := by decide +kernel
theorem dL_step_413 : decode cL_step 413 = .ok (.ireturn, 1) := by decide +kernel
theorem dL_step_414 : decode cL_step 414 = .ok (.aload_n 0, 1) := by decide +kernel
theorem dL_step_415 : decode cL_step 415 = .ok (.aload_n 1, 1) := by decide +kernel
theorem dL_step_416 : decode cL_step 416 = .ok (.aload_n 2, 1) := by decide +kernel
theorem dL_step_417 : decode cL_step 417 = .ok (.aload_n 3, 1) := by decide +kernel
theorem dL_step_418 : decode cL_step 418 = .ok (.iload 6, 2) := by decide +kernel
theorem dL_step_420 : decode cL_step 420 = .ok (.iconst 4, 1) := by decide +kernel
theorem dL_step_421 : decode cL_step 421 = .ok (.irem, 1) := by decide +kernel
theorem dL_step_422 : decode cL_step 422 = .ok (.ifCond .ne 16, 3) := by decide +kernel
theorem dL_step_425 : decode cL_step 425 = .ok (.bipush 10, 2) := by decide +kernel
theorem dL_step_427 : decode cL_step 427 = .ok (.iload 6, 2) := by decide +kernel
theorem dL_step_429 : decode cL_step 429 = .ok (.iconst 4, 1) := by decide +kernel
theorem dL_step_430 : decode cL_step 430 = .ok (.idiv, 1) := by decide +kernel
theorem dL_step_431 : decode cL_step 431 = .ok (.bipush 21, 2) := by decide +kernel
theorem dL_step_433 : decode cL_step 433 = .ok (.irem, 1) := by decide +kernel
theorem dL_step_434 : decode cL_step 434 = .ok (.iadd, 1) := by decide +kernel
theorem dL_step_435 : decode cL_step 435 = .ok (.goto 13, 3) := by decide +kernel
theorem dL_step_438 : decode cL_step 438 = .ok (.iload 6, 2) := by decide +kernel
theorem dL_step_440 : decode cL_step 440 = .ok (.iconst 4, 1) := by decide +kernel
theorem dL_step_441 : decode cL_step 441 = .ok (.idiv, 1) := by decide +kernel
theorem dL_step_442 : decode cL_step 442 = .ok (.bipush 51, 2) := by decide +kernel
theorem dL_step_444 : decode cL_step 444 = .ok (.irem, 1) := by decide +kernel
theorem dL_step_445 : decode cL_step 445 = .ok (.bipush 20, 2) := by decide +kernel
theorem dL_step_447 : decode cL_step 447 = .ok (.isub, 1) := by decide +kernel
theorem dL_step_448 : decode cL_step 448 = .ok (.invokestatic 44, 3) := by decide +kernel
theorem dL_step_451 : decode cL_step 451 = .ok (.ireturn, 1) := by decide +kernel
set_option maxRecDepth 20000 in
theorem ggL_hasHeat_X4_isOpen : GoodIn wsL_hasHeat wsX4_isOpen := goodIn_ca (goodIn_r _ [5, 6, 7, 8, 9, 10, 4, 11, 12, 13, 14, 15, 16, 17, 18, 19, 20, 21, 22, 23, 24, 25, 26, 27] (by decide +kernel) (by decide +kernel)) (goodIn_sub (fun _ h => List.mem_cons_of_mem _ (List.mem_append_right _ h)) (by decide +kernel))
set_option maxRecDepth 20000 in
theorem gL_hasHeat_X4_isOpen : GoodIn wsL_hasHeat (wsV RL 34 RX4 yX4_isOpen wsX4_isOpen) := goodIn_app (goodIn_of _ (by decide +kernel)) ggL_hasHeat_X4_isOpen
theorem dL_hasHeat_0 : decode cL_hasHeat 0 = .ok (.iconst 1, 1) := by decide +kernel
theorem dL_hasHeat_1 : decode cL_hasHeat 1 = .ok (.istore_n 3, 1) := by decide +kernel
theorem dL_hasHeat_2 : decode cL_hasHeat 2 = .ok (.iload_n 2, 1) := by decide +kernel
theorem dL_hasHeat_3 : decode cL_hasHeat 3 = .ok (.istore 4, 2) := by decide +kernel
theorem dL_hasHeat_5 : decode cL_hasHeat 5 = .ok (.iload 4, 2) := by decide +kernel
theorem dL_hasHeat_7 : decode cL_hasHeat 7 = .ok (.ifCond .le 31, 3) := by decide +kernel
theorem dL_hasHeat_10 : decode cL_hasHeat 10 = .ok (.iload_n 3, 1) := by decide +kernel
theorem dL_hasHeat_11 : decode cL_hasHeat 11 = .ok (.ifCond .eq 16, 3) := by decide +kernel
theorem dL_hasHeat_14 : decode cL_hasHeat 14 = .ok (.aload_n 0, 1) := by decide +kernel
theorem dL_hasHeat_15 : decode cL_hasHeat 15 = .ok (.iload 4, 2) := by decide +kernel
theorem dL_hasHeat_17 : decode cL_hasHeat 17 = .ok (.invokevirtual 34, 3) := by decide +kernel
theorem dL_hasHeat_20 : decode cL_hasHeat 20 = .ok (.ifCond .eq 7, 3) := by decide +kernel
theorem dL_hasHeat_23 : decode cL_hasHeat 23 = .ok (.iconst 1, 1) := by decide +kernel
theorem dL_hasHeat_24 : decode cL_hasHeat 24 = .ok (.goto 4, 3) := by decide +kernel
theorem dL_hasHeat_27 : decode cL_hasHeat 27 = .ok (.iconst 0, 1) := by decide +kernel
theorem dL_hasHeat_28 : decode cL_hasHeat 28 = .ok (.istore_n 3, 1) := by decide +kernel
theorem dL_hasHeat_29 : decode cL_hasHeat 29 = .ok (.aload_n 1, 1) := by decide +kernel
theorem dL_hasHeat_30 : decode cL_hasHeat 30 = .ok (.iload 4, 2) := by decide +kernel
theorem dL_hasHeat_32 : decode cL_hasHeat 32 = .ok (.iaload, 1) := by decide +kernel
theorem dL_hasHeat_33 : decode cL_hasHeat 33 = .ok (.istore 4, 2) := by decide +kernel
theorem dL_hasHeat_35 : decode cL_hasHeat 35 = .ok (.goto (-30), 3) := by decide +kernel
theorem dL_hasHeat_38 : decode cL_hasHeat 38 = .ok (.iload_n 3, 1) := by decide +kernel
theorem dL_hasHeat_39 : decode cL_hasHeat 39 = .ok (.ireturn, 1) := by decide +kernel
set_option maxRecDepth 20000 in
theorem ggL_demand_L_hasHeat : GoodIn wsL_demand wsL_hasHeat := goodIn_ca (goodIn_r _ [4, 5, 6, 7, 8, 9, 10, 11, 12, 13, 14, 15, 16, 17, 18, 19, 20, 21, 22, 23, 24, 25, 26, 27, 28, 29, 30, 31] (by decide +kernel) (by decide +kernel)) (goodIn_sub (fun _ h => List.mem_cons_of_mem _ (List.mem_append_right _ h)) (by decide +kernel))
set_option maxRecDepth 20000 in
theorem gL_demand_L_hasHeat : GoodIn wsL_demand (va_wsS RL 47 yL_hasHeat wsL_hasHeat) := goodIn_app (goodIn_of _ (by decide +kernel)) ggL_demand_L_hasHeat
theorem dL_demand_0 : decode cL_demand 0 = .ok (.iload_n 3, 1) := by decide +kernel
theorem dL_demand_1 : decode cL_demand 1 = .ok (.bipush 18, 2) := by decide +kernel
theorem dL_demand_3 : decode cL_demand 3 = .ok (.if_icmp .ge 17, 3) := by decide +kernel
theorem dL_demand_6 : decode cL_demand 6 = .ok (.aload_n 1, 1) := by decide +kernel
theorem dL_demand_7 : decode cL_demand 7 = .ok (.bipush 24, 2) := by decide +kernel
theorem dL_demand_9 : decode cL_demand 9 = .ok (.iload_n 2, 1) := by decide +kernel
theorem dL_demand_10 : decode cL_demand 10 = .ok (.iadd, 1) := by decide +kernel
theorem dL_demand_11 : decode cL_demand 11 = .ok (.iaload, 1) := by decide +kernel
theorem dL_demand_12 : decode cL_demand 12 = .ok (.bipush 18, 2) := by decide +kernel
theorem dL_demand_14 : decode cL_demand 14 = .ok (.iload_n 3, 1) := by decide +kernel
theorem dL_demand_15 : decode cL_demand 15 = .ok (.isub, 1) := by decide +kernel
theorem dL_demand_16 : decode cL_demand 16 = .ok (.imul, 1) := by decide +kernel
theorem dL_demand_17 : decode cL_demand 17 = .ok (.goto 4, 3) := by decide +kernel
theorem dL_demand_20 : decode cL_demand 20 = .ok (.iconst 0, 1) := by decide +kernel
theorem dL_demand_21 : decode cL_demand 21 = .ok (.istore 4, 2) := by decide +kernel
theorem dL_demand_23 : decode cL_demand 23 = .ok (.aload_n 0, 1) := by decide +kernel
theorem dL_demand_24 : decode cL_demand 24 = .ok (.aload_n 1, 1) := by decide +kernel
theorem dL_demand_25 : decode cL_demand 25 = .ok (.iload_n 2, 1) := by decide +kernel
theorem dL_demand_26 : decode cL_demand 26 = .ok (.invokestatic 47, 3) := by decide +kernel
theorem dL_demand_29 : decode cL_demand 29 = .ok (.ifCond .eq 25, 3) := by decide +kernel
theorem dL_demand_32 : decode cL_demand 32 = .ok (.iload 4, 2) := by decide +kernel
theorem dL_demand_34 : decode cL_demand 34 = .ok (.bipush 10, 2) := by decide +kernel
theorem dL_demand_36 : decode cL_demand 36 = .ok (.idiv, 1) := by decide +kernel
theorem dL_demand_37 : decode cL_demand 37 = .ok (.iload 4, 2) := by decide +kernel
theorem dL_demand_39 : decode cL_demand 39 = .ok (.bipush 10, 2) := by decide +kernel
theorem dL_demand_41 : decode cL_demand 41 = .ok (.irem, 1) := by decide +kernel
theorem dL_demand_42 : decode cL_demand 42 = .ok (.ifCond .le 7, 3) := by decide +kernel
theorem dL_demand_45 : decode cL_demand 45 = .ok (.iconst 1, 1) := by decide +kernel
theorem dL_demand_46 : decode cL_demand 46 = .ok (.goto 4, 3) := by decide +kernel
theorem dL_demand_49 : decode cL_demand 49 = .ok (.iconst 0, 1) := by decide +kernel
theorem dL_demand_50 : decode cL_demand 50 = .ok (.iadd, 1) := by decide +kernel
theorem dL_demand_51 : decode cL_demand 51 = .ok (.goto 4, 3) := by decide +kernel
theorem dL_demand_54 : decode cL_demand 54 = .ok (.iconst 0, 1) := by decide +kernel
theorem dL_demand_55 : decode cL_demand 55 = .ok (.ireturn, 1) := by decide +kernel
set_option maxRecDepth 20000 in
theorem ggL_repairs_X4_repair : GoodIn wsL_repairs wsX4_repair := goodIn_ca (goodIn_ca (goodIn_r _ [5, 6, 7, 8, 9, 10, 11, 12, 13, 14, 4, 15, 16, 17, 18, 19, 20, 21, 22, 23, 24, 25, 26, 27, 28, 29, 30, 39, 40, 41, 42, 43, 44, 45, 46, 47, 48, 49, 50, 51, 52, 53, 54] (by decide +kernel) (by decide +kernel)) (goodIn_sub (fun _ h => List.mem_cons_of_mem _ (List.mem_append_left _ (List.mem_append_right _ h))) (by decide +kernel))) (goodIn_sub (fun _ h => List.mem_cons_of_mem _ (List.mem_append_right _ h)) (by decide +kernel))
set_option maxRecDepth 20000 in
theorem gL_repairs_X4_repair : GoodIn wsL_repairs (wsV RL 51 RX4 yX4_repair wsX4_repair) := goodIn_app (goodIn_of _ (by decide +kernel)) ggL_repairs_X4_repair
set_option maxRecDepth 20000 in
theorem ggL_repairs_L_hasHeat : GoodIn wsL_repairs wsL_hasHeat := goodIn_ca (goodIn_r _ [34, 35, 36, 37, 4, 38, 6, 7, 10, 13, 14, 15, 39, 40, 41, 42, 43, 44, 45, 46, 47, 48, 49, 50, 51, 52, 53, 54] (by decide +kernel) (by decide +kernel)) (goodIn_sub (fun _ h => List.mem_cons_of_mem _ (List.mem_append_left _ (List.mem_append_right _ h))) (by decide +kernel))
set_option maxRecDepth 20000 in
theorem gL_repairs_L_hasHeat : GoodIn wsL_repairs (va_wsS RL 47 yL_hasHeat wsL_hasHeat) := goodIn_app (goodIn_of _ (by decide +kernel)) ggL_repairs_L_hasHeat
set_option maxRecDepth 20000 in
theorem ggL_repairs_X4_isOpen : GoodIn wsL_repairs wsX4_isOpen := goodIn_ca (goodIn_r _ [38, 6, 7, 10, 13, 14, 4, 15, 39, 40, 41, 42, 43, 44, 45, 46, 47, 48, 49, 50, 51, 52, 53, 54] (by decide +kernel) (by decide +kernel)) (goodIn_sub (fun _ h => List.mem_cons_of_mem _ (List.mem_append_left _ (List.mem_append_right _ h))) (by decide +kernel))
set_option maxRecDepth 20000 in
theorem gL_repairs_X4_isOpen : GoodIn wsL_repairs (wsV RL 34 RX4 yX4_isOpen wsX4_isOpen) := goodIn_app (goodIn_of _ (by decide +kernel)) ggL_repairs_X4_isOpen
theorem dL_repairs_0 : decode cL_repairs 0 = .ok (.aload_n 0, 1) := by decide +kernel
theorem dL_repairs_1 : decode cL_repairs 1 = .ok (.iload_n 2, 1) := by decide +kernel
theorem dL_repairs_2 : decode cL_repairs 2 = .ok (.iload_n 3, 1) := by decide +kernel
theorem dL_repairs_3 : decode cL_repairs 3 = .ok (.invokevirtual 51, 3) := by decide +kernel
theorem dL_repairs_6 : decode cL_repairs 6 = .ok (.istore 4, 2) := by decide +kernel
theorem dL_repairs_8 : decode cL_repairs 8 = .ok (.iconst 0, 1) := by decide +kernel
theorem dL_repairs_9 : decode cL_repairs 9 = .ok (.istore 5, 2) := by decide +kernel
theorem dL_repairs_11 : decode cL_repairs 11 = .ok (.iconst 1, 1) := by decide +kernel
theorem dL_repairs_12 : decode cL_repairs 12 = .ok (.istore 6, 2) := by decide +kernel
theorem dL_repairs_14 : decode cL_repairs 14 = .ok (.iload 6, 2) := by decide +kernel
theorem dL_repairs_16 : decode cL_repairs 16 = .ok (.bipush 12, 2) := by decide +kernel
theorem dL_repairs_18 : decode cL_repairs 18 = .ok (.if_icmp .ge 39, 3) := by decide +kernel
theorem dL_repairs_21 : decode cL_repairs 21 = .ok (.iload 5, 2) := by decide +kernel
theorem dL_repairs_23 : decode cL_repairs 23 = .ok (.aload_n 1, 1) := by decide +kernel
theorem dL_repairs_24 : decode cL_repairs 24 = .ok (.bipush 24, 2) := by decide +kernel
theorem dL_repairs_26 : decode cL_repairs 26 = .ok (.iload 6, 2) := by decide +kernel
theorem dL_repairs_28 : decode cL_repairs 28 = .ok (.iadd, 1) := by decide +kernel
theorem dL_repairs_29 : decode cL_repairs 29 = .ok (.iaload, 1) := by decide +kernel
theorem dL_repairs_30 : decode cL_repairs 30 = .ok (.ifCond .le 17, 3) := by decide +kernel
theorem dL_repairs_33 : decode cL_repairs 33 = .ok (.aload_n 0, 1) := by decide +kernel
theorem dL_repairs_34 : decode cL_repairs 34 = .ok (.aload_n 1, 1) := by decide +kernel
theorem dL_repairs_35 : decode cL_repairs 35 = .ok (.iload 6, 2) := by decide +kernel
theorem dL_repairs_37 : decode cL_repairs 37 = .ok (.invokestatic 47, 3) := by decide +kernel
theorem dL_repairs_40 : decode cL_repairs 40 = .ok (.ifCond .ne 7, 3) := by decide +kernel
theorem dL_repairs_43 : decode cL_repairs 43 = .ok (.iconst 1, 1) := by decide +kernel
theorem dL_repairs_44 : decode cL_repairs 44 = .ok (.goto 4, 3) := by decide +kernel
theorem dL_repairs_47 : decode cL_repairs 47 = .ok (.iconst 0, 1) := by decide +kernel
theorem dL_repairs_48 : decode cL_repairs 48 = .ok (.iadd, 1) := by decide +kernel
theorem dL_repairs_49 : decode cL_repairs 49 = .ok (.istore 5, 2) := by decide +kernel
theorem dL_repairs_51 : decode cL_repairs 51 = .ok (.iinc 6 1, 3) := by decide +kernel
theorem dL_repairs_54 : decode cL_repairs 54 = .ok (.goto (-40), 3) := by decide +kernel
theorem dL_repairs_57 : decode cL_repairs 57 = .ok (.iload 4, 2) := by decide +kernel
theorem dL_repairs_59 : decode cL_repairs 59 = .ok (.iload 5, 2) := by decide +kernel
theorem dL_repairs_61 : decode cL_repairs 61 = .ok (.if_icmp .ne 15, 3) := by decide +kernel
theorem dL_repairs_64 : decode cL_repairs 64 = .ok (.aload_n 0, 1) := by decide +kernel
theorem dL_repairs_65 : decode cL_repairs 65 = .ok (.iload_n 2, 1) := by decide +kernel
theorem dL_repairs_66 : decode cL_repairs 66 = .ok (.invokevirtual 34, 3) := by decide +kernel
theorem dL_repairs_69 : decode cL_repairs 69 = .ok (.ifCond .ne 7, 3) := by decide +kernel
theorem dL_repairs_72 : decode cL_repairs 72 = .ok (.iconst 1, 1) := by decide +kernel
theorem dL_repairs_73 : decode cL_repairs 73 = .ok (.goto 4, 3) := by decide +kernel
theorem dL_repairs_76 : decode cL_repairs 76 = .ok (.iconst 0, 1) := by decide +kernel
theorem dL_repairs_77 : decode cL_repairs 77 = .ok (.ireturn, 1) := by decide +kernel
theorem dL_isOnWay_0 : decode cL_isOnWay 0 = .ok (.iload_n 2, 1) := by decide +kernel
theorem dL_isOnWay_1 : decode cL_isOnWay 1 = .ok (.istore_n 3, 1) := by decide +kernel
theorem dL_isOnWay_2 : decode cL_isOnWay 2 = .ok (.iload_n 3, 1) := by decide +kernel
theorem dL_isOnWay_3 : decode cL_isOnWay 3 = .ok (.iload_n 1, 1) := by decide +kernel
theorem dL_isOnWay_4 : decode cL_isOnWay 4 = .ok (.if_icmp .le 10, 3) := by decide +kernel
theorem dL_isOnWay_7 : decode cL_isOnWay 7 = .ok (.aload_n 0, 1) := by decide +kernel
theorem dL_isOnWay_8 : decode cL_isOnWay 8 = .ok (.iload_n 3, 1) := by decide +kernel
theorem dL_isOnWay_9 : decode cL_isOnWay 9 = .ok (.iaload, 1) := by decide +kernel
theorem dL_isOnWay_10 : decode cL_isOnWay 10 = .ok (.istore_n 3, 1) := by decide +kernel
theorem dL_isOnWay_11 : decode cL_isOnWay 11 = .ok (.goto (-9), 3) := by decide +kernel
theorem dL_isOnWay_14 : decode cL_isOnWay 14 = .ok (.iload_n 3, 1) := by decide +kernel
theorem dL_isOnWay_15 : decode cL_isOnWay 15 = .ok (.iload_n 1, 1) := by decide +kernel
theorem dL_isOnWay_16 : decode cL_isOnWay 16 = .ok (.if_icmp .ne 7, 3) := by decide +kernel
theorem dL_isOnWay_19 : decode cL_isOnWay 19 = .ok (.iconst 1, 1) := by decide +kernel
theorem dL_isOnWay_20 : decode cL_isOnWay 20 = .ok (.goto 4, 3) := by decide +kernel
theorem dL_isOnWay_23 : decode cL_isOnWay 23 = .ok (.iconst 0, 1) := by decide +kernel
theorem dL_isOnWay_24 : decode cL_isOnWay 24 = .ok (.ireturn, 1) := by decide +kernel
set_option maxRecDepth 20000 in
theorem ggL_hours_L_demand : GoodIn wsL_hours wsL_demand := goodIn_ca (goodIn_r _ [5, 6, 7, 4, 8, 9, 10, 11, 12, 13, 14, 15, 16, 17, 18, 19, 150, 151, 152, 153, 154, 155, 156, 157, 158, 159, 160, 161, 162, 163, 164, 165] (by decide +kernel) (by decide +kernel)) (goodIn_sub (fun _ h => List.mem_cons_of_mem _ (List.mem_append_left _ (List.mem_append_right _ h))) (by decide +kernel))
set_option maxRecDepth 20000 in
theorem gL_hours_L_demand : GoodIn wsL_hours (va_wsS RL 54 yL_demand wsL_demand) := goodIn_app (goodIn_of _ (by decide +kernel)) ggL_hours_L_demand
set_option maxRecDepth 20000 in
theorem ggL_hours_L_hasHeat : GoodIn wsL_hours wsL_hasHeat := goodIn_ca (goodIn_r _ [8, 9, 10, 11, 12, 13, 14, 15, 16, 17, 18, 19, 150, 151, 152, 153, 154, 155, 156, 157, 158, 159, 160, 161, 162, 163, 164, 165] (by decide +kernel) (by decide +kernel)) (goodIn_sub (fun _ h => List.mem_cons_of_mem _ (List.mem_append_left _ (List.mem_append_right _ h))) (by decide +kernel))
set_option maxRecDepth 20000 in
theorem gL_hours_L_hasHeat : GoodIn wsL_hours (va_wsS RL 47 yL_hasHeat wsL_hasHeat) := goodIn_app (goodIn_of _ (by decide +kernel)) ggL_hours_L_hasHeat
set_option maxRecDepth 20000 in
theorem ggL_hours_X4_load : GoodIn wsL_hours wsX4_load := goodIn_ca (goodIn_r _ [23, 16, 24, 25, 12, 26, 14, 15, 27, 28, 29, 30, 31, 32, 33, 34, 35, 36, 37, 38, 39, 40, 41, 42, 43, 18, 19, 44, 45, 46, 47, 48, 49, 50, 51, 52, 53, 54, 55, 150, 151, 152, 153, 154, 155, 156, 157, 158, 159, 160, 161, 162, 163, 164, 165] (by decide +kernel) (by decide +kernel)) (goodIn_sub (fun _ h => List.mem_cons_of_mem _ (List.mem_append_left _ (List.mem_append_right _ h))) (by decide +kernel))
set_option maxRecDepth 20000 in
theorem gL_hours_X4_load : GoodIn wsL_hours (wsV RL 58 RX4 yX4_load wsX4_load) := goodIn_app (goodIn_of _ (by decide +kernel)) ggL_hours_X4_load
set_option maxRecDepth 20000 in
theorem ggL_hours_X4_hour : GoodIn wsL_hours wsX4_hour := goodIn_ca (goodIn_r _ [59, 16, 60, 61, 62, 63, 64, 24, 25, 12, 26, 14, 15, 27, 28, 29, 30, 31, 32, 33, 34, 35, 36, 37, 38, 39, 40, 41, 42, 43, 18, 19, 44, 45, 46, 47, 48, 49, 50, 51, 52, 53, 54, 55, 65, 66, 67, 68, 69, 70, 71, 72, 73, 74, 75, 76, 77, 78, 79, 80, 81, 82, 83, 84, 85, 86, 87, 88, 89, 90, 91, 92, 93, 94, 95, 96, 97, 98, 99, 100, 101, 102, 103, 104, 105, 106, 107, 108, 109, 110, 111, 150, 151, 152, 153, 154, 155, 156, 166, 167, 168, 169, 157, 158, 159, 160, 161, 162, 163, 164, 165, 170, 171, 172, 173, 174, 175, 176, 177, 178, 179, 180] (by decide +kernel) (by decide +kernel)) (goodIn_sub (fun _ h => List.mem_cons_of_mem _ (List.mem_append_left _ (List.mem_append_right _ h))) (by decide +kernel))
set_option maxRecDepth 20000 in
theorem gL_hours_X4_hour : GoodIn wsL_hours (wsV RL 61 RX4 yX4_hour wsX4_hour) := goodIn_app (goodIn_of _ (by decide +kernel)) ggL_hours_X4_hour
set_option maxRecDepth 20000 in
theorem ggL_hours_X4_losses : GoodIn wsL_hours wsX4_losses := goodIn_r _ [115, 62, 150, 151, 152, 153, 154, 155, 156] (by decide +kernel) (by decide +kernel)
set_option maxRecDepth 20000 in
theorem gL_hours_X4_losses : GoodIn wsL_hours (wsV RL 64 RX4 yX4_losses wsX4_losses) := goodIn_app (goodIn_of _ (by decide +kernel)) ggL_hours_X4_losses
set_option maxRecDepth 20000 in
theorem ggL_hours_L_areMetered : GoodIn wsL_hours wsL_areMetered := goodIn_ca (goodIn_r _ [118, 119, 120, 4, 121, 122, 123, 124, 12, 125, 14, 15, 16, 17, 18, 19, 126, 127, 128, 129, 61, 130, 131, 132, 133, 150, 151, 152, 153, 154, 155, 156, 157, 158, 159, 160, 161, 162, 163, 164, 165, 176, 177, 178, 179, 180] (by decide +kernel) (by decide +kernel)) (goodIn_sub (fun _ h => List.mem_cons_of_mem _ (List.mem_append_left _ (List.mem_append_right _ h))) (by decide +kernel))
set_option maxRecDepth 20000 in
theorem gL_hours_L_areMetered : GoodIn wsL_hours (va_wsS RL 67 yL_areMetered wsL_areMetered) := goodIn_app (goodIn_of _ (by decide +kernel)) ggL_hours_L_areMetered
set_option maxRecDepth 20000 in
theorem ggL_hours_L_areFired : GoodIn wsL_hours wsL_areFired := goodIn_ca (goodIn_r _ [136, 137, 138, 139, 12, 140, 141, 142, 60, 143, 77, 144, 145, 80, 146, 147, 148, 149, 150, 151, 152, 153, 154, 155, 156, 170, 171, 172, 173, 174, 175, 166, 167, 168, 169] (by decide +kernel) (by decide +kernel)) (goodIn_sub (fun _ h => List.mem_cons_of_mem _ (List.mem_append_right _ h)) (by decide +kernel))
set_option maxRecDepth 20000 in
theorem gL_hours_L_areFired : GoodIn wsL_hours (va_wsS RL 71 yL_areFired wsL_areFired) := goodIn_app (goodIn_of _ (by decide +kernel)) ggL_hours_L_areFired
