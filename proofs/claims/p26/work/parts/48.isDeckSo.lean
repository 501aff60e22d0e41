set_option maxRecDepth 20000 in
theorem ggL_isDeckSo_L_shuffled : GoodIn wsL_isDeckSo wsL_shuffled := goodIn_ca (goodIn_ca (goodIn_r _ [9, 10, 11, 4, 5, 12, 13, 14, 15, 16, 17, 18, 19, 20, 21, 22, 23, 24, 25, 26, 27, 28, 29, 30, 31, 32, 33, 34, 35, 36, 37, 38, 39, 40, 41, 42, 43, 44, 45, 46, 47, 48, 139, 140, 141, 142, 143, 144, 145, 146, 147, 148, 149, 150, 151, 152] (by decide +kernel) (by decide +kernel)) (goodIn_sub (fun _ h => List.mem_cons_of_mem _ (List.mem_append_left _ (List.mem_append_left _ (List.mem_append_right _ h)))) (by decide +kernel))) (goodIn_sub (fun _ h => List.mem_cons_of_mem _ (List.mem_append_left _ (List.mem_append_right _ h))) (by decide +kernel))
set_option maxRecDepth 20000 in
theorem gL_isDeckSo_L_shuffled : GoodIn wsL_isDeckSo (va_wsS RL 108 yL_shuffled wsL_shuffled) := goodIn_app (goodIn_of _ (by decide +kernel)) ggL_isDeckSo_L_shuffled
set_option maxRecDepth 20000 in
theorem ggL_isDeckSo_L_printOf : GoodIn wsL_isDeckSo wsL_printOf := goodIn_ca (goodIn_r _ [51, 10, 4, 52, 53, 54, 15, 55, 56, 57, 58, 59, 60, 61, 62, 24, 25, 63, 139, 140, 141, 142, 143, 144, 145, 153, 154, 155, 156] (by decide +kernel) (by decide +kernel)) (goodIn_sub (fun _ h => List.mem_cons_of_mem _ (List.mem_append_left _ (List.mem_append_left _ (List.mem_append_right _ h)))) (by decide +kernel))
set_option maxRecDepth 20000 in
theorem gL_isDeckSo_L_printOf : GoodIn wsL_isDeckSo (va_wsS RL 90 yL_printOf wsL_printOf) := goodIn_app (goodIn_of _ (by decide +kernel)) ggL_isDeckSo_L_printOf
set_option maxRecDepth 20000 in
theorem ggL_isDeckSo_L_collectorOf : GoodIn wsL_isDeckSo wsL_collectorOf := goodIn_ca (goodIn_r _ [66, 10, 4, 67, 68, 69, 15, 70, 56, 71, 59, 60, 61, 62, 24, 25, 63, 139, 140, 141, 142, 143, 144, 145, 153, 154, 155, 156] (by decide +kernel) (by decide +kernel)) (goodIn_sub (fun _ h => List.mem_cons_of_mem _ (List.mem_append_left _ (List.mem_append_left _ (List.mem_append_right _ h)))) (by decide +kernel))
set_option maxRecDepth 20000 in
theorem gL_isDeckSo_L_collectorOf : GoodIn wsL_isDeckSo (va_wsS RL 95 yL_collectorOf wsL_collectorOf) := goodIn_app (goodIn_of _ (by decide +kernel)) ggL_isDeckSo_L_collectorOf
set_option maxRecDepth 20000 in
theorem ggL_isDeckSo_L_low : GoodIn wsL_isDeckSo wsL_low := goodIn_r _ [74, 1] (by decide +kernel) (by decide +kernel)
set_option maxRecDepth 20000 in
theorem gL_isDeckSo_L_low : GoodIn wsL_isDeckSo (va_wsS RL 111 yL_low wsL_low) := goodIn_app (goodIn_of _ (by decide +kernel)) ggL_isDeckSo_L_low
set_option maxRecDepth 20000 in
theorem ggL_isDeckSo_L_isAllowed : GoodIn wsL_isDeckSo wsL_isAllowed := goodIn_ca (goodIn_r _ [77, 10, 4, 78, 79, 80, 15, 81, 18, 82, 56, 20, 21, 22, 23, 24, 25, 26, 83, 84, 85, 86, 87, 88, 89, 90, 91, 92, 93, 94, 95, 96, 97, 98, 99, 100, 101, 102, 103, 104, 105, 106, 107, 108, 109, 110, 139, 140, 141, 142, 143, 144, 145, 147, 148, 149, 150, 151, 152, 153, 154, 155, 156, 157, 158, 159, 160, 161] (by decide +kernel) (by decide +kernel)) (goodIn_sub (fun _ h => List.mem_cons_of_mem _ (List.mem_append_left _ (List.mem_append_left _ (List.mem_append_right _ h)))) (by decide +kernel))
set_option maxRecDepth 20000 in
theorem gL_isDeckSo_L_isAllowed : GoodIn wsL_isDeckSo (va_wsS RL 114 yL_isAllowed wsL_isAllowed) := goodIn_app (goodIn_of _ (by decide +kernel)) ggL_isDeckSo_L_isAllowed
set_option maxRecDepth 20000 in
theorem ggL_isDeckSo_L_orders : GoodIn wsL_isDeckSo wsL_orders := goodIn_ca (goodIn_ca (goodIn_r _ [113, 10, 11, 4, 5, 114, 115, 116, 15, 117, 18, 31, 56, 20, 21, 22, 23, 24, 25, 26, 118, 119, 120, 121, 122, 123, 35, 36, 124, 97, 98, 86, 99, 100, 101, 102, 103, 88, 91, 90, 104, 105, 106, 107, 108, 109, 110, 139, 140, 141, 142, 143, 144, 145, 147, 148, 149, 150, 151, 152, 153, 154, 155, 156] (by decide +kernel) (by decide +kernel)) (goodIn_sub (fun _ h => List.mem_cons_of_mem _ (List.mem_append_left _ (List.mem_append_left _ (List.mem_append_right _ h)))) (by decide +kernel))) (goodIn_sub (fun _ h => List.mem_cons_of_mem _ (List.mem_append_left _ (List.mem_append_right _ h))) (by decide +kernel))
set_option maxRecDepth 20000 in
theorem gL_isDeckSo_L_orders : GoodIn wsL_isDeckSo (va_wsS RL 116 yL_orders wsL_orders) := goodIn_app (goodIn_of _ (by decide +kernel)) ggL_isDeckSo_L_orders
set_option maxRecDepth 20000 in
theorem ggL_isDeckSo_L_ordersByAll : GoodIn wsL_isDeckSo wsL_ordersByAll := goodIn_ca (goodIn_ca (goodIn_ca (goodIn_r _ [127, 10, 11, 128, 4, 5, 3, 129, 130, 131, 15, 132, 133, 134, 18, 31, 56, 20, 21, 22, 23, 24, 25, 26, 118, 119, 120, 121, 122, 123, 35, 36, 135, 101, 102, 86, 103, 88, 91, 90, 136, 137, 138, 139, 140, 141, 142, 143, 144, 145, 147, 148, 149, 150, 151, 152, 153, 154, 155, 156] (by decide +kernel) (by decide +kernel)) (goodIn_sub (fun _ h => List.mem_cons_of_mem _ (List.mem_append_right _ h)) (by decide +kernel))) (goodIn_sub (fun _ h => List.mem_cons_of_mem _ (List.mem_append_left _ (List.mem_append_left _ (List.mem_append_right _ h)))) (by decide +kernel))) (goodIn_sub (fun _ h => List.mem_cons_of_mem _ (List.mem_append_left _ (List.mem_append_right _ h))) (by decide +kernel))
set_option maxRecDepth 20000 in
theorem gL_isDeckSo_L_ordersByAll : GoodIn wsL_isDeckSo (va_wsS RL 118 yL_ordersByAll wsL_ordersByAll) := goodIn_app (goodIn_of _ (by decide +kernel)) ggL_isDeckSo_L_ordersByAll
theorem dL_isDeckSo_0 : decode cL_isDeckSo 0 = .ok (.aload_n 2, 1) := by decide +kernel
theorem dL_isDeckSo_1 : decode cL_isDeckSo 1 = .ok (.iconst 2, 1) := by decide +kernel
theorem dL_isDeckSo_2 : decode cL_isDeckSo 2 = .ok (.iload 4, 2) := by decide +kernel
theorem dL_isDeckSo_4 : decode cL_isDeckSo 4 = .ok (.imul, 1) := by decide +kernel
theorem dL_isDeckSo_5 : decode cL_isDeckSo 5 = .ok (.iconst 1, 1) := by decide +kernel
theorem dL_isDeckSo_6 : decode cL_isDeckSo 6 = .ok (.iadd, 1) := by decide +kernel
theorem dL_isDeckSo_7 : decode cL_isDeckSo 7 = .ok (.iaload, 1) := by decide +kernel
theorem dL_isDeckSo_8 : decode cL_isDeckSo 8 = .ok (.istore 6, 2) := by decide +kernel
theorem dL_isDeckSo_10 : decode cL_isDeckSo 10 = .ok (.iload 5, 2) := by decide +kernel
theorem dL_isDeckSo_12 : decode cL_isDeckSo 12 = .ok (.ldc 9, 2) := by decide +kernel
theorem dL_isDeckSo_14 : decode cL_isDeckSo 14 = .ok (.iand, 1) := by decide +kernel
theorem dL_isDeckSo_15 : decode cL_isDeckSo 15 = .ok (.istore 7, 2) := by decide +kernel
theorem dL_isDeckSo_17 : decode cL_isDeckSo 17 = .ok (.lconst 0, 1) := by decide +kernel
theorem dL_isDeckSo_18 : decode cL_isDeckSo 18 = .ok (.lstore 8, 2) := by decide +kernel
theorem dL_isDeckSo_20 : decode cL_isDeckSo 20 = .ok (.lconst 0, 1) := by decide +kernel
theorem dL_isDeckSo_21 : decode cL_isDeckSo 21 = .ok (.lstore 10, 2) := by decide +kernel
theorem dL_isDeckSo_23 : decode cL_isDeckSo 23 = .ok (.bipush 16, 2) := by decide +kernel
theorem dL_isDeckSo_25 : decode cL_isDeckSo 25 = .ok (.newarray .int, 2) := by decide +kernel
theorem dL_isDeckSo_27 : decode cL_isDeckSo 27 = .ok (.astore 12, 2) := by decide +kernel
theorem dL_isDeckSo_29 : decode cL_isDeckSo 29 = .ok (.iload 6, 2) := by decide +kernel
theorem dL_isDeckSo_31 : decode cL_isDeckSo 31 = .ok (.aload_n 3, 1) := by decide +kernel
theorem dL_isDeckSo_32 : decode cL_isDeckSo 32 = .ok (.iconst 3, 1) := by decide +kernel
theorem dL_isDeckSo_33 : decode cL_isDeckSo 33 = .ok (.iaload, 1) := by decide +kernel
theorem dL_isDeckSo_34 : decode cL_isDeckSo 34 = .ok (.if_icmp .ne 7, 3) := by decide +kernel
theorem dL_isDeckSo_37 : decode cL_isDeckSo 37 = .ok (.iconst 1, 1) := by decide +kernel
theorem dL_isDeckSo_38 : decode cL_isDeckSo 38 = .ok (.goto 4, 3) := by decide +kernel
theorem dL_isDeckSo_41 : decode cL_isDeckSo 41 = .ok (.iconst 0, 1) := by decide +kernel
theorem dL_isDeckSo_42 : decode cL_isDeckSo 42 = .ok (.istore 13, 2) := by decide +kernel
theorem dL_isDeckSo_44 : decode cL_isDeckSo 44 = .ok (.iconst 0, 1) := by decide +kernel
theorem dL_isDeckSo_45 : decode cL_isDeckSo 45 = .ok (.istore 14, 2) := by decide +kernel
theorem dL_isDeckSo_47 : decode cL_isDeckSo 47 = .ok (.iload 14, 2) := by decide +kernel
theorem dL_isDeckSo_49 : decode cL_isDeckSo 49 = .ok (.iload 6, 2) := by decide +kernel
theorem dL_isDeckSo_51 : decode cL_isDeckSo 51 = .ok (.if_icmp .ge 151, 3) := by decide +kernel
theorem dL_isDeckSo_54 : decode cL_isDeckSo 54 = .ok (.aload_n 0, 1) := by decide +kernel
theorem dL_isDeckSo_55 : decode cL_isDeckSo 55 = .ok (.iload 4, 2) := by decide +kernel
theorem dL_isDeckSo_57 : decode cL_isDeckSo 57 = .ok (.iload 7, 2) := by decide +kernel
theorem dL_isDeckSo_59 : decode cL_isDeckSo 59 = .ok (.iload 14, 2) := by decide +kernel
theorem dL_isDeckSo_61 : decode cL_isDeckSo 61 = .ok (.invokestatic 108, 3) := by decide +kernel
theorem dL_isDeckSo_64 : decode cL_isDeckSo 64 = .ok (.istore 15, 2) := by decide +kernel
theorem dL_isDeckSo_66 : decode cL_isDeckSo 66 = .ok (.iload 15, 2) := by decide +kernel
theorem dL_isDeckSo_68 : decode cL_isDeckSo 68 = .ok (.ifCond .lt 11, 3) := by decide +kernel
theorem dL_isDeckSo_71 : decode cL_isDeckSo 71 = .ok (.iload 15, 2) := by decide +kernel
theorem dL_isDeckSo_73 : decode cL_isDeckSo 73 = .ok (.aload_n 3, 1) := by decide +kernel
theorem dL_isDeckSo_74 : decode cL_isDeckSo 74 = .ok (.iconst 0, 1) := by decide +kernel
theorem dL_isDeckSo_75 : decode cL_isDeckSo 75 = .ok (.iaload, 1) := by decide +kernel
theorem dL_isDeckSo_76 : decode cL_isDeckSo 76 = .ok (.if_icmp .lt 5, 3) := by decide +kernel
theorem dL_isDeckSo_79 : decode cL_isDeckSo 79 = .ok (.iconst 0, 1) := by decide +kernel
theorem dL_isDeckSo_80 : decode cL_isDeckSo 80 = .ok (.ireturn, 1) := by decide +kernel
theorem dL_isDeckSo_81 : decode cL_isDeckSo 81 = .ok (.lload 8, 2) := by decide +kernel
theorem dL_isDeckSo_83 : decode cL_isDeckSo 83 = .ok (.iload 15, 2) := by decide +kernel
theorem dL_isDeckSo_85 : decode cL_isDeckSo 85 = .ok (.bipush 60, 2) := by decide +kernel
theorem dL_isDeckSo_87 : decode cL_isDeckSo 87 = .ok (.if_icmp .ge 10, 3) := by decide +kernel
theorem dL_isDeckSo_90 : decode cL_isDeckSo 90 = .ok (.lconst 1, 1) := by decide +kernel
theorem dL_isDeckSo_91 : decode cL_isDeckSo 91 = .ok (.iload 15, 2) := by decide +kernel
theorem dL_isDeckSo_93 : decode cL_isDeckSo 93 = .ok (.lshl, 1) := by decide +kernel
theorem dL_isDeckSo_94 : decode cL_isDeckSo 94 = .ok (.goto 4, 3) := by decide +kernel
theorem dL_isDeckSo_97 : decode cL_isDeckSo 97 = .ok (.lconst 0, 1) := by decide +kernel
theorem dL_isDeckSo_98 : decode cL_isDeckSo 98 = .ok (.lor, 1) := by decide +kernel
theorem dL_isDeckSo_99 : decode cL_isDeckSo 99 = .ok (.lstore 8, 2) := by decide +kernel
theorem dL_isDeckSo_101 : decode cL_isDeckSo 101 = .ok (.lload 10, 2) := by decide +kernel
theorem dL_isDeckSo_103 : decode cL_isDeckSo 103 = .ok (.iload 15, 2) := by decide +kernel
theorem dL_isDeckSo_105 : decode cL_isDeckSo 105 = .ok (.bipush 60, 2) := by decide +kernel
theorem dL_isDeckSo_107 : decode cL_isDeckSo 107 = .ok (.if_icmp .ge 7, 3) := by decide +kernel
theorem dL_isDeckSo_110 : decode cL_isDeckSo 110 = .ok (.lconst 1, 1) := by decide +kernel
theorem dL_isDeckSo_111 : decode cL_isDeckSo 111 = .ok (.goto 4, 3) := by decide +kernel
theorem dL_isDeckSo_114 : decode cL_isDeckSo 114 = .ok (.lconst 0, 1) := by decide +kernel
theorem dL_isDeckSo_115 : decode cL_isDeckSo 115 = .ok (.ladd, 1) := by decide +kernel
theorem dL_isDeckSo_116 : decode cL_isDeckSo 116 = .ok (.lstore 10, 2) := by decide +kernel
theorem dL_isDeckSo_118 : decode cL_isDeckSo 118 = .ok (.aload 12, 2) := by decide +kernel
theorem dL_isDeckSo_120 : decode cL_isDeckSo 120 = .ok (.aload_n 0, 1) := by decide +kernel
theorem dL_isDeckSo_121 : decode cL_isDeckSo 121 = .ok (.iload 15, 2) := by decide +kernel
theorem dL_isDeckSo_123 : decode cL_isDeckSo 123 = .ok (.invokestatic 90, 3) := by decide +kernel
theorem dL_isDeckSo_126 : decode cL_isDeckSo 126 = .ok (.bipush 100, 2) := by decide +kernel
theorem dL_isDeckSo_128 : decode cL_isDeckSo 128 = .ok (.idiv, 1) := by decide +kernel
theorem dL_isDeckSo_129 : decode cL_isDeckSo 129 = .ok (.dup2, 1) := by decide +kernel
theorem dL_isDeckSo_130 : decode cL_isDeckSo 130 = .ok (.iaload, 1) := by decide +kernel
theorem dL_isDeckSo_131 : decode cL_isDeckSo 131 = .ok (.iconst 1, 1) := by decide +kernel
theorem dL_isDeckSo_132 : decode cL_isDeckSo 132 = .ok (.iadd, 1) := by decide +kernel
theorem dL_isDeckSo_133 : decode cL_isDeckSo 133 = .ok (.iastore, 1) := by decide +kernel
theorem dL_isDeckSo_134 : decode cL_isDeckSo 134 = .ok (.iload 13, 2) := by decide +kernel
theorem dL_isDeckSo_136 : decode cL_isDeckSo 136 = .ok (.ifCond .eq 57, 3) := by decide +kernel
theorem dL_isDeckSo_139 : decode cL_isDeckSo 139 = .ok (.aload_n 0, 1) := by decide +kernel
theorem dL_isDeckSo_140 : decode cL_isDeckSo 140 = .ok (.iload 15, 2) := by decide +kernel
theorem dL_isDeckSo_142 : decode cL_isDeckSo 142 = .ok (.invokestatic 95, 3) := by decide +kernel
theorem dL_isDeckSo_145 : decode cL_isDeckSo 145 = .ok (.aload_n 2, 1) := by decide +kernel
theorem dL_isDeckSo_146 : decode cL_isDeckSo 146 = .ok (.iconst 2, 1) := by decide +kernel
theorem dL_isDeckSo_147 : decode cL_isDeckSo 147 = .ok (.iload 4, 2) := by decide +kernel
theorem dL_isDeckSo_149 : decode cL_isDeckSo 149 = .ok (.imul, 1) := by decide +kernel
theorem dL_isDeckSo_150 : decode cL_isDeckSo 150 = .ok (.iaload, 1) := by decide +kernel
theorem dL_isDeckSo_151 : decode cL_isDeckSo 151 = .ok (.if_icmp .ne 42, 3) := by decide +kernel
theorem dL_isDeckSo_154 : decode cL_isDeckSo 154 = .ok (.aload_n 1, 1) := by decide +kernel
theorem dL_isDeckSo_155 : decode cL_isDeckSo 155 = .ok (.bipush 16, 2) := by decide +kernel
theorem dL_isDeckSo_157 : decode cL_isDeckSo 157 = .ok (.aload_n 0, 1) := by decide +kernel
theorem dL_isDeckSo_158 : decode cL_isDeckSo 158 = .ok (.iload 15, 2) := by decide +kernel
theorem dL_isDeckSo_160 : decode cL_isDeckSo 160 = .ok (.invokestatic 90, 3) := by decide +kernel
theorem dL_isDeckSo_163 : decode cL_isDeckSo 163 = .ok (.bipush 100, 2) := by decide +kernel
theorem dL_isDeckSo_165 : decode cL_isDeckSo 165 = .ok (.idiv, 1) := by decide +kernel
theorem dL_isDeckSo_166 : decode cL_isDeckSo 166 = .ok (.iadd, 1) := by decide +kernel
theorem dL_isDeckSo_167 : decode cL_isDeckSo 167 = .ok (.iaload, 1) := by decide +kernel
theorem dL_isDeckSo_168 : decode cL_isDeckSo 168 = .ok (.ifCond .ne 25, 3) := by decide +kernel
theorem dL_isDeckSo_171 : decode cL_isDeckSo 171 = .ok (.aload 12, 2) := by decide +kernel
theorem dL_isDeckSo_173 : decode cL_isDeckSo 173 = .ok (.aload_n 0, 1) := by decide +kernel
theorem dL_isDeckSo_174 : decode cL_isDeckSo 174 = .ok (.iload 15, 2) := by decide +kernel
theorem dL_isDeckSo_176 : decode cL_isDeckSo 176 = .ok (.invokestatic 90, 3) := by decide +kernel
theorem dL_isDeckSo_179 : decode cL_isDeckSo 179 = .ok (.bipush 100, 2) := by decide +kernel
theorem dL_isDeckSo_181 : decode cL_isDeckSo 181 = .ok (.idiv, 1) := by decide +kernel
theorem dL_isDeckSo_182 : decode cL_isDeckSo 182 = .ok (.iaload, 1) := by decide +kernel
theorem dL_isDeckSo_183 : decode cL_isDeckSo 183 = .ok (.aload_n 3, 1) := by decide +kernel
theorem dL_isDeckSo_184 : decode cL_isDeckSo 184 = .ok (.iconst 4, 1) := by decide +kernel
theorem dL_isDeckSo_185 : decode cL_isDeckSo 185 = .ok (.iaload, 1) := by decide +kernel
theorem dL_isDeckSo_186 : decode cL_isDeckSo 186 = .ok (.if_icmp .gt 7, 3) := by decide +kernel
theorem dL_isDeckSo_189 : decode cL_isDeckSo 189 = .ok (.iconst 1, 1) := by decide +kernel
theorem dL_isDeckSo_190 : decode cL_isDeckSo 190 = .ok (.goto 4, 3) := by decide +kernel
theorem dL_isDeckSo_193 : decode cL_isDeckSo 193 = .ok (.iconst 0, 1) := by decide +kernel
theorem dL_isDeckSo_194 : decode cL_isDeckSo 194 = .ok (.istore 13, 2) := by decide +kernel
theorem dL_isDeckSo_196 : decode cL_isDeckSo 196 = .ok (.iinc 14 1, 3) := by decide +kernel
theorem dL_isDeckSo_199 : decode cL_isDeckSo 199 = .ok (.goto (-152), 3) := by decide +kernel
theorem dL_isDeckSo_202 : decode cL_isDeckSo 202 = .ok (.iconst 0, 1) := by decide +kernel
theorem dL_isDeckSo_203 : decode cL_isDeckSo 203 = .ok (.istore 14, 2) := by decide +kernel
theorem dL_isDeckSo_205 : decode cL_isDeckSo 205 = .ok (.iload 14, 2) := by decide +kernel
theorem dL_isDeckSo_207 : decode cL_isDeckSo 207 = .ok (.bipush 60, 2) := by decide +kernel
theorem dL_isDeckSo_209 : decode cL_isDeckSo 209 = .ok (.if_icmp .ge 21, 3) := by decide +kernel
theorem dL_isDeckSo_212 : decode cL_isDeckSo 212 = .ok (.lload 10, 2) := by decide +kernel
theorem dL_isDeckSo_214 : decode cL_isDeckSo 214 = .ok (.lload 8, 2) := by decide +kernel
theorem dL_isDeckSo_216 : decode cL_isDeckSo 216 = .ok (.iload 14, 2) := by decide +kernel
theorem dL_isDeckSo_218 : decode cL_isDeckSo 218 = .ok (.lshr, 1) := by decide +kernel
theorem dL_isDeckSo_219 : decode cL_isDeckSo 219 = .ok (.lconst 1, 1) := by decide +kernel
theorem dL_isDeckSo_220 : decode cL_isDeckSo 220 = .ok (.land, 1) := by decide +kernel
theorem dL_isDeckSo_221 : decode cL_isDeckSo 221 = .ok (.lsub, 1) := by decide +kernel
theorem dL_isDeckSo_222 : decode cL_isDeckSo 222 = .ok (.lstore 10, 2) := by decide +kernel
theorem dL_isDeckSo_224 : decode cL_isDeckSo 224 = .ok (.iinc 14 1, 3) := by decide +kernel
theorem dL_isDeckSo_227 : decode cL_isDeckSo 227 = .ok (.goto (-22), 3) := by decide +kernel
theorem dL_isDeckSo_230 : decode cL_isDeckSo 230 = .ok (.iload 5, 2) := by decide +kernel
theorem dL_isDeckSo_232 : decode cL_isDeckSo 232 = .ok (.bipush 16, 2) := by decide +kernel
theorem dL_isDeckSo_234 : decode cL_isDeckSo 234 = .ok (.invokestatic 111, 3) := by decide +kernel
theorem dL_isDeckSo_237 : decode cL_isDeckSo 237 = .ok (.istore 14, 2) := by decide +kernel
theorem dL_isDeckSo_239 : decode cL_isDeckSo 239 = .ok (.iconst 1, 1) := by decide +kernel
theorem dL_isDeckSo_240 : decode cL_isDeckSo 240 = .ok (.istore 15, 2) := by decide +kernel
theorem dL_isDeckSo_242 : decode cL_isDeckSo 242 = .ok (.iconst 2, 1) := by decide +kernel
theorem dL_isDeckSo_243 : decode cL_isDeckSo 243 = .ok (.istore 16, 2) := by decide +kernel
theorem dL_isDeckSo_245 : decode cL_isDeckSo 245 = .ok (.iload 16, 2) := by decide +kernel
theorem dL_isDeckSo_247 : decode cL_isDeckSo 247 = .ok (.iload 6, 2) := by decide +kernel
theorem dL_isDeckSo_249 : decode cL_isDeckSo 249 = .ok (.if_icmp .gt 16, 3) := by decide +kernel
theorem dL_isDeckSo_252 : decode cL_isDeckSo 252 = .ok (.iload 15, 2) := by decide +kernel
theorem dL_isDeckSo_254 : decode cL_isDeckSo 254 = .ok (.iload 16, 2) := by decide +kernel
theorem dL_isDeckSo_256 : decode cL_isDeckSo 256 = .ok (.imul, 1) := by decide +kernel
theorem dL_isDeckSo_257 : decode cL_isDeckSo 257 = .ok (.istore 15, 2) := by decide +kernel
theorem dL_isDeckSo_259 : decode cL_isDeckSo 259 = .ok (.iinc 16 1, 3) := by decide +kernel
theorem dL_isDeckSo_262 : decode cL_isDeckSo 262 = .ok (.goto (-17), 3) := by decide +kernel
theorem dL_isDeckSo_265 : decode cL_isDeckSo 265 = .ok (.iconst 0, 1) := by decide +kernel
theorem dL_isDeckSo_266 : decode cL_isDeckSo 266 = .ok (.istore 16, 2) := by decide +kernel
theorem dL_isDeckSo_268 : decode cL_isDeckSo 268 = .ok (.lload 10, 2) := by decide +kernel
theorem dL_isDeckSo_270 : decode cL_isDeckSo 270 = .ok (.lconst 0, 1) := by decide +kernel
theorem dL_isDeckSo_271 : decode cL_isDeckSo 271 = .ok (.lcmp, 1) := by decide +kernel
theorem dL_isDeckSo_272 : decode cL_isDeckSo 272 = .ok (.ifCond .ne 26, 3) := by decide +kernel
theorem dL_isDeckSo_275 : decode cL_isDeckSo 275 = .ok (.aload_n 0, 1) := by decide +kernel
theorem dL_isDeckSo_276 : decode cL_isDeckSo 276 = .ok (.iload 4, 2) := by decide +kernel
theorem dL_isDeckSo_278 : decode cL_isDeckSo 278 = .ok (.invokestatic 114, 3) := by decide +kernel
theorem dL_isDeckSo_281 : decode cL_isDeckSo 281 = .ok (.iload 13, 2) := by decide +kernel
theorem dL_isDeckSo_283 : decode cL_isDeckSo 283 = .ok (.ifCond .eq 7, 3) := by decide +kernel
theorem dL_isDeckSo_286 : decode cL_isDeckSo 286 = .ok (.iconst 1, 1) := by decide +kernel
theorem dL_isDeckSo_287 : decode cL_isDeckSo 287 = .ok (.goto 4, 3) := by decide +kernel
theorem dL_isDeckSo_290 : decode cL_isDeckSo 290 = .ok (.iconst 0, 1) := by decide +kernel
theorem dL_isDeckSo_291 : decode cL_isDeckSo 291 = .ok (.if_icmp .ne 7, 3) := by decide +kernel
theorem dL_isDeckSo_294 : decode cL_isDeckSo 294 = .ok (.iconst 1, 1) := by decide +kernel
theorem dL_isDeckSo_295 : decode cL_isDeckSo 295 = .ok (.goto 4, 3) := by decide +kernel
theorem dL_isDeckSo_298 : decode cL_isDeckSo 298 = .ok (.iconst 0, 1) := by decide +kernel
theorem dL_isDeckSo_299 : decode cL_isDeckSo 299 = .ok (.istore 17, 2) := by decide +kernel
theorem dL_isDeckSo_301 : decode cL_isDeckSo 301 = .ok (.iconst 1, 1) := by decide +kernel
theorem dL_isDeckSo_302 : decode cL_isDeckSo 302 = .ok (.istore 18, 2) := by decide +kernel
theorem dL_isDeckSo_304 : decode cL_isDeckSo 304 = .ok (.iload 18, 2) := by decide +kernel
theorem dL_isDeckSo_306 : decode cL_isDeckSo 306 = .ok (.bipush 11, 2) := by decide +kernel
theorem dL_isDeckSo_308 : decode cL_isDeckSo 308 = .ok (.if_icmp .ge 104, 3) := by decide +kernel
theorem dL_isDeckSo_311 : decode cL_isDeckSo 311 = .ok (.iload 17, 2) := by decide +kernel
theorem dL_isDeckSo_313 : decode cL_isDeckSo 313 = .ok (.ifCond .eq 99, 3) := by decide +kernel
theorem dL_isDeckSo_316 : decode cL_isDeckSo 316 = .ok (.aload_n 0, 1) := by decide +kernel
theorem dL_isDeckSo_317 : decode cL_isDeckSo 317 = .ok (.iload 4, 2) := by decide +kernel
theorem dL_isDeckSo_319 : decode cL_isDeckSo 319 = .ok (.iload 14, 2) := by decide +kernel
theorem dL_isDeckSo_321 : decode cL_isDeckSo 321 = .ok (.iload 18, 2) := by decide +kernel
theorem dL_isDeckSo_323 : decode cL_isDeckSo 323 = .ok (.invokestatic 116, 3) := by decide +kernel
theorem dL_isDeckSo_326 : decode cL_isDeckSo 326 = .ok (.istore 19, 2) := by decide +kernel
theorem dL_isDeckSo_328 : decode cL_isDeckSo 328 = .ok (.iload 19, 2) := by decide +kernel
theorem dL_isDeckSo_330 : decode cL_isDeckSo 330 = .ok (.iload 16, 2) := by decide +kernel
theorem dL_isDeckSo_332 : decode cL_isDeckSo 332 = .ok (.if_icmp .lt 67, 3) := by decide +kernel
theorem dL_isDeckSo_335 : decode cL_isDeckSo 335 = .ok (.iload 19, 2) := by decide +kernel
theorem dL_isDeckSo_337 : decode cL_isDeckSo 337 = .ok (.iload 15, 2) := by decide +kernel
theorem dL_isDeckSo_339 : decode cL_isDeckSo 339 = .ok (.if_icmp .gt 60, 3) := by decide +kernel
theorem dL_isDeckSo_342 : decode cL_isDeckSo 342 = .ok (.iload 18, 2) := by decide +kernel
theorem dL_isDeckSo_344 : decode cL_isDeckSo 344 = .ok (.iload 6, 2) := by decide +kernel
theorem dL_isDeckSo_346 : decode cL_isDeckSo 346 = .ok (.if_icmp .lt 22, 3) := by decide +kernel
theorem dL_isDeckSo_349 : decode cL_isDeckSo 349 = .ok (.iload 19, 2) := by decide +kernel
theorem dL_isDeckSo_351 : decode cL_isDeckSo 351 = .ok (.aload 12, 2) := by decide +kernel
theorem dL_isDeckSo_353 : decode cL_isDeckSo 353 = .ok (.iload 14, 2) := by decide +kernel
theorem dL_isDeckSo_355 : decode cL_isDeckSo 355 = .ok (.iaload, 1) := by decide +kernel
theorem dL_isDeckSo_356 : decode cL_isDeckSo 356 = .ok (.ifCond .le 8, 3) := by decide +kernel
theorem dL_isDeckSo_359 : decode cL_isDeckSo 359 = .ok (.iload 15, 2) := by decide +kernel
theorem dL_isDeckSo_361 : decode cL_isDeckSo 361 = .ok (.goto 4, 3) := by decide +kernel
theorem dL_isDeckSo_364 : decode cL_isDeckSo 364 = .ok (.iconst 0, 1) := by decide +kernel
theorem dL_isDeckSo_365 : decode cL_isDeckSo 365 = .ok (.if_icmp .ne 34, 3) := by decide +kernel
theorem dL_isDeckSo_368 : decode cL_isDeckSo 368 = .ok (.iload 18, 2) := by decide +kernel
theorem dL_isDeckSo_370 : decode cL_isDeckSo 370 = .ok (.iconst 1, 1) := by decide +kernel
theorem dL_isDeckSo_371 : decode cL_isDeckSo 371 = .ok (.if_icmp .gt 24, 3) := by decide +kernel
theorem dL_isDeckSo_374 : decode cL_isDeckSo 374 = .ok (.iload 6, 2) := by decide +kernel
theorem dL_isDeckSo_376 : decode cL_isDeckSo 376 = .ok (.ifCond .eq 19, 3) := by decide +kernel
theorem dL_isDeckSo_379 : decode cL_isDeckSo 379 = .ok (.iload 19, 2) := by decide +kernel
theorem dL_isDeckSo_381 : decode cL_isDeckSo 381 = .ok (.iload 15, 2) := by decide +kernel
theorem dL_isDeckSo_383 : decode cL_isDeckSo 383 = .ok (.iload 6, 2) := by decide +kernel
theorem dL_isDeckSo_385 : decode cL_isDeckSo 385 = .ok (.idiv, 1) := by decide +kernel
theorem dL_isDeckSo_386 : decode cL_isDeckSo 386 = .ok (.aload 12, 2) := by decide +kernel
theorem dL_isDeckSo_388 : decode cL_isDeckSo 388 = .ok (.iload 14, 2) := by decide +kernel
theorem dL_isDeckSo_390 : decode cL_isDeckSo 390 = .ok (.iaload, 1) := by decide +kernel
theorem dL_isDeckSo_391 : decode cL_isDeckSo 391 = .ok (.imul, 1) := by decide +kernel
theorem dL_isDeckSo_392 : decode cL_isDeckSo 392 = .ok (.if_icmp .ne 7, 3) := by decide +kernel
theorem dL_isDeckSo_395 : decode cL_isDeckSo 395 = .ok (.iconst 1, 1) := by decide +kernel
theorem dL_isDeckSo_396 : decode cL_isDeckSo 396 = .ok (.goto 4, 3) := by decide +kernel
theorem dL_isDeckSo_399 : decode cL_isDeckSo 399 = .ok (.iconst 0, 1) := by decide +kernel
theorem dL_isDeckSo_400 : decode cL_isDeckSo 400 = .ok (.istore 17, 2) := by decide +kernel
theorem dL_isDeckSo_402 : decode cL_isDeckSo 402 = .ok (.iload 19, 2) := by decide +kernel
theorem dL_isDeckSo_404 : decode cL_isDeckSo 404 = .ok (.istore 16, 2) := by decide +kernel
theorem dL_isDeckSo_406 : decode cL_isDeckSo 406 = .ok (.iinc 18 1, 3) := by decide +kernel
theorem dL_isDeckSo_409 : decode cL_isDeckSo 409 = .ok (.goto (-105), 3) := by decide +kernel
theorem dL_isDeckSo_412 : decode cL_isDeckSo 412 = .ok (.iconst 1, 1) := by decide +kernel
theorem dL_isDeckSo_413 : decode cL_isDeckSo 413 = .ok (.iload 5, 2) := by decide +kernel
theorem dL_isDeckSo_415 : decode cL_isDeckSo 415 = .ok (.iconst 5, 1) := by decide +kernel
theorem dL_isDeckSo_416 : decode cL_isDeckSo 416 = .ok (.ishr, 1) := by decide +kernel
theorem dL_isDeckSo_417 : decode cL_isDeckSo 417 = .ok (.bipush 10, 2) := by decide +kernel
theorem dL_isDeckSo_419 : decode cL_isDeckSo 419 = .ok (.invokestatic 111, 3) := by decide +kernel
theorem dL_isDeckSo_422 : decode cL_isDeckSo 422 = .ok (.iadd, 1) := by decide +kernel
theorem dL_isDeckSo_423 : decode cL_isDeckSo 423 = .ok (.istore 18, 2) := by decide +kernel
theorem dL_isDeckSo_425 : decode cL_isDeckSo 425 = .ok (.iload 17, 2) := by decide +kernel
theorem dL_isDeckSo_427 : decode cL_isDeckSo 427 = .ok (.ifCond .eq 61, 3) := by decide +kernel
theorem dL_isDeckSo_430 : decode cL_isDeckSo 430 = .ok (.iload 6, 2) := by decide +kernel
theorem dL_isDeckSo_432 : decode cL_isDeckSo 432 = .ok (.bipush 7, 2) := by decide +kernel
theorem dL_isDeckSo_434 : decode cL_isDeckSo 434 = .ok (.if_icmp .le 21, 3) := by decide +kernel
theorem dL_isDeckSo_437 : decode cL_isDeckSo 437 = .ok (.aload_n 0, 1) := by decide +kernel
theorem dL_isDeckSo_438 : decode cL_isDeckSo 438 = .ok (.iload 4, 2) := by decide +kernel
theorem dL_isDeckSo_440 : decode cL_isDeckSo 440 = .ok (.iload 14, 2) := by decide +kernel
theorem dL_isDeckSo_442 : decode cL_isDeckSo 442 = .ok (.iload 18, 2) := by decide +kernel
theorem dL_isDeckSo_444 : decode cL_isDeckSo 444 = .ok (.invokestatic 118, 3) := by decide +kernel
theorem dL_isDeckSo_447 : decode cL_isDeckSo 447 = .ok (.ldc 35, 2) := by decide +kernel
theorem dL_isDeckSo_449 : decode cL_isDeckSo 449 = .ok (.if_icmp .ne 39, 3) := by decide +kernel
theorem dL_isDeckSo_452 : decode cL_isDeckSo 452 = .ok (.goto 32, 3) := by decide +kernel
theorem dL_isDeckSo_455 : decode cL_isDeckSo 455 = .ok (.iload 6, 2) := by decide +kernel
theorem dL_isDeckSo_457 : decode cL_isDeckSo 457 = .ok (.iconst 5, 1) := by decide +kernel
theorem dL_isDeckSo_458 : decode cL_isDeckSo 458 = .ok (.if_icmp .gt 26, 3) := by decide +kernel
theorem dL_isDeckSo_461 : decode cL_isDeckSo 461 = .ok (.aload_n 0, 1) := by decide +kernel
theorem dL_isDeckSo_462 : decode cL_isDeckSo 462 = .ok (.iload 4, 2) := by decide +kernel
theorem dL_isDeckSo_464 : decode cL_isDeckSo 464 = .ok (.iload 14, 2) := by decide +kernel
theorem dL_isDeckSo_466 : decode cL_isDeckSo 466 = .ok (.iload 18, 2) := by decide +kernel
theorem dL_isDeckSo_468 : decode cL_isDeckSo 468 = .ok (.invokestatic 118, 3) := by decide +kernel
theorem dL_isDeckSo_471 : decode cL_isDeckSo 471 = .ok (.aload_n 0, 1) := by decide +kernel
theorem dL_isDeckSo_472 : decode cL_isDeckSo 472 = .ok (.iload 4, 2) := by decide +kernel
theorem dL_isDeckSo_474 : decode cL_isDeckSo 474 = .ok (.iload 14, 2) := by decide +kernel
theorem dL_isDeckSo_476 : decode cL_isDeckSo 476 = .ok (.iload 18, 2) := by decide +kernel
theorem dL_isDeckSo_478 : decode cL_isDeckSo 478 = .ok (.invokestatic 116, 3) := by decide +kernel
theorem dL_isDeckSo_481 : decode cL_isDeckSo 481 = .ok (.if_icmp .ne 7, 3) := by decide +kernel
theorem dL_isDeckSo_484 : decode cL_isDeckSo 484 = .ok (.iconst 1, 1) := by decide +kernel
theorem dL_isDeckSo_485 : decode cL_isDeckSo 485 = .ok (.goto 4, 3) := by decide +kernel
theorem dL_isDeckSo_488 : decode cL_isDeckSo 488 = .ok (.iconst 0, 1) := by decide +kernel
theorem dL_isDeckSo_489 : decode cL_isDeckSo 489 = .ok (.istore 17, 2) := by decide +kernel
theorem dL_isDeckSo_491 : decode cL_isDeckSo 491 = .ok (.iload 17, 2) := by decide +kernel
theorem dL_isDeckSo_493 : decode cL_isDeckSo 493 = .ok (.ifCond .eq 120, 3) := by decide +kernel
theorem dL_isDeckSo_496 : decode cL_isDeckSo 496 = .ok (.aload_n 0, 1) := by decide +kernel
theorem dL_isDeckSo_497 : decode cL_isDeckSo 497 = .ok (.iload 4, 2) := by decide +kernel
theorem dL_isDeckSo_499 : decode cL_isDeckSo 499 = .ok (.iload 7, 2) := by decide +kernel
theorem dL_isDeckSo_501 : decode cL_isDeckSo 501 = .ok (.iload 6, 2) := by decide +kernel
theorem dL_isDeckSo_503 : decode cL_isDeckSo 503 = .ok (.invokestatic 108, 3) := by decide +kernel
theorem dL_isDeckSo_506 : decode cL_isDeckSo 506 = .ok (.ldc 18, 2) := by decide +kernel
theorem dL_isDeckSo_508 : decode cL_isDeckSo 508 = .ok (.if_icmp .ne 105, 3) := by decide +kernel
theorem dL_isDeckSo_511 : decode cL_isDeckSo 511 = .ok (.aload_n 0, 1) := by decide +kernel
theorem dL_isDeckSo_512 : decode cL_isDeckSo 512 = .ok (.iload 4, 2) := by decide +kernel
theorem dL_isDeckSo_514 : decode cL_isDeckSo 514 = .ok (.iconst (-1), 1) := by decide +kernel
theorem dL_isDeckSo_515 : decode cL_isDeckSo 515 = .ok (.iconst (-1), 1) := by decide +kernel
theorem dL_isDeckSo_516 : decode cL_isDeckSo 516 = .ok (.invokestatic 108, 3) := by decide +kernel
theorem dL_isDeckSo_519 : decode cL_isDeckSo 519 = .ok (.ldc 18, 2) := by decide +kernel
theorem dL_isDeckSo_521 : decode cL_isDeckSo 521 = .ok (.if_icmp .ne 92, 3) := by decide +kernel
theorem dL_isDeckSo_524 : decode cL_isDeckSo 524 = .ok (.iload 6, 2) := by decide +kernel
theorem dL_isDeckSo_526 : decode cL_isDeckSo 526 = .ok (.ifCond .eq 16, 3) := by decide +kernel
theorem dL_isDeckSo_529 : decode cL_isDeckSo 529 = .ok (.aload_n 0, 1) := by decide +kernel
theorem dL_isDeckSo_530 : decode cL_isDeckSo 530 = .ok (.iload 4, 2) := by decide +kernel
theorem dL_isDeckSo_532 : decode cL_isDeckSo 532 = .ok (.iconst (-1), 1) := by decide +kernel
theorem dL_isDeckSo_533 : decode cL_isDeckSo 533 = .ok (.iconst 0, 1) := by decide +kernel
theorem dL_isDeckSo_534 : decode cL_isDeckSo 534 = .ok (.invokestatic 108, 3) := by decide +kernel
theorem dL_isDeckSo_537 : decode cL_isDeckSo 537 = .ok (.ldc 21, 2) := by decide +kernel
theorem dL_isDeckSo_539 : decode cL_isDeckSo 539 = .ok (.if_icmp .ne 74, 3) := by decide +kernel
theorem dL_isDeckSo_542 : decode cL_isDeckSo 542 = .ok (.aload_n 0, 1) := by decide +kernel
theorem dL_isDeckSo_543 : decode cL_isDeckSo 543 = .ok (.iload 4, 2) := by decide +kernel
theorem dL_isDeckSo_545 : decode cL_isDeckSo 545 = .ok (.bipush 16, 2) := by decide +kernel
theorem dL_isDeckSo_547 : decode cL_isDeckSo 547 = .ok (.iconst 0, 1) := by decide +kernel
theorem dL_isDeckSo_548 : decode cL_isDeckSo 548 = .ok (.invokestatic 116, 3) := by decide +kernel
theorem dL_isDeckSo_551 : decode cL_isDeckSo 551 = .ok (.ldc 18, 2) := by decide +kernel
theorem dL_isDeckSo_553 : decode cL_isDeckSo 553 = .ok (.if_icmp .ne 60, 3) := by decide +kernel
theorem dL_isDeckSo_556 : decode cL_isDeckSo 556 = .ok (.aload_n 0, 1) := by decide +kernel
theorem dL_isDeckSo_557 : decode cL_isDeckSo 557 = .ok (.iload 4, 2) := by decide +kernel
theorem dL_isDeckSo_559 : decode cL_isDeckSo 559 = .ok (.iconst 0, 1) := by decide +kernel
theorem dL_isDeckSo_560 : decode cL_isDeckSo 560 = .ok (.bipush 11, 2) := by decide +kernel
theorem dL_isDeckSo_562 : decode cL_isDeckSo 562 = .ok (.invokestatic 116, 3) := by decide +kernel
theorem dL_isDeckSo_565 : decode cL_isDeckSo 565 = .ok (.ldc 21, 2) := by decide +kernel
theorem dL_isDeckSo_567 : decode cL_isDeckSo 567 = .ok (.if_icmp .ne 46, 3) := by decide +kernel
theorem dL_isDeckSo_570 : decode cL_isDeckSo 570 = .ok (.aload_n 0, 1) := by decide +kernel
theorem dL_isDeckSo_571 : decode cL_isDeckSo 571 = .ok (.aload_n 3, 1) := by decide +kernel
theorem dL_isDeckSo_572 : decode cL_isDeckSo 572 = .ok (.iconst 1, 1) := by decide +kernel
theorem dL_isDeckSo_573 : decode cL_isDeckSo 573 = .ok (.iaload, 1) := by decide +kernel
theorem dL_isDeckSo_574 : decode cL_isDeckSo 574 = .ok (.iconst 0, 1) := by decide +kernel
theorem dL_isDeckSo_575 : decode cL_isDeckSo 575 = .ok (.iconst 0, 1) := by decide +kernel
theorem dL_isDeckSo_576 : decode cL_isDeckSo 576 = .ok (.invokestatic 118, 3) := by decide +kernel
theorem dL_isDeckSo_579 : decode cL_isDeckSo 579 = .ok (.ldc 18, 2) := by decide +kernel
theorem dL_isDeckSo_581 : decode cL_isDeckSo 581 = .ok (.if_icmp .ne 32, 3) := by decide +kernel
theorem dL_isDeckSo_584 : decode cL_isDeckSo 584 = .ok (.aload_n 0, 1) := by decide +kernel
theorem dL_isDeckSo_585 : decode cL_isDeckSo 585 = .ok (.iload 4, 2) := by decide +kernel
theorem dL_isDeckSo_587 : decode cL_isDeckSo 587 = .ok (.iconst 0, 1) := by decide +kernel
theorem dL_isDeckSo_588 : decode cL_isDeckSo 588 = .ok (.iconst 0, 1) := by decide +kernel
theorem dL_isDeckSo_589 : decode cL_isDeckSo 589 = .ok (.invokestatic 118, 3) := by decide +kernel
theorem dL_isDeckSo_592 : decode cL_isDeckSo 592 = .ok (.ldc 21, 2) := by decide +kernel
theorem dL_isDeckSo_594 : decode cL_isDeckSo 594 = .ok (.if_icmp .ne 19, 3) := by decide +kernel
theorem dL_isDeckSo_597 : decode cL_isDeckSo 597 = .ok (.aload_n 0, 1) := by decide +kernel
theorem dL_isDeckSo_598 : decode cL_isDeckSo 598 = .ok (.aload_n 3, 1) := by decide +kernel
theorem dL_isDeckSo_599 : decode cL_isDeckSo 599 = .ok (.iconst 1, 1) := by decide +kernel
theorem dL_isDeckSo_600 : decode cL_isDeckSo 600 = .ok (.iaload, 1) := by decide +kernel
theorem dL_isDeckSo_601 : decode cL_isDeckSo 601 = .ok (.invokestatic 114, 3) := by decide +kernel
theorem dL_isDeckSo_604 : decode cL_isDeckSo 604 = .ok (.ldc 18, 2) := by decide +kernel
theorem dL_isDeckSo_606 : decode cL_isDeckSo 606 = .ok (.if_icmp .ne 7, 3) := by decide +kernel
theorem dL_isDeckSo_609 : decode cL_isDeckSo 609 = .ok (.iconst 1, 1) := by decide +kernel
theorem dL_isDeckSo_610 : decode cL_isDeckSo 610 = .ok (.goto 4, 3) := by decide +kernel
theorem dL_isDeckSo_613 : decode cL_isDeckSo 613 = .ok (.iconst 0, 1) := by decide +kernel
theorem dL_isDeckSo_614 : decode cL_isDeckSo 614 = .ok (.ireturn, 1) := by decide +kernel
