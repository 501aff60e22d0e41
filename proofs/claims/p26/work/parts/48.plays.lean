set_option maxRecDepth 20000 in
theorem ggL_plays_L_low : GoodIn wsL_plays wsL_low := goodIn_r _ [10, 1] (by decide +kernel) (by decide +kernel)
set_option maxRecDepth 20000 in
theorem gL_plays_L_low : GoodIn wsL_plays (va_wsS RL 111 yL_low wsL_low) := goodIn_app (goodIn_of _ (by decide +kernel)) ggL_plays_L_low
set_option maxRecDepth 20000 in
theorem ggL_plays_L_isAllowed : GoodIn wsL_plays wsL_isAllowed := goodIn_ca (goodIn_r _ [13, 14, 6, 15, 16, 17, 18, 19, 20, 21, 22, 23, 24, 25, 26, 27, 28, 29, 30, 31, 32, 33, 34, 35, 36, 37, 38, 39, 40, 41, 42, 43, 44, 45, 46, 47, 48, 49, 50, 51, 52, 53, 54, 55, 56, 57, 160, 161, 162, 163, 164, 165, 166, 167, 168, 169, 170, 171, 172, 173, 174, 175, 176, 177, 178, 179, 180, 181] (by decide +kernel) (by decide +kernel)) (goodIn_sub (fun _ h => List.mem_cons_of_mem _ (List.mem_append_left _ (List.mem_append_left _ (List.mem_append_right _ h)))) (by decide +kernel))
set_option maxRecDepth 20000 in
theorem gL_plays_L_isAllowed : GoodIn wsL_plays (va_wsS RL 114 yL_isAllowed wsL_isAllowed) := goodIn_app (goodIn_of _ (by decide +kernel)) ggL_plays_L_isAllowed
set_option maxRecDepth 20000 in
theorem ggL_plays_L_wins : GoodIn wsL_plays wsL_wins := goodIn_ca (goodIn_r _ [60, 14, 6, 61, 62, 63, 18, 64, 21, 65, 66, 67, 68, 27, 28, 160, 161, 162, 163, 164, 165, 166, 177, 178, 179, 180, 181] (by decide +kernel) (by decide +kernel)) (goodIn_sub (fun _ h => List.mem_cons_of_mem _ (List.mem_append_left _ (List.mem_append_left _ (List.mem_append_right _ h)))) (by decide +kernel))
set_option maxRecDepth 20000 in
theorem gL_plays_L_wins : GoodIn wsL_plays (va_wsS RL 100 yL_wins wsL_wins) := goodIn_app (goodIn_of _ (by decide +kernel)) ggL_plays_L_wins
set_option maxRecDepth 20000 in
theorem ggL_plays_L_play : GoodIn wsL_plays wsL_play := goodIn_ca (goodIn_ca (goodIn_ca (goodIn_r _ [71, 14, 72, 73, 6, 4, 5, 74, 75, 76, 18, 77, 78, 79, 20, 80, 81, 82, 83, 84, 23, 24, 25, 26, 27, 28, 29, 85, 86, 87, 88, 89, 90, 91, 92, 93, 21, 22, 30, 31, 32, 33, 34, 35, 36, 37, 38, 39, 40, 41, 42, 43, 44, 45, 46, 47, 48, 49, 50, 51, 52, 53, 54, 55, 56, 57, 94, 95, 96, 97, 98, 99, 100, 101, 102, 103, 104, 105, 106, 107, 108, 109, 110, 111, 112, 113, 114, 115, 116, 117, 118, 119, 120, 121, 122, 123, 124, 125, 126, 127, 128, 129, 130, 131, 65, 132, 160, 161, 162, 163, 164, 165, 166, 167, 168, 169, 170, 171, 172, 182, 183, 184, 173, 174, 175, 176, 177, 178, 179, 180, 181, 185] (by decide +kernel) (by decide +kernel)) (goodIn_sub (fun _ h => List.mem_cons_of_mem _ (List.mem_append_left _ (List.mem_append_right _ h))) (by decide +kernel))) (goodIn_sub (fun _ h => List.mem_cons_of_mem _ (List.mem_append_left _ (List.mem_append_left _ (List.mem_append_right _ h)))) (by decide +kernel))) (goodIn_sub (fun _ h => List.mem_cons_of_mem _ (List.mem_append_right _ h)) (by decide +kernel))
set_option maxRecDepth 20000 in
theorem gL_plays_L_play : GoodIn wsL_plays (va_wsS RL 135 yL_play wsL_play) := goodIn_app (goodIn_of _ (by decide +kernel)) ggL_plays_L_play
set_option maxRecDepth 20000 in
theorem ggL_plays_L_shuffled : GoodIn wsL_plays wsL_shuffled := goodIn_ca (goodIn_ca (goodIn_r _ [135, 14, 72, 6, 4, 136, 137, 138, 18, 139, 140, 20, 120, 23, 24, 25, 26, 27, 28, 29, 141, 142, 143, 144, 145, 85, 86, 87, 78, 79, 146, 103, 104, 105, 106, 107, 108, 109, 110, 111, 112, 113, 160, 161, 162, 163, 164, 165, 166, 185, 167, 168, 169, 170, 171, 172] (by decide +kernel) (by decide +kernel)) (goodIn_sub (fun _ h => List.mem_cons_of_mem _ (List.mem_append_left _ (List.mem_append_left _ (List.mem_append_right _ h)))) (by decide +kernel))) (goodIn_sub (fun _ h => List.mem_cons_of_mem _ (List.mem_append_left _ (List.mem_append_right _ h))) (by decide +kernel))
set_option maxRecDepth 20000 in
theorem gL_plays_L_shuffled : GoodIn wsL_plays (va_wsS RL 108 yL_shuffled wsL_shuffled) := goodIn_app (goodIn_of _ (by decide +kernel)) ggL_plays_L_shuffled
set_option maxRecDepth 20000 in
theorem ggL_plays_L_printOf : GoodIn wsL_plays wsL_printOf := goodIn_ca (goodIn_r _ [149, 14, 6, 150, 151, 152, 18, 153, 22, 118, 154, 155, 156, 157, 158, 27, 28, 159, 160, 161, 162, 163, 164, 165, 166, 173, 174, 175, 176] (by decide +kernel) (by decide +kernel)) (goodIn_sub (fun _ h => List.mem_cons_of_mem _ (List.mem_append_left _ (List.mem_append_left _ (List.mem_append_right _ h)))) (by decide +kernel))
set_option maxRecDepth 20000 in
theorem gL_plays_L_printOf : GoodIn wsL_plays (va_wsS RL 90 yL_printOf wsL_printOf) := goodIn_app (goodIn_of _ (by decide +kernel)) ggL_plays_L_printOf
theorem dL_plays_0 : decode cL_plays 0 = .ok (.iload 4, 2) := by decide +kernel
theorem dL_plays_2 : decode cL_plays 2 = .ok (.iconst 5, 1) := by decide +kernel
theorem dL_plays_3 : decode cL_plays 3 = .ok (.ishr, 1) := by decide +kernel
theorem dL_plays_4 : decode cL_plays 4 = .ok (.aload_n 3, 1) := by decide +kernel
theorem dL_plays_5 : decode cL_plays 5 = .ok (.iconst 1, 1) := by decide +kernel
theorem dL_plays_6 : decode cL_plays 6 = .ok (.iaload, 1) := by decide +kernel
theorem dL_plays_7 : decode cL_plays 7 = .ok (.invokestatic 111, 3) := by decide +kernel
theorem dL_plays_10 : decode cL_plays 10 = .ok (.istore 6, 2) := by decide +kernel
theorem dL_plays_12 : decode cL_plays 12 = .ok (.iload 4, 2) := by decide +kernel
theorem dL_plays_14 : decode cL_plays 14 = .ok (.bipush 9, 2) := by decide +kernel
theorem dL_plays_16 : decode cL_plays 16 = .ok (.ishr, 1) := by decide +kernel
theorem dL_plays_17 : decode cL_plays 17 = .ok (.aload_n 3, 1) := by decide +kernel
theorem dL_plays_18 : decode cL_plays 18 = .ok (.iconst 1, 1) := by decide +kernel
theorem dL_plays_19 : decode cL_plays 19 = .ok (.iaload, 1) := by decide +kernel
theorem dL_plays_20 : decode cL_plays 20 = .ok (.invokestatic 111, 3) := by decide +kernel
theorem dL_plays_23 : decode cL_plays 23 = .ok (.istore 7, 2) := by decide +kernel
theorem dL_plays_25 : decode cL_plays 25 = .ok (.iload 5, 2) := by decide +kernel
theorem dL_plays_27 : decode cL_plays 27 = .ok (.ldc 9, 2) := by decide +kernel
theorem dL_plays_29 : decode cL_plays 29 = .ok (.iand, 1) := by decide +kernel
theorem dL_plays_30 : decode cL_plays 30 = .ok (.istore 8, 2) := by decide +kernel
theorem dL_plays_32 : decode cL_plays 32 = .ok (.iload 5, 2) := by decide +kernel
theorem dL_plays_34 : decode cL_plays 34 = .ok (.bipush 7, 2) := by decide +kernel
theorem dL_plays_36 : decode cL_plays 36 = .ok (.imul, 1) := by decide +kernel
theorem dL_plays_37 : decode cL_plays 37 = .ok (.iload 4, 2) := by decide +kernel
theorem dL_plays_39 : decode cL_plays 39 = .ok (.iadd, 1) := by decide +kernel
theorem dL_plays_40 : decode cL_plays 40 = .ok (.ldc 134, 2) := by decide +kernel
theorem dL_plays_42 : decode cL_plays 42 = .ok (.invokestatic 111, 3) := by decide +kernel
theorem dL_plays_45 : decode cL_plays 45 = .ok (.istore 9, 2) := by decide +kernel
theorem dL_plays_47 : decode cL_plays 47 = .ok (.aload_n 2, 1) := by decide +kernel
theorem dL_plays_48 : decode cL_plays 48 = .ok (.iconst 2, 1) := by decide +kernel
theorem dL_plays_49 : decode cL_plays 49 = .ok (.iload 6, 2) := by decide +kernel
theorem dL_plays_51 : decode cL_plays 51 = .ok (.imul, 1) := by decide +kernel
theorem dL_plays_52 : decode cL_plays 52 = .ok (.iaload, 1) := by decide +kernel
theorem dL_plays_53 : decode cL_plays 53 = .ok (.aload_n 2, 1) := by decide +kernel
theorem dL_plays_54 : decode cL_plays 54 = .ok (.iconst 2, 1) := by decide +kernel
theorem dL_plays_55 : decode cL_plays 55 = .ok (.iload 7, 2) := by decide +kernel
theorem dL_plays_57 : decode cL_plays 57 = .ok (.imul, 1) := by decide +kernel
theorem dL_plays_58 : decode cL_plays 58 = .ok (.iaload, 1) := by decide +kernel
theorem dL_plays_59 : decode cL_plays 59 = .ok (.if_icmp .ne 7, 3) := by decide +kernel
theorem dL_plays_62 : decode cL_plays 62 = .ok (.iconst 1, 1) := by decide +kernel
theorem dL_plays_63 : decode cL_plays 63 = .ok (.goto 4, 3) := by decide +kernel
theorem dL_plays_66 : decode cL_plays 66 = .ok (.iconst 0, 1) := by decide +kernel
theorem dL_plays_67 : decode cL_plays 67 = .ok (.istore 10, 2) := by decide +kernel
theorem dL_plays_69 : decode cL_plays 69 = .ok (.aload_n 0, 1) := by decide +kernel
theorem dL_plays_70 : decode cL_plays 70 = .ok (.iload 6, 2) := by decide +kernel
theorem dL_plays_72 : decode cL_plays 72 = .ok (.invokestatic 114, 3) := by decide +kernel
theorem dL_plays_75 : decode cL_plays 75 = .ok (.iconst 1, 1) := by decide +kernel
theorem dL_plays_76 : decode cL_plays 76 = .ok (.if_icmp .ne 17, 3) := by decide +kernel
theorem dL_plays_79 : decode cL_plays 79 = .ok (.aload_n 0, 1) := by decide +kernel
theorem dL_plays_80 : decode cL_plays 80 = .ok (.iload 7, 2) := by decide +kernel
theorem dL_plays_82 : decode cL_plays 82 = .ok (.invokestatic 114, 3) := by decide +kernel
theorem dL_plays_85 : decode cL_plays 85 = .ok (.iconst 1, 1) := by decide +kernel
theorem dL_plays_86 : decode cL_plays 86 = .ok (.if_icmp .ne 7, 3) := by decide +kernel
theorem dL_plays_89 : decode cL_plays 89 = .ok (.iconst 1, 1) := by decide +kernel
theorem dL_plays_90 : decode cL_plays 90 = .ok (.goto 4, 3) := by decide +kernel
theorem dL_plays_93 : decode cL_plays 93 = .ok (.iconst 0, 1) := by decide +kernel
theorem dL_plays_94 : decode cL_plays 94 = .ok (.istore 11, 2) := by decide +kernel
theorem dL_plays_96 : decode cL_plays 96 = .ok (.bipush 16, 2) := by decide +kernel
theorem dL_plays_98 : decode cL_plays 98 = .ok (.newarray .int, 2) := by decide +kernel
theorem dL_plays_100 : decode cL_plays 100 = .ok (.astore 12, 2) := by decide +kernel
theorem dL_plays_102 : decode cL_plays 102 = .ok (.iconst 0, 1) := by decide +kernel
theorem dL_plays_103 : decode cL_plays 103 = .ok (.istore 13, 2) := by decide +kernel
theorem dL_plays_105 : decode cL_plays 105 = .ok (.iload 13, 2) := by decide +kernel
theorem dL_plays_107 : decode cL_plays 107 = .ok (.bipush 16, 2) := by decide +kernel
theorem dL_plays_109 : decode cL_plays 109 = .ok (.if_icmp .ge 20, 3) := by decide +kernel
theorem dL_plays_112 : decode cL_plays 112 = .ok (.aload 12, 2) := by decide +kernel
theorem dL_plays_114 : decode cL_plays 114 = .ok (.iload 13, 2) := by decide +kernel
theorem dL_plays_116 : decode cL_plays 116 = .ok (.aload_n 0, 1) := by decide +kernel
theorem dL_plays_117 : decode cL_plays 117 = .ok (.iload 13, 2) := by decide +kernel
theorem dL_plays_119 : decode cL_plays 119 = .ok (.invokestatic 100, 3) := by decide +kernel
theorem dL_plays_122 : decode cL_plays 122 = .ok (.iastore, 1) := by decide +kernel
theorem dL_plays_123 : decode cL_plays 123 = .ok (.iinc 13 1, 3) := by decide +kernel
theorem dL_plays_126 : decode cL_plays 126 = .ok (.goto (-21), 3) := by decide +kernel
theorem dL_plays_129 : decode cL_plays 129 = .ok (.aload_n 0, 1) := by decide +kernel
theorem dL_plays_130 : decode cL_plays 130 = .ok (.iload 6, 2) := by decide +kernel
theorem dL_plays_132 : decode cL_plays 132 = .ok (.iload 7, 2) := by decide +kernel
theorem dL_plays_134 : decode cL_plays 134 = .ok (.iload 8, 2) := by decide +kernel
theorem dL_plays_136 : decode cL_plays 136 = .ok (.iload 9, 2) := by decide +kernel
theorem dL_plays_138 : decode cL_plays 138 = .ok (.invokestatic 135, 3) := by decide +kernel
theorem dL_plays_141 : decode cL_plays 141 = .ok (.istore 13, 2) := by decide +kernel
theorem dL_plays_143 : decode cL_plays 143 = .ok (.iload 10, 2) := by decide +kernel
theorem dL_plays_145 : decode cL_plays 145 = .ok (.ifCond .eq 18, 3) := by decide +kernel
theorem dL_plays_148 : decode cL_plays 148 = .ok (.iload 13, 2) := by decide +kernel
theorem dL_plays_150 : decode cL_plays 150 = .ok (.ldc 21, 2) := by decide +kernel
theorem dL_plays_152 : decode cL_plays 152 = .ok (.if_icmp .ne 7, 3) := by decide +kernel
theorem dL_plays_155 : decode cL_plays 155 = .ok (.iconst 1, 1) := by decide +kernel
theorem dL_plays_156 : decode cL_plays 156 = .ok (.goto 53, 3) := by decide +kernel
theorem dL_plays_159 : decode cL_plays 159 = .ok (.iconst 0, 1) := by decide +kernel
theorem dL_plays_160 : decode cL_plays 160 = .ok (.goto 49, 3) := by decide +kernel
theorem dL_plays_163 : decode cL_plays 163 = .ok (.iload 11, 2) := by decide +kernel
theorem dL_plays_165 : decode cL_plays 165 = .ok (.ifCond .eq 32, 3) := by decide +kernel
theorem dL_plays_168 : decode cL_plays 168 = .ok (.iload 13, 2) := by decide +kernel
theorem dL_plays_170 : decode cL_plays 170 = .ok (.bipush (-2), 2) := by decide +kernel
theorem dL_plays_172 : decode cL_plays 172 = .ok (.aload_n 3, 1) := by decide +kernel
theorem dL_plays_173 : decode cL_plays 173 = .ok (.iconst 3, 1) := by decide +kernel
theorem dL_plays_174 : decode cL_plays 174 = .ok (.iaload, 1) := by decide +kernel
theorem dL_plays_175 : decode cL_plays 175 = .ok (.imul, 1) := by decide +kernel
theorem dL_plays_176 : decode cL_plays 176 = .ok (.if_icmp .lt 17, 3) := by decide +kernel
theorem dL_plays_179 : decode cL_plays 179 = .ok (.iload 13, 2) := by decide +kernel
theorem dL_plays_181 : decode cL_plays 181 = .ok (.iconst 2, 1) := by decide +kernel
theorem dL_plays_182 : decode cL_plays 182 = .ok (.aload_n 3, 1) := by decide +kernel
theorem dL_plays_183 : decode cL_plays 183 = .ok (.iconst 3, 1) := by decide +kernel
theorem dL_plays_184 : decode cL_plays 184 = .ok (.iaload, 1) := by decide +kernel
theorem dL_plays_185 : decode cL_plays 185 = .ok (.imul, 1) := by decide +kernel
theorem dL_plays_186 : decode cL_plays 186 = .ok (.if_icmp .gt 7, 3) := by decide +kernel
theorem dL_plays_189 : decode cL_plays 189 = .ok (.iconst 1, 1) := by decide +kernel
theorem dL_plays_190 : decode cL_plays 190 = .ok (.goto 19, 3) := by decide +kernel
theorem dL_plays_193 : decode cL_plays 193 = .ok (.iconst 0, 1) := by decide +kernel
theorem dL_plays_194 : decode cL_plays 194 = .ok (.goto 15, 3) := by decide +kernel
theorem dL_plays_197 : decode cL_plays 197 = .ok (.iload 13, 2) := by decide +kernel
theorem dL_plays_199 : decode cL_plays 199 = .ok (.ldc 35, 2) := by decide +kernel
theorem dL_plays_201 : decode cL_plays 201 = .ok (.if_icmp .ne 7, 3) := by decide +kernel
theorem dL_plays_204 : decode cL_plays 204 = .ok (.iconst 1, 1) := by decide +kernel
theorem dL_plays_205 : decode cL_plays 205 = .ok (.goto 4, 3) := by decide +kernel
theorem dL_plays_208 : decode cL_plays 208 = .ok (.iconst 0, 1) := by decide +kernel
theorem dL_plays_209 : decode cL_plays 209 = .ok (.istore 14, 2) := by decide +kernel
theorem dL_plays_211 : decode cL_plays 211 = .ok (.iload 14, 2) := by decide +kernel
theorem dL_plays_213 : decode cL_plays 213 = .ok (.ifCond .eq 71, 3) := by decide +kernel
theorem dL_plays_216 : decode cL_plays 216 = .ok (.aload_n 1, 1) := by decide +kernel
theorem dL_plays_217 : decode cL_plays 217 = .ok (.iload 7, 2) := by decide +kernel
theorem dL_plays_219 : decode cL_plays 219 = .ok (.iload 6, 2) := by decide +kernel
theorem dL_plays_221 : decode cL_plays 221 = .ok (.iload 9, 2) := by decide +kernel
theorem dL_plays_223 : decode cL_plays 223 = .ok (.iload 8, 2) := by decide +kernel
theorem dL_plays_225 : decode cL_plays 225 = .ok (.invokestatic 135, 3) := by decide +kernel
theorem dL_plays_228 : decode cL_plays 228 = .ok (.iload 13, 2) := by decide +kernel
theorem dL_plays_230 : decode cL_plays 230 = .ok (.sipush (-1000), 3) := by decide +kernel
theorem dL_plays_233 : decode cL_plays 233 = .ok (.if_icmp .ge 8, 3) := by decide +kernel
theorem dL_plays_236 : decode cL_plays 236 = .ok (.iload 13, 2) := by decide +kernel
theorem dL_plays_238 : decode cL_plays 238 = .ok (.goto 6, 3) := by decide +kernel
theorem dL_plays_241 : decode cL_plays 241 = .ok (.iload 13, 2) := by decide +kernel
theorem dL_plays_243 : decode cL_plays 243 = .ok (.ineg, 1) := by decide +kernel
theorem dL_plays_244 : decode cL_plays 244 = .ok (.if_icmp .ne 40, 3) := by decide +kernel
theorem dL_plays_247 : decode cL_plays 247 = .ok (.aload_n 0, 1) := by decide +kernel
theorem dL_plays_248 : decode cL_plays 248 = .ok (.iload 6, 2) := by decide +kernel
theorem dL_plays_250 : decode cL_plays 250 = .ok (.iload 7, 2) := by decide +kernel
theorem dL_plays_252 : decode cL_plays 252 = .ok (.iconst (-1), 1) := by decide +kernel
theorem dL_plays_253 : decode cL_plays 253 = .ok (.iload 9, 2) := by decide +kernel
theorem dL_plays_255 : decode cL_plays 255 = .ok (.invokestatic 135, 3) := by decide +kernel
theorem dL_plays_258 : decode cL_plays 258 = .ok (.ldc 21, 2) := by decide +kernel
theorem dL_plays_260 : decode cL_plays 260 = .ok (.if_icmp .ne 24, 3) := by decide +kernel
theorem dL_plays_263 : decode cL_plays 263 = .ok (.aload_n 0, 1) := by decide +kernel
theorem dL_plays_264 : decode cL_plays 264 = .ok (.iload 6, 2) := by decide +kernel
theorem dL_plays_266 : decode cL_plays 266 = .ok (.aload_n 3, 1) := by decide +kernel
theorem dL_plays_267 : decode cL_plays 267 = .ok (.iconst 1, 1) := by decide +kernel
theorem dL_plays_268 : decode cL_plays 268 = .ok (.iaload, 1) := by decide +kernel
theorem dL_plays_269 : decode cL_plays 269 = .ok (.iconst (-1), 1) := by decide +kernel
theorem dL_plays_270 : decode cL_plays 270 = .ok (.iload 9, 2) := by decide +kernel
theorem dL_plays_272 : decode cL_plays 272 = .ok (.invokestatic 135, 3) := by decide +kernel
theorem dL_plays_275 : decode cL_plays 275 = .ok (.ldc 18, 2) := by decide +kernel
theorem dL_plays_277 : decode cL_plays 277 = .ok (.if_icmp .ne 7, 3) := by decide +kernel
theorem dL_plays_280 : decode cL_plays 280 = .ok (.iconst 1, 1) := by decide +kernel
theorem dL_plays_281 : decode cL_plays 281 = .ok (.goto 4, 3) := by decide +kernel
theorem dL_plays_284 : decode cL_plays 284 = .ok (.iconst 0, 1) := by decide +kernel
theorem dL_plays_285 : decode cL_plays 285 = .ok (.istore 14, 2) := by decide +kernel
theorem dL_plays_287 : decode cL_plays 287 = .ok (.iload 14, 2) := by decide +kernel
theorem dL_plays_289 : decode cL_plays 289 = .ok (.ifCond .eq 11, 3) := by decide +kernel
theorem dL_plays_292 : decode cL_plays 292 = .ok (.iload 13, 2) := by decide +kernel
theorem dL_plays_294 : decode cL_plays 294 = .ok (.sipush (-1000), 3) := by decide +kernel
theorem dL_plays_297 : decode cL_plays 297 = .ok (.if_icmp .ge 6, 3) := by decide +kernel
theorem dL_plays_300 : decode cL_plays 300 = .ok (.iload 14, 2) := by decide +kernel
theorem dL_plays_302 : decode cL_plays 302 = .ok (.ireturn, 1) := by decide +kernel
theorem dL_plays_303 : decode cL_plays 303 = .ok (.iload 13, 2) := by decide +kernel
theorem dL_plays_305 : decode cL_plays 305 = .ok (.ifCond .le 8, 3) := by decide +kernel
theorem dL_plays_308 : decode cL_plays 308 = .ok (.iload 6, 2) := by decide +kernel
theorem dL_plays_310 : decode cL_plays 310 = .ok (.goto 5, 3) := by decide +kernel
theorem dL_plays_313 : decode cL_plays 313 = .ok (.iload 7, 2) := by decide +kernel
theorem dL_plays_315 : decode cL_plays 315 = .ok (.istore 15, 2) := by decide +kernel
theorem dL_plays_317 : decode cL_plays 317 = .ok (.iconst 0, 1) := by decide +kernel
theorem dL_plays_318 : decode cL_plays 318 = .ok (.istore 16, 2) := by decide +kernel
theorem dL_plays_320 : decode cL_plays 320 = .ok (.iload 16, 2) := by decide +kernel
theorem dL_plays_322 : decode cL_plays 322 = .ok (.bipush 16, 2) := by decide +kernel
theorem dL_plays_324 : decode cL_plays 324 = .ok (.if_icmp .ge 109, 3) := by decide +kernel
theorem dL_plays_327 : decode cL_plays 327 = .ok (.iconst 0, 1) := by decide +kernel
theorem dL_plays_328 : decode cL_plays 328 = .ok (.istore 17, 2) := by decide +kernel
theorem dL_plays_330 : decode cL_plays 330 = .ok (.iconst 0, 1) := by decide +kernel
theorem dL_plays_331 : decode cL_plays 331 = .ok (.istore 18, 2) := by decide +kernel
theorem dL_plays_333 : decode cL_plays 333 = .ok (.iload 18, 2) := by decide +kernel
theorem dL_plays_335 : decode cL_plays 335 = .ok (.aload_n 3, 1) := by decide +kernel
theorem dL_plays_336 : decode cL_plays 336 = .ok (.iconst 3, 1) := by decide +kernel
theorem dL_plays_337 : decode cL_plays 337 = .ok (.iaload, 1) := by decide +kernel
theorem dL_plays_338 : decode cL_plays 338 = .ok (.if_icmp .ge 43, 3) := by decide +kernel
theorem dL_plays_341 : decode cL_plays 341 = .ok (.iload 13, 2) := by decide +kernel
theorem dL_plays_343 : decode cL_plays 343 = .ok (.ifCond .eq 38, 3) := by decide +kernel
theorem dL_plays_346 : decode cL_plays 346 = .ok (.aload_n 0, 1) := by decide +kernel
theorem dL_plays_347 : decode cL_plays 347 = .ok (.aload_n 0, 1) := by decide +kernel
theorem dL_plays_348 : decode cL_plays 348 = .ok (.iload 15, 2) := by decide +kernel
theorem dL_plays_350 : decode cL_plays 350 = .ok (.iconst 0, 1) := by decide +kernel
theorem dL_plays_351 : decode cL_plays 351 = .ok (.iload 18, 2) := by decide +kernel
theorem dL_plays_353 : decode cL_plays 353 = .ok (.invokestatic 108, 3) := by decide +kernel
theorem dL_plays_356 : decode cL_plays 356 = .ok (.invokestatic 90, 3) := by decide +kernel
theorem dL_plays_359 : decode cL_plays 359 = .ok (.bipush 100, 2) := by decide +kernel
theorem dL_plays_361 : decode cL_plays 361 = .ok (.idiv, 1) := by decide +kernel
theorem dL_plays_362 : decode cL_plays 362 = .ok (.iload 16, 2) := by decide +kernel
theorem dL_plays_364 : decode cL_plays 364 = .ok (.if_icmp .ne 7, 3) := by decide +kernel
theorem dL_plays_367 : decode cL_plays 367 = .ok (.iconst 1, 1) := by decide +kernel
theorem dL_plays_368 : decode cL_plays 368 = .ok (.goto 5, 3) := by decide +kernel
theorem dL_plays_371 : decode cL_plays 371 = .ok (.iload 17, 2) := by decide +kernel
theorem dL_plays_373 : decode cL_plays 373 = .ok (.istore 17, 2) := by decide +kernel
theorem dL_plays_375 : decode cL_plays 375 = .ok (.iinc 18 1, 3) := by decide +kernel
theorem dL_plays_378 : decode cL_plays 378 = .ok (.goto (-45), 3) := by decide +kernel
theorem dL_plays_381 : decode cL_plays 381 = .ok (.iload 14, 2) := by decide +kernel
theorem dL_plays_383 : decode cL_plays 383 = .ok (.ifCond .eq 41, 3) := by decide +kernel
theorem dL_plays_386 : decode cL_plays 386 = .ok (.aload_n 0, 1) := by decide +kernel
theorem dL_plays_387 : decode cL_plays 387 = .ok (.iload 16, 2) := by decide +kernel
theorem dL_plays_389 : decode cL_plays 389 = .ok (.invokestatic 100, 3) := by decide +kernel
theorem dL_plays_392 : decode cL_plays 392 = .ok (.aload 12, 2) := by decide +kernel
theorem dL_plays_394 : decode cL_plays 394 = .ok (.iload 16, 2) := by decide +kernel
theorem dL_plays_396 : decode cL_plays 396 = .ok (.iaload, 1) := by decide +kernel
theorem dL_plays_397 : decode cL_plays 397 = .ok (.iload 17, 2) := by decide +kernel
theorem dL_plays_399 : decode cL_plays 399 = .ok (.iadd, 1) := by decide +kernel
theorem dL_plays_400 : decode cL_plays 400 = .ok (.if_icmp .ne 24, 3) := by decide +kernel
theorem dL_plays_403 : decode cL_plays 403 = .ok (.aload_n 1, 1) := by decide +kernel
theorem dL_plays_404 : decode cL_plays 404 = .ok (.iload 16, 2) := by decide +kernel
theorem dL_plays_406 : decode cL_plays 406 = .ok (.invokestatic 100, 3) := by decide +kernel
theorem dL_plays_409 : decode cL_plays 409 = .ok (.aload 12, 2) := by decide +kernel
theorem dL_plays_411 : decode cL_plays 411 = .ok (.iload 16, 2) := by decide +kernel
theorem dL_plays_413 : decode cL_plays 413 = .ok (.iaload, 1) := by decide +kernel
theorem dL_plays_414 : decode cL_plays 414 = .ok (.iload 17, 2) := by decide +kernel
theorem dL_plays_416 : decode cL_plays 416 = .ok (.iadd, 1) := by decide +kernel
theorem dL_plays_417 : decode cL_plays 417 = .ok (.if_icmp .ne 7, 3) := by decide +kernel
theorem dL_plays_420 : decode cL_plays 420 = .ok (.iconst 1, 1) := by decide +kernel
theorem dL_plays_421 : decode cL_plays 421 = .ok (.goto 4, 3) := by decide +kernel
theorem dL_plays_424 : decode cL_plays 424 = .ok (.iconst 0, 1) := by decide +kernel
theorem dL_plays_425 : decode cL_plays 425 = .ok (.istore 14, 2) := by decide +kernel
theorem dL_plays_427 : decode cL_plays 427 = .ok (.iinc 16 1, 3) := by decide +kernel
theorem dL_plays_430 : decode cL_plays 430 = .ok (.goto (-110), 3) := by decide +kernel
theorem dL_plays_433 : decode cL_plays 433 = .ok (.iload 14, 2) := by decide +kernel
theorem dL_plays_435 : decode cL_plays 435 = .ok (.ireturn, 1) := by decide +kernel
