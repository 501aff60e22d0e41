set_option maxRecDepth 20000 in
theorem ggL_cards_L_printOf : GoodIn wsL_cards wsL_printOf := goodIn_ca (goodIn_r _ [6, 7, 2, 8, 9, 10, 11, 12, 13, 14, 15, 16, 17, 18, 19, 20, 21, 22, 73, 74, 75, 76, 77, 78, 79, 80, 81, 82, 83] (by decide +kernel) (by decide +kernel)) (goodIn_sub (fun _ h => List.mem_cons_of_mem _ (List.mem_append_right _ h)) (by decide +kernel))
set_option maxRecDepth 20000 in
theorem gL_cards_L_printOf : GoodIn wsL_cards (va_wsS RL 90 yL_printOf wsL_printOf) := goodIn_app (goodIn_of _ (by decide +kernel)) ggL_cards_L_printOf
set_option maxRecDepth 20000 in
theorem ggL_cards_L_collectorOf : GoodIn wsL_cards wsL_collectorOf := goodIn_ca (goodIn_r _ [25, 7, 2, 26, 27, 28, 11, 29, 13, 30, 16, 17, 18, 19, 20, 21, 22, 73, 74, 75, 76, 77, 78, 79, 80, 81, 82, 83] (by decide +kernel) (by decide +kernel)) (goodIn_sub (fun _ h => List.mem_cons_of_mem _ (List.mem_append_right _ h)) (by decide +kernel))
set_option maxRecDepth 20000 in
theorem gL_cards_L_collectorOf : GoodIn wsL_cards (va_wsS RL 95 yL_collectorOf wsL_collectorOf) := goodIn_app (goodIn_of _ (by decide +kernel)) ggL_cards_L_collectorOf
set_option maxRecDepth 20000 in
theorem ggL_cards_L_has : GoodIn wsL_cards wsL_has := goodIn_ca (goodIn_r _ [33, 7, 2, 34, 35, 36, 11, 37, 13, 38, 39, 40, 20, 21, 41, 42, 43, 44, 45, 46, 47, 48, 49, 50, 51, 73, 74, 75, 76, 77, 78, 79, 80, 81, 82, 83] (by decide +kernel) (by decide +kernel)) (goodIn_sub (fun _ h => List.mem_cons_of_mem _ (List.mem_append_right _ h)) (by decide +kernel))
set_option maxRecDepth 20000 in
theorem gL_cards_L_has : GoodIn wsL_cards (va_wsS RL 97 yL_has wsL_has) := goodIn_app (goodIn_of _ (by decide +kernel)) ggL_cards_L_has
set_option maxRecDepth 20000 in
theorem ggL_cards_L_wins : GoodIn wsL_cards wsL_wins := goodIn_ca (goodIn_r _ [54, 7, 2, 55, 56, 57, 11, 58, 59, 60, 41, 42, 43, 20, 21, 73, 74, 75, 76, 77, 78, 79, 84, 85, 86, 87, 88] (by decide +kernel) (by decide +kernel)) (goodIn_sub (fun _ h => List.mem_cons_of_mem _ (List.mem_append_right _ h)) (by decide +kernel))
set_option maxRecDepth 20000 in
theorem gL_cards_L_wins : GoodIn wsL_cards (va_wsS RL 100 yL_wins wsL_wins) := goodIn_app (goodIn_of _ (by decide +kernel)) ggL_cards_L_wins
set_option maxRecDepth 20000 in
theorem ggL_cards_L_price : GoodIn wsL_cards wsL_price := goodIn_ca (goodIn_r _ [63, 7, 2, 64, 65, 66, 11, 67, 59, 68, 60, 41, 42, 43, 20, 21, 73, 74, 75, 76, 77, 78, 79, 84, 85, 86, 87, 88] (by decide +kernel) (by decide +kernel)) (goodIn_sub (fun _ h => List.mem_cons_of_mem _ (List.mem_append_right _ h)) (by decide +kernel))
set_option maxRecDepth 20000 in
theorem gL_cards_L_price : GoodIn wsL_cards (va_wsS RL 102 yL_price wsL_price) := goodIn_app (goodIn_of _ (by decide +kernel)) ggL_cards_L_price
set_option maxRecDepth 20000 in
theorem ggL_cards_X6_cards : GoodIn wsL_cards wsX6_cards := goodIn_r _ [72, 13, 22, 73, 74, 75, 76, 77, 78, 79, 80, 81, 82, 83] (by decide +kernel) (by decide +kernel)
set_option maxRecDepth 20000 in
theorem gL_cards_X6_cards : GoodIn wsL_cards (wsV RL 104 RX6 yX6_cards wsX6_cards) := goodIn_app (goodIn_of _ (by decide +kernel)) ggL_cards_X6_cards
theorem dL_cards_0 : decode cL_cards 0 = .ok (.bipush 16, 2) := by decide +kernel
theorem dL_cards_2 : decode cL_cards 2 = .ok (.newarray .int, 2) := by decide +kernel
theorem dL_cards_4 : decode cL_cards 4 = .ok (.astore_n 3, 1) := by decide +kernel
theorem dL_cards_5 : decode cL_cards 5 = .ok (.iconst 0, 1) := by decide +kernel
theorem dL_cards_6 : decode cL_cards 6 = .ok (.istore 4, 2) := by decide +kernel
theorem dL_cards_8 : decode cL_cards 8 = .ok (.iload 4, 2) := by decide +kernel
theorem dL_cards_10 : decode cL_cards 10 = .ok (.aload_n 2, 1) := by decide +kernel
theorem dL_cards_11 : decode cL_cards 11 = .ok (.iconst 0, 1) := by decide +kernel
theorem dL_cards_12 : decode cL_cards 12 = .ok (.iaload, 1) := by decide +kernel
theorem dL_cards_13 : decode cL_cards 13 = .ok (.if_icmp .ge 79, 3) := by decide +kernel
theorem dL_cards_16 : decode cL_cards 16 = .ok (.aload_n 0, 1) := by decide +kernel
theorem dL_cards_17 : decode cL_cards 17 = .ok (.iload 4, 2) := by decide +kernel
theorem dL_cards_19 : decode cL_cards 19 = .ok (.invokestatic 90, 3) := by decide +kernel
theorem dL_cards_22 : decode cL_cards 22 = .ok (.bipush 100, 2) := by decide +kernel
theorem dL_cards_24 : decode cL_cards 24 = .ok (.idiv, 1) := by decide +kernel
theorem dL_cards_25 : decode cL_cards 25 = .ok (.istore 5, 2) := by decide +kernel
theorem dL_cards_27 : decode cL_cards 27 = .ok (.iload 5, 2) := by decide +kernel
theorem dL_cards_29 : decode cL_cards 29 = .ok (.ifCond .lt 29, 3) := by decide +kernel
theorem dL_cards_32 : decode cL_cards 32 = .ok (.iload 5, 2) := by decide +kernel
theorem dL_cards_34 : decode cL_cards 34 = .ok (.bipush 15, 2) := by decide +kernel
theorem dL_cards_36 : decode cL_cards 36 = .ok (.if_icmp .gt 22, 3) := by decide +kernel
theorem dL_cards_39 : decode cL_cards 39 = .ok (.aload_n 0, 1) := by decide +kernel
theorem dL_cards_40 : decode cL_cards 40 = .ok (.iload 4, 2) := by decide +kernel
theorem dL_cards_42 : decode cL_cards 42 = .ok (.invokestatic 95, 3) := by decide +kernel
theorem dL_cards_45 : decode cL_cards 45 = .ok (.ifCond .lt 13, 3) := by decide +kernel
theorem dL_cards_48 : decode cL_cards 48 = .ok (.aload_n 0, 1) := by decide +kernel
theorem dL_cards_49 : decode cL_cards 49 = .ok (.iload 4, 2) := by decide +kernel
theorem dL_cards_51 : decode cL_cards 51 = .ok (.invokestatic 95, 3) := by decide +kernel
theorem dL_cards_54 : decode cL_cards 54 = .ok (.iconst 5, 1) := by decide +kernel
theorem dL_cards_55 : decode cL_cards 55 = .ok (.if_icmp .le 5, 3) := by decide +kernel
theorem dL_cards_58 : decode cL_cards 58 = .ok (.iconst 0, 1) := by decide +kernel
theorem dL_cards_59 : decode cL_cards 59 = .ok (.ireturn, 1) := by decide +kernel
theorem dL_cards_60 : decode cL_cards 60 = .ok (.aload_n 3, 1) := by decide +kernel
theorem dL_cards_61 : decode cL_cards 61 = .ok (.iload 5, 2) := by decide +kernel
theorem dL_cards_63 : decode cL_cards 63 = .ok (.dup2, 1) := by decide +kernel
theorem dL_cards_64 : decode cL_cards 64 = .ok (.iaload, 1) := by decide +kernel
theorem dL_cards_65 : decode cL_cards 65 = .ok (.iconst 1, 1) := by decide +kernel
theorem dL_cards_66 : decode cL_cards 66 = .ok (.iadd, 1) := by decide +kernel
theorem dL_cards_67 : decode cL_cards 67 = .ok (.iastore, 1) := by decide +kernel
theorem dL_cards_68 : decode cL_cards 68 = .ok (.aload_n 0, 1) := by decide +kernel
theorem dL_cards_69 : decode cL_cards 69 = .ok (.iload 4, 2) := by decide +kernel
theorem dL_cards_71 : decode cL_cards 71 = .ok (.invokestatic 90, 3) := by decide +kernel
theorem dL_cards_74 : decode cL_cards 74 = .ok (.bipush 100, 2) := by decide +kernel
theorem dL_cards_76 : decode cL_cards 76 = .ok (.irem, 1) := by decide +kernel
theorem dL_cards_77 : decode cL_cards 77 = .ok (.aload_n 3, 1) := by decide +kernel
theorem dL_cards_78 : decode cL_cards 78 = .ok (.iload 5, 2) := by decide +kernel
theorem dL_cards_80 : decode cL_cards 80 = .ok (.iaload, 1) := by decide +kernel
theorem dL_cards_81 : decode cL_cards 81 = .ok (.if_icmp .eq 5, 3) := by decide +kernel
theorem dL_cards_84 : decode cL_cards 84 = .ok (.iconst 0, 1) := by decide +kernel
theorem dL_cards_85 : decode cL_cards 85 = .ok (.ireturn, 1) := by decide +kernel
theorem dL_cards_86 : decode cL_cards 86 = .ok (.iinc 4 1, 3) := by decide +kernel
theorem dL_cards_89 : decode cL_cards 89 = .ok (.goto (-81), 3) := by decide +kernel
theorem dL_cards_92 : decode cL_cards 92 = .ok (.iconst 0, 1) := by decide +kernel
theorem dL_cards_93 : decode cL_cards 93 = .ok (.istore 4, 2) := by decide +kernel
theorem dL_cards_95 : decode cL_cards 95 = .ok (.iload 4, 2) := by decide +kernel
theorem dL_cards_97 : decode cL_cards 97 = .ok (.bipush 16, 2) := by decide +kernel
theorem dL_cards_99 : decode cL_cards 99 = .ok (.if_icmp .ge 112, 3) := by decide +kernel
theorem dL_cards_102 : decode cL_cards 102 = .ok (.iconst 0, 1) := by decide +kernel
theorem dL_cards_103 : decode cL_cards 103 = .ok (.istore 5, 2) := by decide +kernel
theorem dL_cards_105 : decode cL_cards 105 = .ok (.iconst 0, 1) := by decide +kernel
theorem dL_cards_106 : decode cL_cards 106 = .ok (.istore 6, 2) := by decide +kernel
theorem dL_cards_108 : decode cL_cards 108 = .ok (.iload 6, 2) := by decide +kernel
theorem dL_cards_110 : decode cL_cards 110 = .ok (.bipush 6, 2) := by decide +kernel
theorem dL_cards_112 : decode cL_cards 112 = .ok (.if_icmp .ge 22, 3) := by decide +kernel
theorem dL_cards_115 : decode cL_cards 115 = .ok (.iload 5, 2) := by decide +kernel
theorem dL_cards_117 : decode cL_cards 117 = .ok (.aload_n 0, 1) := by decide +kernel
theorem dL_cards_118 : decode cL_cards 118 = .ok (.iload 6, 2) := by decide +kernel
theorem dL_cards_120 : decode cL_cards 120 = .ok (.iload 4, 2) := by decide +kernel
theorem dL_cards_122 : decode cL_cards 122 = .ok (.invokestatic 97, 3) := by decide +kernel
theorem dL_cards_125 : decode cL_cards 125 = .ok (.iadd, 1) := by decide +kernel
theorem dL_cards_126 : decode cL_cards 126 = .ok (.istore 5, 2) := by decide +kernel
theorem dL_cards_128 : decode cL_cards 128 = .ok (.iinc 6 1, 3) := by decide +kernel
theorem dL_cards_131 : decode cL_cards 131 = .ok (.goto (-23), 3) := by decide +kernel
theorem dL_cards_134 : decode cL_cards 134 = .ok (.aload_n 1, 1) := by decide +kernel
theorem dL_cards_135 : decode cL_cards 135 = .ok (.iload 4, 2) := by decide +kernel
theorem dL_cards_137 : decode cL_cards 137 = .ok (.iaload, 1) := by decide +kernel
theorem dL_cards_138 : decode cL_cards 138 = .ok (.ifCond .ne 7, 3) := by decide +kernel
theorem dL_cards_141 : decode cL_cards 141 = .ok (.iconst 0, 1) := by decide +kernel
theorem dL_cards_142 : decode cL_cards 142 = .ok (.goto 19, 3) := by decide +kernel
theorem dL_cards_145 : decode cL_cards 145 = .ok (.bipush 100, 2) := by decide +kernel
theorem dL_cards_147 : decode cL_cards 147 = .ok (.aload_n 0, 1) := by decide +kernel
theorem dL_cards_148 : decode cL_cards 148 = .ok (.iload 4, 2) := by decide +kernel
theorem dL_cards_150 : decode cL_cards 150 = .ok (.invokestatic 100, 3) := by decide +kernel
theorem dL_cards_153 : decode cL_cards 153 = .ok (.iconst 1, 1) := by decide +kernel
theorem dL_cards_154 : decode cL_cards 154 = .ok (.iadd, 1) := by decide +kernel
theorem dL_cards_155 : decode cL_cards 155 = .ok (.imul, 1) := by decide +kernel
theorem dL_cards_156 : decode cL_cards 156 = .ok (.aload_n 1, 1) := by decide +kernel
theorem dL_cards_157 : decode cL_cards 157 = .ok (.iload 4, 2) := by decide +kernel
theorem dL_cards_159 : decode cL_cards 159 = .ok (.iaload, 1) := by decide +kernel
theorem dL_cards_160 : decode cL_cards 160 = .ok (.idiv, 1) := by decide +kernel
theorem dL_cards_161 : decode cL_cards 161 = .ok (.istore 6, 2) := by decide +kernel
theorem dL_cards_163 : decode cL_cards 163 = .ok (.iload 5, 2) := by decide +kernel
theorem dL_cards_165 : decode cL_cards 165 = .ok (.aload_n 1, 1) := by decide +kernel
theorem dL_cards_166 : decode cL_cards 166 = .ok (.iload 4, 2) := by decide +kernel
theorem dL_cards_168 : decode cL_cards 168 = .ok (.iaload, 1) := by decide +kernel
theorem dL_cards_169 : decode cL_cards 169 = .ok (.if_icmp .ne 34, 3) := by decide +kernel
theorem dL_cards_172 : decode cL_cards 172 = .ok (.aload_n 3, 1) := by decide +kernel
theorem dL_cards_173 : decode cL_cards 173 = .ok (.iload 4, 2) := by decide +kernel
theorem dL_cards_175 : decode cL_cards 175 = .ok (.iaload, 1) := by decide +kernel
theorem dL_cards_176 : decode cL_cards 176 = .ok (.aload_n 1, 1) := by decide +kernel
theorem dL_cards_177 : decode cL_cards 177 = .ok (.iload 4, 2) := by decide +kernel
theorem dL_cards_179 : decode cL_cards 179 = .ok (.iaload, 1) := by decide +kernel
theorem dL_cards_180 : decode cL_cards 180 = .ok (.if_icmp .ne 23, 3) := by decide +kernel
theorem dL_cards_183 : decode cL_cards 183 = .ok (.aload_n 0, 1) := by decide +kernel
theorem dL_cards_184 : decode cL_cards 184 = .ok (.iload 4, 2) := by decide +kernel
theorem dL_cards_186 : decode cL_cards 186 = .ok (.invokestatic 102, 3) := by decide +kernel
theorem dL_cards_189 : decode cL_cards 189 = .ok (.iload 6, 2) := by decide +kernel
theorem dL_cards_191 : decode cL_cards 191 = .ok (.if_icmp .ne 12, 3) := by decide +kernel
theorem dL_cards_194 : decode cL_cards 194 = .ok (.aload_n 0, 1) := by decide +kernel
theorem dL_cards_195 : decode cL_cards 195 = .ok (.iload 4, 2) := by decide +kernel
theorem dL_cards_197 : decode cL_cards 197 = .ok (.invokestatic 100, 3) := by decide +kernel
theorem dL_cards_200 : decode cL_cards 200 = .ok (.ifCond .ge 5, 3) := by decide +kernel
theorem dL_cards_203 : decode cL_cards 203 = .ok (.iconst 0, 1) := by decide +kernel
theorem dL_cards_204 : decode cL_cards 204 = .ok (.ireturn, 1) := by decide +kernel
theorem dL_cards_205 : decode cL_cards 205 = .ok (.iinc 4 1, 3) := by decide +kernel
theorem dL_cards_208 : decode cL_cards 208 = .ok (.goto (-113), 3) := by decide +kernel
theorem dL_cards_211 : decode cL_cards 211 = .ok (.aload_n 0, 1) := by decide +kernel
theorem dL_cards_212 : decode cL_cards 212 = .ok (.invokevirtual 104, 3) := by decide +kernel
theorem dL_cards_215 : decode cL_cards 215 = .ok (.aload_n 2, 1) := by decide +kernel
theorem dL_cards_216 : decode cL_cards 216 = .ok (.iconst 0, 1) := by decide +kernel
theorem dL_cards_217 : decode cL_cards 217 = .ok (.iaload, 1) := by decide +kernel
theorem dL_cards_218 : decode cL_cards 218 = .ok (.if_icmp .ne 74, 3) := by decide +kernel
theorem dL_cards_221 : decode cL_cards 221 = .ok (.aload_n 0, 1) := by decide +kernel
theorem dL_cards_222 : decode cL_cards 222 = .ok (.aload_n 2, 1) := by decide +kernel
theorem dL_cards_223 : decode cL_cards 223 = .ok (.iconst 0, 1) := by decide +kernel
theorem dL_cards_224 : decode cL_cards 224 = .ok (.iaload, 1) := by decide +kernel
theorem dL_cards_225 : decode cL_cards 225 = .ok (.invokestatic 90, 3) := by decide +kernel
theorem dL_cards_228 : decode cL_cards 228 = .ok (.ldc 18, 2) := by decide +kernel
theorem dL_cards_230 : decode cL_cards 230 = .ok (.if_icmp .ne 62, 3) := by decide +kernel
theorem dL_cards_233 : decode cL_cards 233 = .ok (.aload_n 0, 1) := by decide +kernel
theorem dL_cards_234 : decode cL_cards 234 = .ok (.iconst (-1), 1) := by decide +kernel
theorem dL_cards_235 : decode cL_cards 235 = .ok (.invokestatic 95, 3) := by decide +kernel
theorem dL_cards_238 : decode cL_cards 238 = .ok (.ldc 18, 2) := by decide +kernel
theorem dL_cards_240 : decode cL_cards 240 = .ok (.if_icmp .ne 52, 3) := by decide +kernel
theorem dL_cards_243 : decode cL_cards 243 = .ok (.aload_n 0, 1) := by decide +kernel
theorem dL_cards_244 : decode cL_cards 244 = .ok (.bipush 6, 2) := by decide +kernel
theorem dL_cards_246 : decode cL_cards 246 = .ok (.iconst 0, 1) := by decide +kernel
theorem dL_cards_247 : decode cL_cards 247 = .ok (.invokestatic 97, 3) := by decide +kernel
theorem dL_cards_250 : decode cL_cards 250 = .ok (.ldc 18, 2) := by decide +kernel
theorem dL_cards_252 : decode cL_cards 252 = .ok (.if_icmp .ne 40, 3) := by decide +kernel
theorem dL_cards_255 : decode cL_cards 255 = .ok (.aload_n 0, 1) := by decide +kernel
theorem dL_cards_256 : decode cL_cards 256 = .ok (.iconst 0, 1) := by decide +kernel
theorem dL_cards_257 : decode cL_cards 257 = .ok (.bipush 16, 2) := by decide +kernel
theorem dL_cards_259 : decode cL_cards 259 = .ok (.invokestatic 97, 3) := by decide +kernel
theorem dL_cards_262 : decode cL_cards 262 = .ok (.ldc 18, 2) := by decide +kernel
theorem dL_cards_264 : decode cL_cards 264 = .ok (.if_icmp .ne 28, 3) := by decide +kernel
theorem dL_cards_267 : decode cL_cards 267 = .ok (.aload_n 0, 1) := by decide +kernel
theorem dL_cards_268 : decode cL_cards 268 = .ok (.bipush 16, 2) := by decide +kernel
theorem dL_cards_270 : decode cL_cards 270 = .ok (.invokestatic 100, 3) := by decide +kernel
theorem dL_cards_273 : decode cL_cards 273 = .ok (.ldc 18, 2) := by decide +kernel
theorem dL_cards_275 : decode cL_cards 275 = .ok (.if_icmp .ne 17, 3) := by decide +kernel
theorem dL_cards_278 : decode cL_cards 278 = .ok (.aload_n 0, 1) := by decide +kernel
theorem dL_cards_279 : decode cL_cards 279 = .ok (.iconst (-1), 1) := by decide +kernel
theorem dL_cards_280 : decode cL_cards 280 = .ok (.invokestatic 102, 3) := by decide +kernel
theorem dL_cards_283 : decode cL_cards 283 = .ok (.ldc 18, 2) := by decide +kernel
theorem dL_cards_285 : decode cL_cards 285 = .ok (.if_icmp .ne 7, 3) := by decide +kernel
theorem dL_cards_288 : decode cL_cards 288 = .ok (.iconst 1, 1) := by decide +kernel
theorem dL_cards_289 : decode cL_cards 289 = .ok (.goto 4, 3) := by decide +kernel
theorem dL_cards_292 : decode cL_cards 292 = .ok (.iconst 0, 1) := by decide +kernel
theorem dL_cards_293 : decode cL_cards 293 = .ok (.ireturn, 1) := by decide +kernel
