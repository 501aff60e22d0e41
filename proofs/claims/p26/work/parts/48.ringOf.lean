set_option maxRecDepth 20000 in
theorem ggL_ringOf_L_isOpen : GoodIn wsL_ringOf wsL_isOpen := goodIn_ca (goodIn_r _ [6, 7, 2, 8, 9, 10, 11, 12, 13, 14, 15, 16, 17, 18, 19, 20, 21, 75, 76, 77, 78, 79, 80, 81, 82, 83, 84, 85, 86, 87, 88] (by decide +kernel) (by decide +kernel)) (goodIn_sub (fun _ h => List.mem_cons_of_mem _ (List.mem_append_right _ h)) (by decide +kernel))
set_option maxRecDepth 20000 in
theorem gL_ringOf_L_isOpen : GoodIn wsL_ringOf (va_wsS RL 121 yL_isOpen wsL_isOpen) := goodIn_app (goodIn_of _ (by decide +kernel)) ggL_ringOf_L_isOpen
set_option maxRecDepth 20000 in
theorem ggL_ringOf_L_collectorOf : GoodIn wsL_ringOf wsL_collectorOf := goodIn_ca (goodIn_r _ [24, 7, 2, 25, 26, 27, 11, 28, 29, 30, 31, 32, 33, 34, 19, 20, 35, 75, 76, 77, 78, 79, 80, 81, 89, 90, 91, 92] (by decide +kernel) (by decide +kernel)) (goodIn_sub (fun _ h => List.mem_cons_of_mem _ (List.mem_append_right _ h)) (by decide +kernel))
set_option maxRecDepth 20000 in
theorem gL_ringOf_L_collectorOf : GoodIn wsL_ringOf (va_wsS RL 95 yL_collectorOf wsL_collectorOf) := goodIn_app (goodIn_of _ (by decide +kernel)) ggL_ringOf_L_collectorOf
set_option maxRecDepth 20000 in
theorem ggL_ringOf_L_ring : GoodIn wsL_ringOf wsL_ring := goodIn_ca (goodIn_r _ [38, 7, 2, 39, 40, 41, 11, 42, 19, 20, 13, 43, 44, 45, 46, 47, 48, 49, 50, 51, 52, 53, 54, 55, 56, 57, 58, 59, 60, 61, 62, 63, 64, 65, 75, 76, 77, 78, 79, 80, 81, 82, 83, 84, 85, 86, 87, 88] (by decide +kernel) (by decide +kernel)) (goodIn_sub (fun _ h => List.mem_cons_of_mem _ (List.mem_append_right _ h)) (by decide +kernel))
set_option maxRecDepth 20000 in
theorem gL_ringOf_L_ring : GoodIn wsL_ringOf (va_wsS RL 123 yL_ring wsL_ring) := goodIn_app (goodIn_of _ (by decide +kernel)) ggL_ringOf_L_ring
set_option maxRecDepth 20000 in
theorem ggL_ringOf_L_printOf : GoodIn wsL_ringOf wsL_printOf := goodIn_ca (goodIn_r _ [68, 7, 2, 69, 70, 71, 11, 72, 29, 73, 74, 31, 32, 33, 34, 19, 20, 35, 75, 76, 77, 78, 79, 80, 81, 89, 90, 91, 92] (by decide +kernel) (by decide +kernel)) (goodIn_sub (fun _ h => List.mem_cons_of_mem _ (List.mem_append_right _ h)) (by decide +kernel))
set_option maxRecDepth 20000 in
theorem gL_ringOf_L_printOf : GoodIn wsL_ringOf (va_wsS RL 90 yL_printOf wsL_printOf) := goodIn_app (goodIn_of _ (by decide +kernel)) ggL_ringOf_L_printOf
theorem dL_ringOf_0 : decode cL_ringOf 0 = .ok (.iconst 0, 1) := by decide +kernel
theorem dL_ringOf_1 : decode cL_ringOf 1 = .ok (.istore_n 3, 1) := by decide +kernel
theorem dL_ringOf_2 : decode cL_ringOf 2 = .ok (.iload_n 3, 1) := by decide +kernel
theorem dL_ringOf_3 : decode cL_ringOf 3 = .ok (.aload_n 2, 1) := by decide +kernel
theorem dL_ringOf_4 : decode cL_ringOf 4 = .ok (.iconst 2, 1) := by decide +kernel
theorem dL_ringOf_5 : decode cL_ringOf 5 = .ok (.iaload, 1) := by decide +kernel
theorem dL_ringOf_6 : decode cL_ringOf 6 = .ok (.if_icmp .ge 74, 3) := by decide +kernel
theorem dL_ringOf_9 : decode cL_ringOf 9 = .ok (.aload_n 1, 1) := by decide +kernel
theorem dL_ringOf_10 : decode cL_ringOf 10 = .ok (.iload_n 3, 1) := by decide +kernel
theorem dL_ringOf_11 : decode cL_ringOf 11 = .ok (.iaload, 1) := by decide +kernel
theorem dL_ringOf_12 : decode cL_ringOf 12 = .ok (.ldc 120, 2) := by decide +kernel
theorem dL_ringOf_14 : decode cL_ringOf 14 = .ok (.idiv, 1) := by decide +kernel
theorem dL_ringOf_15 : decode cL_ringOf 15 = .ok (.ifCond .ne 7, 3) := by decide +kernel
theorem dL_ringOf_18 : decode cL_ringOf 18 = .ok (.iconst 1, 1) := by decide +kernel
theorem dL_ringOf_19 : decode cL_ringOf 19 = .ok (.goto 4, 3) := by decide +kernel
theorem dL_ringOf_22 : decode cL_ringOf 22 = .ok (.iconst 0, 1) := by decide +kernel
theorem dL_ringOf_23 : decode cL_ringOf 23 = .ok (.istore 4, 2) := by decide +kernel
theorem dL_ringOf_25 : decode cL_ringOf 25 = .ok (.aload_n 0, 1) := by decide +kernel
theorem dL_ringOf_26 : decode cL_ringOf 26 = .ok (.iload_n 3, 1) := by decide +kernel
theorem dL_ringOf_27 : decode cL_ringOf 27 = .ok (.invokestatic 121, 3) := by decide +kernel
theorem dL_ringOf_30 : decode cL_ringOf 30 = .ok (.iload 4, 2) := by decide +kernel
theorem dL_ringOf_32 : decode cL_ringOf 32 = .ok (.ifCond .eq 7, 3) := by decide +kernel
theorem dL_ringOf_35 : decode cL_ringOf 35 = .ok (.iconst 1, 1) := by decide +kernel
theorem dL_ringOf_36 : decode cL_ringOf 36 = .ok (.goto 4, 3) := by decide +kernel
theorem dL_ringOf_39 : decode cL_ringOf 39 = .ok (.iconst 0, 1) := by decide +kernel
theorem dL_ringOf_40 : decode cL_ringOf 40 = .ok (.if_icmp .ne 32, 3) := by decide +kernel
theorem dL_ringOf_43 : decode cL_ringOf 43 = .ok (.iload 4, 2) := by decide +kernel
theorem dL_ringOf_45 : decode cL_ringOf 45 = .ok (.ifCond .eq 29, 3) := by decide +kernel
theorem dL_ringOf_48 : decode cL_ringOf 48 = .ok (.aload_n 0, 1) := by decide +kernel
theorem dL_ringOf_49 : decode cL_ringOf 49 = .ok (.aload_n 1, 1) := by decide +kernel
theorem dL_ringOf_50 : decode cL_ringOf 50 = .ok (.iload_n 3, 1) := by decide +kernel
theorem dL_ringOf_51 : decode cL_ringOf 51 = .ok (.iaload, 1) := by decide +kernel
theorem dL_ringOf_52 : decode cL_ringOf 52 = .ok (.sipush 128, 3) := by decide +kernel
theorem dL_ringOf_55 : decode cL_ringOf 55 = .ok (.irem, 1) := by decide +kernel
theorem dL_ringOf_56 : decode cL_ringOf 56 = .ok (.invokestatic 95, 3) := by decide +kernel
theorem dL_ringOf_59 : decode cL_ringOf 59 = .ok (.aload_n 1, 1) := by decide +kernel
theorem dL_ringOf_60 : decode cL_ringOf 60 = .ok (.iload_n 3, 1) := by decide +kernel
theorem dL_ringOf_61 : decode cL_ringOf 61 = .ok (.iaload, 1) := by decide +kernel
theorem dL_ringOf_62 : decode cL_ringOf 62 = .ok (.sipush 4096, 3) := by decide +kernel
theorem dL_ringOf_65 : decode cL_ringOf 65 = .ok (.idiv, 1) := by decide +kernel
theorem dL_ringOf_66 : decode cL_ringOf 66 = .ok (.bipush 16, 2) := by decide +kernel
theorem dL_ringOf_68 : decode cL_ringOf 68 = .ok (.irem, 1) := by decide +kernel
theorem dL_ringOf_69 : decode cL_ringOf 69 = .ok (.if_icmp .eq 5, 3) := by decide +kernel
theorem dL_ringOf_72 : decode cL_ringOf 72 = .ok (.iconst (-1), 1) := by decide +kernel
theorem dL_ringOf_73 : decode cL_ringOf 73 = .ok (.ireturn, 1) := by decide +kernel
theorem dL_ringOf_74 : decode cL_ringOf 74 = .ok (.iinc 3 1, 3) := by decide +kernel
theorem dL_ringOf_77 : decode cL_ringOf 77 = .ok (.goto (-75), 3) := by decide +kernel
theorem dL_ringOf_80 : decode cL_ringOf 80 = .ok (.iconst 0, 1) := by decide +kernel
theorem dL_ringOf_81 : decode cL_ringOf 81 = .ok (.istore_n 3, 1) := by decide +kernel
theorem dL_ringOf_82 : decode cL_ringOf 82 = .ok (.iload_n 3, 1) := by decide +kernel
theorem dL_ringOf_83 : decode cL_ringOf 83 = .ok (.iconst 5, 1) := by decide +kernel
theorem dL_ringOf_84 : decode cL_ringOf 84 = .ok (.if_icmp .ge 17, 3) := by decide +kernel
theorem dL_ringOf_87 : decode cL_ringOf 87 = .ok (.aload_n 0, 1) := by decide +kernel
theorem dL_ringOf_88 : decode cL_ringOf 88 = .ok (.iload_n 3, 1) := by decide +kernel
theorem dL_ringOf_89 : decode cL_ringOf 89 = .ok (.invokestatic 123, 3) := by decide +kernel
theorem dL_ringOf_92 : decode cL_ringOf 92 = .ok (.ifCond .lt 9, 3) := by decide +kernel
theorem dL_ringOf_95 : decode cL_ringOf 95 = .ok (.iinc 3 1, 3) := by decide +kernel
theorem dL_ringOf_98 : decode cL_ringOf 98 = .ok (.goto (-16), 3) := by decide +kernel
theorem dL_ringOf_101 : decode cL_ringOf 101 = .ok (.iconst 0, 1) := by decide +kernel
theorem dL_ringOf_102 : decode cL_ringOf 102 = .ok (.istore 4, 2) := by decide +kernel
theorem dL_ringOf_104 : decode cL_ringOf 104 = .ok (.iload 4, 2) := by decide +kernel
theorem dL_ringOf_106 : decode cL_ringOf 106 = .ok (.iload_n 3, 1) := by decide +kernel
theorem dL_ringOf_107 : decode cL_ringOf 107 = .ok (.if_icmp .ge 150, 3) := by decide +kernel
theorem dL_ringOf_110 : decode cL_ringOf 110 = .ok (.aload_n 0, 1) := by decide +kernel
theorem dL_ringOf_111 : decode cL_ringOf 111 = .ok (.iload 4, 2) := by decide +kernel
theorem dL_ringOf_113 : decode cL_ringOf 113 = .ok (.invokestatic 123, 3) := by decide +kernel
theorem dL_ringOf_116 : decode cL_ringOf 116 = .ok (.istore 5, 2) := by decide +kernel
theorem dL_ringOf_118 : decode cL_ringOf 118 = .ok (.aload_n 0, 1) := by decide +kernel
theorem dL_ringOf_119 : decode cL_ringOf 119 = .ok (.iload 4, 2) := by decide +kernel
theorem dL_ringOf_121 : decode cL_ringOf 121 = .ok (.iconst 1, 1) := by decide +kernel
theorem dL_ringOf_122 : decode cL_ringOf 122 = .ok (.iadd, 1) := by decide +kernel
theorem dL_ringOf_123 : decode cL_ringOf 123 = .ok (.iload_n 3, 1) := by decide +kernel
theorem dL_ringOf_124 : decode cL_ringOf 124 = .ok (.if_icmp .ne 7, 3) := by decide +kernel
theorem dL_ringOf_127 : decode cL_ringOf 127 = .ok (.iconst 0, 1) := by decide +kernel
theorem dL_ringOf_128 : decode cL_ringOf 128 = .ok (.goto 7, 3) := by decide +kernel
theorem dL_ringOf_131 : decode cL_ringOf 131 = .ok (.iload 4, 2) := by decide +kernel
theorem dL_ringOf_133 : decode cL_ringOf 133 = .ok (.iconst 1, 1) := by decide +kernel
theorem dL_ringOf_134 : decode cL_ringOf 134 = .ok (.iadd, 1) := by decide +kernel
theorem dL_ringOf_135 : decode cL_ringOf 135 = .ok (.invokestatic 123, 3) := by decide +kernel
theorem dL_ringOf_138 : decode cL_ringOf 138 = .ok (.istore 6, 2) := by decide +kernel
theorem dL_ringOf_140 : decode cL_ringOf 140 = .ok (.iload 5, 2) := by decide +kernel
theorem dL_ringOf_142 : decode cL_ringOf 142 = .ok (.aload_n 2, 1) := by decide +kernel
theorem dL_ringOf_143 : decode cL_ringOf 143 = .ok (.iconst 2, 1) := by decide +kernel
theorem dL_ringOf_144 : decode cL_ringOf 144 = .ok (.iaload, 1) := by decide +kernel
theorem dL_ringOf_145 : decode cL_ringOf 145 = .ok (.if_icmp .ge 57, 3) := by decide +kernel
theorem dL_ringOf_148 : decode cL_ringOf 148 = .ok (.aload_n 0, 1) := by decide +kernel
theorem dL_ringOf_149 : decode cL_ringOf 149 = .ok (.iload 5, 2) := by decide +kernel
theorem dL_ringOf_151 : decode cL_ringOf 151 = .ok (.invokestatic 121, 3) := by decide +kernel
theorem dL_ringOf_154 : decode cL_ringOf 154 = .ok (.iconst 1, 1) := by decide +kernel
theorem dL_ringOf_155 : decode cL_ringOf 155 = .ok (.if_icmp .ne 47, 3) := by decide +kernel
theorem dL_ringOf_158 : decode cL_ringOf 158 = .ok (.iload 4, 2) := by decide +kernel
theorem dL_ringOf_160 : decode cL_ringOf 160 = .ok (.ifCond .le 13, 3) := by decide +kernel
theorem dL_ringOf_163 : decode cL_ringOf 163 = .ok (.iload 5, 2) := by decide +kernel
theorem dL_ringOf_165 : decode cL_ringOf 165 = .ok (.aload_n 0, 1) := by decide +kernel
theorem dL_ringOf_166 : decode cL_ringOf 166 = .ok (.iconst 0, 1) := by decide +kernel
theorem dL_ringOf_167 : decode cL_ringOf 167 = .ok (.invokestatic 123, 3) := by decide +kernel
theorem dL_ringOf_170 : decode cL_ringOf 170 = .ok (.if_icmp .lt 32, 3) := by decide +kernel
theorem dL_ringOf_173 : decode cL_ringOf 173 = .ok (.aload_n 0, 1) := by decide +kernel
theorem dL_ringOf_174 : decode cL_ringOf 174 = .ok (.aload_n 1, 1) := by decide +kernel
theorem dL_ringOf_175 : decode cL_ringOf 175 = .ok (.iload 5, 2) := by decide +kernel
theorem dL_ringOf_177 : decode cL_ringOf 177 = .ok (.iaload, 1) := by decide +kernel
theorem dL_ringOf_178 : decode cL_ringOf 178 = .ok (.sipush 128, 3) := by decide +kernel
theorem dL_ringOf_181 : decode cL_ringOf 181 = .ok (.irem, 1) := by decide +kernel
theorem dL_ringOf_182 : decode cL_ringOf 182 = .ok (.invokestatic 90, 3) := by decide +kernel
theorem dL_ringOf_185 : decode cL_ringOf 185 = .ok (.bipush 100, 2) := by decide +kernel
theorem dL_ringOf_187 : decode cL_ringOf 187 = .ok (.idiv, 1) := by decide +kernel
theorem dL_ringOf_188 : decode cL_ringOf 188 = .ok (.aload_n 1, 1) := by decide +kernel
theorem dL_ringOf_189 : decode cL_ringOf 189 = .ok (.iload 6, 2) := by decide +kernel
theorem dL_ringOf_191 : decode cL_ringOf 191 = .ok (.iaload, 1) := by decide +kernel
theorem dL_ringOf_192 : decode cL_ringOf 192 = .ok (.sipush 128, 3) := by decide +kernel
theorem dL_ringOf_195 : decode cL_ringOf 195 = .ok (.idiv, 1) := by decide +kernel
theorem dL_ringOf_196 : decode cL_ringOf 196 = .ok (.bipush 32, 2) := by decide +kernel
theorem dL_ringOf_198 : decode cL_ringOf 198 = .ok (.irem, 1) := by decide +kernel
theorem dL_ringOf_199 : decode cL_ringOf 199 = .ok (.if_icmp .eq 5, 3) := by decide +kernel
theorem dL_ringOf_202 : decode cL_ringOf 202 = .ok (.iconst (-1), 1) := by decide +kernel
theorem dL_ringOf_203 : decode cL_ringOf 203 = .ok (.ireturn, 1) := by decide +kernel
theorem dL_ringOf_204 : decode cL_ringOf 204 = .ok (.iconst 0, 1) := by decide +kernel
theorem dL_ringOf_205 : decode cL_ringOf 205 = .ok (.istore 7, 2) := by decide +kernel
theorem dL_ringOf_207 : decode cL_ringOf 207 = .ok (.iload 7, 2) := by decide +kernel
theorem dL_ringOf_209 : decode cL_ringOf 209 = .ok (.iload 4, 2) := by decide +kernel
theorem dL_ringOf_211 : decode cL_ringOf 211 = .ok (.if_icmp .ge 40, 3) := by decide +kernel
theorem dL_ringOf_214 : decode cL_ringOf 214 = .ok (.aload_n 1, 1) := by decide +kernel
theorem dL_ringOf_215 : decode cL_ringOf 215 = .ok (.iload 5, 2) := by decide +kernel
theorem dL_ringOf_217 : decode cL_ringOf 217 = .ok (.iaload, 1) := by decide +kernel
theorem dL_ringOf_218 : decode cL_ringOf 218 = .ok (.sipush 4096, 3) := by decide +kernel
theorem dL_ringOf_221 : decode cL_ringOf 221 = .ok (.idiv, 1) := by decide +kernel
theorem dL_ringOf_222 : decode cL_ringOf 222 = .ok (.bipush 16, 2) := by decide +kernel
theorem dL_ringOf_224 : decode cL_ringOf 224 = .ok (.irem, 1) := by decide +kernel
theorem dL_ringOf_225 : decode cL_ringOf 225 = .ok (.aload_n 1, 1) := by decide +kernel
theorem dL_ringOf_226 : decode cL_ringOf 226 = .ok (.aload_n 0, 1) := by decide +kernel
theorem dL_ringOf_227 : decode cL_ringOf 227 = .ok (.iload 7, 2) := by decide +kernel
theorem dL_ringOf_229 : decode cL_ringOf 229 = .ok (.invokestatic 123, 3) := by decide +kernel
theorem dL_ringOf_232 : decode cL_ringOf 232 = .ok (.iaload, 1) := by decide +kernel
theorem dL_ringOf_233 : decode cL_ringOf 233 = .ok (.sipush 4096, 3) := by decide +kernel
theorem dL_ringOf_236 : decode cL_ringOf 236 = .ok (.idiv, 1) := by decide +kernel
theorem dL_ringOf_237 : decode cL_ringOf 237 = .ok (.bipush 16, 2) := by decide +kernel
theorem dL_ringOf_239 : decode cL_ringOf 239 = .ok (.irem, 1) := by decide +kernel
theorem dL_ringOf_240 : decode cL_ringOf 240 = .ok (.if_icmp .ne 5, 3) := by decide +kernel
theorem dL_ringOf_243 : decode cL_ringOf 243 = .ok (.iconst (-1), 1) := by decide +kernel
theorem dL_ringOf_244 : decode cL_ringOf 244 = .ok (.ireturn, 1) := by decide +kernel
theorem dL_ringOf_245 : decode cL_ringOf 245 = .ok (.iinc 7 1, 3) := by decide +kernel
theorem dL_ringOf_248 : decode cL_ringOf 248 = .ok (.goto (-41), 3) := by decide +kernel
theorem dL_ringOf_251 : decode cL_ringOf 251 = .ok (.iinc 4 1, 3) := by decide +kernel
theorem dL_ringOf_254 : decode cL_ringOf 254 = .ok (.goto (-150), 3) := by decide +kernel
theorem dL_ringOf_257 : decode cL_ringOf 257 = .ok (.iconst 0, 1) := by decide +kernel
theorem dL_ringOf_258 : decode cL_ringOf 258 = .ok (.istore 4, 2) := by decide +kernel
theorem dL_ringOf_260 : decode cL_ringOf 260 = .ok (.iload 4, 2) := by decide +kernel
theorem dL_ringOf_262 : decode cL_ringOf 262 = .ok (.aload_n 2, 1) := by decide +kernel
theorem dL_ringOf_263 : decode cL_ringOf 263 = .ok (.iconst 2, 1) := by decide +kernel
theorem dL_ringOf_264 : decode cL_ringOf 264 = .ok (.iaload, 1) := by decide +kernel
theorem dL_ringOf_265 : decode cL_ringOf 265 = .ok (.if_icmp .ge 147, 3) := by decide +kernel
theorem dL_ringOf_268 : decode cL_ringOf 268 = .ok (.iload_n 3, 1) := by decide +kernel
theorem dL_ringOf_269 : decode cL_ringOf 269 = .ok (.iconst 2, 1) := by decide +kernel
theorem dL_ringOf_270 : decode cL_ringOf 270 = .ok (.if_icmp .eq 142, 3) := by decide +kernel
theorem dL_ringOf_273 : decode cL_ringOf 273 = .ok (.iconst 0, 1) := by decide +kernel
theorem dL_ringOf_274 : decode cL_ringOf 274 = .ok (.istore 5, 2) := by decide +kernel
theorem dL_ringOf_276 : decode cL_ringOf 276 = .ok (.iload 5, 2) := by decide +kernel
theorem dL_ringOf_278 : decode cL_ringOf 278 = .ok (.iload 4, 2) := by decide +kernel
theorem dL_ringOf_280 : decode cL_ringOf 280 = .ok (.if_icmp .ge 126, 3) := by decide +kernel
theorem dL_ringOf_283 : decode cL_ringOf 283 = .ok (.aload_n 1, 1) := by decide +kernel
theorem dL_ringOf_284 : decode cL_ringOf 284 = .ok (.iload 4, 2) := by decide +kernel
theorem dL_ringOf_286 : decode cL_ringOf 286 = .ok (.iaload, 1) := by decide +kernel
theorem dL_ringOf_287 : decode cL_ringOf 287 = .ok (.ldc 120, 2) := by decide +kernel
theorem dL_ringOf_289 : decode cL_ringOf 289 = .ok (.idiv, 1) := by decide +kernel
theorem dL_ringOf_290 : decode cL_ringOf 290 = .ok (.ifCond .ne 42, 3) := by decide +kernel
theorem dL_ringOf_293 : decode cL_ringOf 293 = .ok (.aload_n 1, 1) := by decide +kernel
theorem dL_ringOf_294 : decode cL_ringOf 294 = .ok (.iload 5, 2) := by decide +kernel
theorem dL_ringOf_296 : decode cL_ringOf 296 = .ok (.iaload, 1) := by decide +kernel
theorem dL_ringOf_297 : decode cL_ringOf 297 = .ok (.ldc 120, 2) := by decide +kernel
theorem dL_ringOf_299 : decode cL_ringOf 299 = .ok (.idiv, 1) := by decide +kernel
theorem dL_ringOf_300 : decode cL_ringOf 300 = .ok (.ifCond .ne 32, 3) := by decide +kernel
theorem dL_ringOf_303 : decode cL_ringOf 303 = .ok (.aload_n 1, 1) := by decide +kernel
theorem dL_ringOf_304 : decode cL_ringOf 304 = .ok (.iload 4, 2) := by decide +kernel
theorem dL_ringOf_306 : decode cL_ringOf 306 = .ok (.iaload, 1) := by decide +kernel
theorem dL_ringOf_307 : decode cL_ringOf 307 = .ok (.sipush 4096, 3) := by decide +kernel
theorem dL_ringOf_310 : decode cL_ringOf 310 = .ok (.idiv, 1) := by decide +kernel
theorem dL_ringOf_311 : decode cL_ringOf 311 = .ok (.bipush 16, 2) := by decide +kernel
theorem dL_ringOf_313 : decode cL_ringOf 313 = .ok (.irem, 1) := by decide +kernel
theorem dL_ringOf_314 : decode cL_ringOf 314 = .ok (.aload_n 1, 1) := by decide +kernel
theorem dL_ringOf_315 : decode cL_ringOf 315 = .ok (.iload 5, 2) := by decide +kernel
theorem dL_ringOf_317 : decode cL_ringOf 317 = .ok (.iaload, 1) := by decide +kernel
theorem dL_ringOf_318 : decode cL_ringOf 318 = .ok (.sipush 4096, 3) := by decide +kernel
theorem dL_ringOf_321 : decode cL_ringOf 321 = .ok (.idiv, 1) := by decide +kernel
theorem dL_ringOf_322 : decode cL_ringOf 322 = .ok (.bipush 16, 2) := by decide +kernel
theorem dL_ringOf_324 : decode cL_ringOf 324 = .ok (.irem, 1) := by decide +kernel
theorem dL_ringOf_325 : decode cL_ringOf 325 = .ok (.if_icmp .eq 7, 3) := by decide +kernel
theorem dL_ringOf_328 : decode cL_ringOf 328 = .ok (.iconst 1, 1) := by decide +kernel
theorem dL_ringOf_329 : decode cL_ringOf 329 = .ok (.goto 4, 3) := by decide +kernel
theorem dL_ringOf_332 : decode cL_ringOf 332 = .ok (.iconst 0, 1) := by decide +kernel
theorem dL_ringOf_333 : decode cL_ringOf 333 = .ok (.istore 6, 2) := by decide +kernel
theorem dL_ringOf_335 : decode cL_ringOf 335 = .ok (.iload 6, 2) := by decide +kernel
theorem dL_ringOf_337 : decode cL_ringOf 337 = .ok (.ifCond .eq 63, 3) := by decide +kernel
theorem dL_ringOf_340 : decode cL_ringOf 340 = .ok (.aload_n 0, 1) := by decide +kernel
theorem dL_ringOf_341 : decode cL_ringOf 341 = .ok (.aload_n 1, 1) := by decide +kernel
theorem dL_ringOf_342 : decode cL_ringOf 342 = .ok (.iload 4, 2) := by decide +kernel
theorem dL_ringOf_344 : decode cL_ringOf 344 = .ok (.iaload, 1) := by decide +kernel
theorem dL_ringOf_345 : decode cL_ringOf 345 = .ok (.sipush 128, 3) := by decide +kernel
theorem dL_ringOf_348 : decode cL_ringOf 348 = .ok (.irem, 1) := by decide +kernel
theorem dL_ringOf_349 : decode cL_ringOf 349 = .ok (.invokestatic 90, 3) := by decide +kernel
theorem dL_ringOf_352 : decode cL_ringOf 352 = .ok (.bipush 100, 2) := by decide +kernel
theorem dL_ringOf_354 : decode cL_ringOf 354 = .ok (.idiv, 1) := by decide +kernel
theorem dL_ringOf_355 : decode cL_ringOf 355 = .ok (.aload_n 1, 1) := by decide +kernel
theorem dL_ringOf_356 : decode cL_ringOf 356 = .ok (.iload 5, 2) := by decide +kernel
theorem dL_ringOf_358 : decode cL_ringOf 358 = .ok (.iaload, 1) := by decide +kernel
theorem dL_ringOf_359 : decode cL_ringOf 359 = .ok (.sipush 128, 3) := by decide +kernel
theorem dL_ringOf_362 : decode cL_ringOf 362 = .ok (.idiv, 1) := by decide +kernel
theorem dL_ringOf_363 : decode cL_ringOf 363 = .ok (.bipush 32, 2) := by decide +kernel
theorem dL_ringOf_365 : decode cL_ringOf 365 = .ok (.irem, 1) := by decide +kernel
theorem dL_ringOf_366 : decode cL_ringOf 366 = .ok (.if_icmp .ne 34, 3) := by decide +kernel
theorem dL_ringOf_369 : decode cL_ringOf 369 = .ok (.aload_n 0, 1) := by decide +kernel
theorem dL_ringOf_370 : decode cL_ringOf 370 = .ok (.aload_n 1, 1) := by decide +kernel
theorem dL_ringOf_371 : decode cL_ringOf 371 = .ok (.iload 5, 2) := by decide +kernel
theorem dL_ringOf_373 : decode cL_ringOf 373 = .ok (.iaload, 1) := by decide +kernel
theorem dL_ringOf_374 : decode cL_ringOf 374 = .ok (.sipush 128, 3) := by decide +kernel
theorem dL_ringOf_377 : decode cL_ringOf 377 = .ok (.irem, 1) := by decide +kernel
theorem dL_ringOf_378 : decode cL_ringOf 378 = .ok (.invokestatic 90, 3) := by decide +kernel
theorem dL_ringOf_381 : decode cL_ringOf 381 = .ok (.bipush 100, 2) := by decide +kernel
theorem dL_ringOf_383 : decode cL_ringOf 383 = .ok (.idiv, 1) := by decide +kernel
theorem dL_ringOf_384 : decode cL_ringOf 384 = .ok (.aload_n 1, 1) := by decide +kernel
theorem dL_ringOf_385 : decode cL_ringOf 385 = .ok (.iload 4, 2) := by decide +kernel
theorem dL_ringOf_387 : decode cL_ringOf 387 = .ok (.iaload, 1) := by decide +kernel
theorem dL_ringOf_388 : decode cL_ringOf 388 = .ok (.sipush 128, 3) := by decide +kernel
theorem dL_ringOf_391 : decode cL_ringOf 391 = .ok (.idiv, 1) := by decide +kernel
theorem dL_ringOf_392 : decode cL_ringOf 392 = .ok (.bipush 32, 2) := by decide +kernel
theorem dL_ringOf_394 : decode cL_ringOf 394 = .ok (.irem, 1) := by decide +kernel
theorem dL_ringOf_395 : decode cL_ringOf 395 = .ok (.if_icmp .ne 5, 3) := by decide +kernel
theorem dL_ringOf_398 : decode cL_ringOf 398 = .ok (.iconst (-1), 1) := by decide +kernel
theorem dL_ringOf_399 : decode cL_ringOf 399 = .ok (.ireturn, 1) := by decide +kernel
theorem dL_ringOf_400 : decode cL_ringOf 400 = .ok (.iinc 5 1, 3) := by decide +kernel
theorem dL_ringOf_403 : decode cL_ringOf 403 = .ok (.goto (-127), 3) := by decide +kernel
theorem dL_ringOf_406 : decode cL_ringOf 406 = .ok (.iinc 4 1, 3) := by decide +kernel
theorem dL_ringOf_409 : decode cL_ringOf 409 = .ok (.goto (-149), 3) := by decide +kernel
theorem dL_ringOf_412 : decode cL_ringOf 412 = .ok (.iload_n 3, 1) := by decide +kernel
theorem dL_ringOf_413 : decode cL_ringOf 413 = .ok (.iconst 1, 1) := by decide +kernel
theorem dL_ringOf_414 : decode cL_ringOf 414 = .ok (.if_icmp .eq 39, 3) := by decide +kernel
theorem dL_ringOf_417 : decode cL_ringOf 417 = .ok (.iload_n 3, 1) := by decide +kernel
theorem dL_ringOf_418 : decode cL_ringOf 418 = .ok (.iconst 4, 1) := by decide +kernel
theorem dL_ringOf_419 : decode cL_ringOf 419 = .ok (.if_icmp .gt 34, 3) := by decide +kernel
theorem dL_ringOf_422 : decode cL_ringOf 422 = .ok (.aload_n 0, 1) := by decide +kernel
theorem dL_ringOf_423 : decode cL_ringOf 423 = .ok (.iconst (-1), 1) := by decide +kernel
theorem dL_ringOf_424 : decode cL_ringOf 424 = .ok (.invokestatic 123, 3) := by decide +kernel
theorem dL_ringOf_427 : decode cL_ringOf 427 = .ok (.ldc 18, 2) := by decide +kernel
theorem dL_ringOf_429 : decode cL_ringOf 429 = .ok (.if_icmp .ne 24, 3) := by decide +kernel
theorem dL_ringOf_432 : decode cL_ringOf 432 = .ok (.aload_n 0, 1) := by decide +kernel
theorem dL_ringOf_433 : decode cL_ringOf 433 = .ok (.iload_n 3, 1) := by decide +kernel
theorem dL_ringOf_434 : decode cL_ringOf 434 = .ok (.invokestatic 123, 3) := by decide +kernel
theorem dL_ringOf_437 : decode cL_ringOf 437 = .ok (.iconst (-1), 1) := by decide +kernel
theorem dL_ringOf_438 : decode cL_ringOf 438 = .ok (.if_icmp .ne 15, 3) := by decide +kernel
theorem dL_ringOf_441 : decode cL_ringOf 441 = .ok (.aload_n 0, 1) := by decide +kernel
theorem dL_ringOf_442 : decode cL_ringOf 442 = .ok (.aload_n 2, 1) := by decide +kernel
theorem dL_ringOf_443 : decode cL_ringOf 443 = .ok (.iconst 2, 1) := by decide +kernel
theorem dL_ringOf_444 : decode cL_ringOf 444 = .ok (.iaload, 1) := by decide +kernel
theorem dL_ringOf_445 : decode cL_ringOf 445 = .ok (.invokestatic 121, 3) := by decide +kernel
theorem dL_ringOf_448 : decode cL_ringOf 448 = .ok (.ldc 18, 2) := by decide +kernel
theorem dL_ringOf_450 : decode cL_ringOf 450 = .ok (.if_icmp .eq 7, 3) := by decide +kernel
theorem dL_ringOf_453 : decode cL_ringOf 453 = .ok (.iconst (-1), 1) := by decide +kernel
theorem dL_ringOf_454 : decode cL_ringOf 454 = .ok (.goto 4, 3) := by decide +kernel
theorem dL_ringOf_457 : decode cL_ringOf 457 = .ok (.iload_n 3, 1) := by decide +kernel
theorem dL_ringOf_458 : decode cL_ringOf 458 = .ok (.ireturn, 1) := by decide +kernel
