set_option maxRecDepth 20000 in
theorem ggL_trades_L_ring : GoodIn wsL_trades wsL_ring := goodIn_ca (goodIn_r _ [43, 12, 8, 44, 45, 46, 16, 47, 24, 25, 18, 48, 49, 50, 51, 52, 53, 54, 55, 56, 57, 58, 59, 60, 61, 62, 63, 64, 65, 66, 67, 68, 69, 70, 96, 97, 98, 99, 100, 101, 102, 103, 104, 105, 106, 107, 108, 109] (by decide +kernel) (by decide +kernel)) (goodIn_sub (fun _ h => List.mem_cons_of_mem _ (List.mem_append_left _ (List.mem_append_right _ h))) (by decide +kernel))
set_option maxRecDepth 20000 in
theorem gL_trades_L_ring : GoodIn wsL_trades (va_wsS RL 123 yL_ring wsL_ring) := goodIn_app (goodIn_of _ (by decide +kernel)) ggL_trades_L_ring
set_option maxRecDepth 20000 in
theorem ggL_trades_L_collectorOf : GoodIn wsL_trades wsL_collectorOf := goodIn_ca (goodIn_r _ [29, 12, 8, 30, 31, 32, 16, 33, 34, 35, 36, 37, 38, 39, 24, 25, 40, 96, 97, 98, 99, 100, 101, 102, 110, 111, 112, 113] (by decide +kernel) (by decide +kernel)) (goodIn_sub (fun _ h => List.mem_cons_of_mem _ (List.mem_append_left _ (List.mem_append_right _ h))) (by decide +kernel))
set_option maxRecDepth 20000 in
theorem gL_trades_L_collectorOf : GoodIn wsL_trades (va_wsS RL 95 yL_collectorOf wsL_collectorOf) := goodIn_app (goodIn_of _ (by decide +kernel)) ggL_trades_L_collectorOf
set_option maxRecDepth 20000 in
theorem ggL_trades_X6_trade : GoodIn wsL_trades wsX6_trade := goodIn_r _ [83, 18, 48, 34, 35, 84, 85, 19, 49, 50, 51, 52, 53, 54, 55, 56, 57, 58, 59, 60, 61, 62, 63, 64, 65, 66, 67, 68, 69, 70, 96, 97, 98, 99, 100, 101, 102, 103, 104, 105, 106, 107, 108, 109, 110, 111, 112, 113] (by decide +kernel) (by decide +kernel)
set_option maxRecDepth 20000 in
theorem gL_trades_X6_trade : GoodIn wsL_trades (wsV RL 129 RX6 yX6_trade wsX6_trade) := goodIn_app (goodIn_of _ (by decide +kernel)) ggL_trades_X6_trade
set_option maxRecDepth 20000 in
theorem ggL_trades_L_isOpen : GoodIn wsL_trades wsL_isOpen := goodIn_ca (goodIn_r _ [11, 12, 8, 13, 14, 15, 16, 17, 18, 19, 20, 21, 22, 23, 24, 25, 26, 96, 97, 98, 99, 100, 101, 102, 103, 104, 105, 106, 107, 108, 109] (by decide +kernel) (by decide +kernel)) (goodIn_sub (fun _ h => List.mem_cons_of_mem _ (List.mem_append_left _ (List.mem_append_right _ h))) (by decide +kernel))
set_option maxRecDepth 20000 in
theorem gL_trades_L_isOpen : GoodIn wsL_trades (va_wsS RL 121 yL_isOpen wsL_isOpen) := goodIn_app (goodIn_of _ (by decide +kernel)) ggL_trades_L_isOpen
set_option maxRecDepth 20000 in
theorem ggL_trades_L_takeBack : GoodIn wsL_trades wsL_takeBack := goodIn_ca (goodIn_ca (goodIn_r _ [88, 12, 89, 8, 3, 90, 91, 92, 16, 93, 94, 95, 18, 19, 84, 20, 21, 22, 23, 24, 25, 26, 96, 97, 98, 99, 100, 101, 102, 103, 104, 105, 106, 107, 108, 109] (by decide +kernel) (by decide +kernel)) (goodIn_sub (fun _ h => List.mem_cons_of_mem _ (List.mem_append_right _ h)) (by decide +kernel))) (goodIn_sub (fun _ h => List.mem_cons_of_mem _ (List.mem_append_left _ (List.mem_append_right _ h))) (by decide +kernel))
set_option maxRecDepth 20000 in
theorem gL_trades_L_takeBack : GoodIn wsL_trades (va_wsS RL 132 yL_takeBack wsL_takeBack) := goodIn_app (goodIn_of _ (by decide +kernel)) ggL_trades_L_takeBack
theorem dL_trades_0 : decode cL_trades 0 = .ok (.aload_n 0, 1) := by decide +kernel
theorem dL_trades_1 : decode cL_trades 1 = .ok (.aload_n 2, 1) := by decide +kernel
theorem dL_trades_2 : decode cL_trades 2 = .ok (.aload_n 3, 1) := by decide +kernel
theorem dL_trades_3 : decode cL_trades 3 = .ok (.invokestatic 125, 3) := by decide +kernel
theorem dL_trades_6 : decode cL_trades 6 = .ok (.istore 4, 2) := by decide +kernel
theorem dL_trades_8 : decode cL_trades 8 = .ok (.iconst 4, 1) := by decide +kernel
theorem dL_trades_9 : decode cL_trades 9 = .ok (.newarray .int, 2) := by decide +kernel
theorem dL_trades_11 : decode cL_trades 11 = .ok (.astore 5, 2) := by decide +kernel
theorem dL_trades_13 : decode cL_trades 13 = .ok (.bipush 60, 2) := by decide +kernel
theorem dL_trades_15 : decode cL_trades 15 = .ok (.newarray .int, 2) := by decide +kernel
theorem dL_trades_17 : decode cL_trades 17 = .ok (.astore 6, 2) := by decide +kernel
theorem dL_trades_19 : decode cL_trades 19 = .ok (.iconst 0, 1) := by decide +kernel
theorem dL_trades_20 : decode cL_trades 20 = .ok (.istore 7, 2) := by decide +kernel
theorem dL_trades_22 : decode cL_trades 22 = .ok (.iload 7, 2) := by decide +kernel
theorem dL_trades_24 : decode cL_trades 24 = .ok (.iload 4, 2) := by decide +kernel
theorem dL_trades_26 : decode cL_trades 26 = .ok (.if_icmp .ge 20, 3) := by decide +kernel
theorem dL_trades_29 : decode cL_trades 29 = .ok (.aload 5, 2) := by decide +kernel
theorem dL_trades_31 : decode cL_trades 31 = .ok (.iload 7, 2) := by decide +kernel
theorem dL_trades_33 : decode cL_trades 33 = .ok (.aload_n 0, 1) := by decide +kernel
theorem dL_trades_34 : decode cL_trades 34 = .ok (.iload 7, 2) := by decide +kernel
theorem dL_trades_36 : decode cL_trades 36 = .ok (.invokestatic 123, 3) := by decide +kernel
theorem dL_trades_39 : decode cL_trades 39 = .ok (.iastore, 1) := by decide +kernel
theorem dL_trades_40 : decode cL_trades 40 = .ok (.iinc 7 1, 3) := by decide +kernel
theorem dL_trades_43 : decode cL_trades 43 = .ok (.goto (-21), 3) := by decide +kernel
theorem dL_trades_46 : decode cL_trades 46 = .ok (.iconst 0, 1) := by decide +kernel
theorem dL_trades_47 : decode cL_trades 47 = .ok (.istore 7, 2) := by decide +kernel
theorem dL_trades_49 : decode cL_trades 49 = .ok (.iload 7, 2) := by decide +kernel
theorem dL_trades_51 : decode cL_trades 51 = .ok (.aload_n 3, 1) := by decide +kernel
theorem dL_trades_52 : decode cL_trades 52 = .ok (.iconst 0, 1) := by decide +kernel
theorem dL_trades_53 : decode cL_trades 53 = .ok (.iaload, 1) := by decide +kernel
theorem dL_trades_54 : decode cL_trades 54 = .ok (.if_icmp .ge 20, 3) := by decide +kernel
theorem dL_trades_57 : decode cL_trades 57 = .ok (.aload 6, 2) := by decide +kernel
theorem dL_trades_59 : decode cL_trades 59 = .ok (.iload 7, 2) := by decide +kernel
theorem dL_trades_61 : decode cL_trades 61 = .ok (.aload_n 0, 1) := by decide +kernel
theorem dL_trades_62 : decode cL_trades 62 = .ok (.iload 7, 2) := by decide +kernel
theorem dL_trades_64 : decode cL_trades 64 = .ok (.invokestatic 95, 3) := by decide +kernel
theorem dL_trades_67 : decode cL_trades 67 = .ok (.iastore, 1) := by decide +kernel
theorem dL_trades_68 : decode cL_trades 68 = .ok (.iinc 7 1, 3) := by decide +kernel
theorem dL_trades_71 : decode cL_trades 71 = .ok (.goto (-22), 3) := by decide +kernel
theorem dL_trades_74 : decode cL_trades 74 = .ok (.iconst 0, 1) := by decide +kernel
theorem dL_trades_75 : decode cL_trades 75 = .ok (.istore 7, 2) := by decide +kernel
theorem dL_trades_77 : decode cL_trades 77 = .ok (.iload 7, 2) := by decide +kernel
theorem dL_trades_79 : decode cL_trades 79 = .ok (.iload 4, 2) := by decide +kernel
theorem dL_trades_81 : decode cL_trades 81 = .ok (.if_icmp .ge 56, 3) := by decide +kernel
theorem dL_trades_84 : decode cL_trades 84 = .ok (.aload 5, 2) := by decide +kernel
theorem dL_trades_86 : decode cL_trades 86 = .ok (.iload 7, 2) := by decide +kernel
theorem dL_trades_88 : decode cL_trades 88 = .ok (.iconst 1, 1) := by decide +kernel
theorem dL_trades_89 : decode cL_trades 89 = .ok (.iadd, 1) := by decide +kernel
theorem dL_trades_90 : decode cL_trades 90 = .ok (.iload 4, 2) := by decide +kernel
theorem dL_trades_92 : decode cL_trades 92 = .ok (.if_icmp .ne 7, 3) := by decide +kernel
theorem dL_trades_95 : decode cL_trades 95 = .ok (.iconst 0, 1) := by decide +kernel
theorem dL_trades_96 : decode cL_trades 96 = .ok (.goto 7, 3) := by decide +kernel
theorem dL_trades_99 : decode cL_trades 99 = .ok (.iload 7, 2) := by decide +kernel
theorem dL_trades_101 : decode cL_trades 101 = .ok (.iconst 1, 1) := by decide +kernel
theorem dL_trades_102 : decode cL_trades 102 = .ok (.iadd, 1) := by decide +kernel
theorem dL_trades_103 : decode cL_trades 103 = .ok (.iaload, 1) := by decide +kernel
theorem dL_trades_104 : decode cL_trades 104 = .ok (.istore 8, 2) := by decide +kernel
theorem dL_trades_106 : decode cL_trades 106 = .ok (.aload 6, 2) := by decide +kernel
theorem dL_trades_108 : decode cL_trades 108 = .ok (.aload_n 2, 1) := by decide +kernel
theorem dL_trades_109 : decode cL_trades 109 = .ok (.aload 5, 2) := by decide +kernel
theorem dL_trades_111 : decode cL_trades 111 = .ok (.iload 7, 2) := by decide +kernel
theorem dL_trades_113 : decode cL_trades 113 = .ok (.iaload, 1) := by decide +kernel
theorem dL_trades_114 : decode cL_trades 114 = .ok (.iaload, 1) := by decide +kernel
theorem dL_trades_115 : decode cL_trades 115 = .ok (.sipush 128, 3) := by decide +kernel
theorem dL_trades_118 : decode cL_trades 118 = .ok (.irem, 1) := by decide +kernel
theorem dL_trades_119 : decode cL_trades 119 = .ok (.aload_n 2, 1) := by decide +kernel
theorem dL_trades_120 : decode cL_trades 120 = .ok (.iload 8, 2) := by decide +kernel
theorem dL_trades_122 : decode cL_trades 122 = .ok (.iaload, 1) := by decide +kernel
theorem dL_trades_123 : decode cL_trades 123 = .ok (.sipush 4096, 3) := by decide +kernel
theorem dL_trades_126 : decode cL_trades 126 = .ok (.idiv, 1) := by decide +kernel
theorem dL_trades_127 : decode cL_trades 127 = .ok (.bipush 16, 2) := by decide +kernel
theorem dL_trades_129 : decode cL_trades 129 = .ok (.irem, 1) := by decide +kernel
theorem dL_trades_130 : decode cL_trades 130 = .ok (.iastore, 1) := by decide +kernel
theorem dL_trades_131 : decode cL_trades 131 = .ok (.iinc 7 1, 3) := by decide +kernel
theorem dL_trades_134 : decode cL_trades 134 = .ok (.goto (-57), 3) := by decide +kernel
theorem dL_trades_137 : decode cL_trades 137 = .ok (.iload 4, 2) := by decide +kernel
theorem dL_trades_139 : decode cL_trades 139 = .ok (.ifCond .lt 25, 3) := by decide +kernel
theorem dL_trades_142 : decode cL_trades 142 = .ok (.aload_n 0, 1) := by decide +kernel
theorem dL_trades_143 : decode cL_trades 143 = .ok (.invokevirtual 129, 3) := by decide +kernel
theorem dL_trades_146 : decode cL_trades 146 = .ok (.iload 4, 2) := by decide +kernel
theorem dL_trades_148 : decode cL_trades 148 = .ok (.if_icmp .ne 16, 3) := by decide +kernel
theorem dL_trades_151 : decode cL_trades 151 = .ok (.aload_n 1, 1) := by decide +kernel
theorem dL_trades_152 : decode cL_trades 152 = .ok (.invokevirtual 129, 3) := by decide +kernel
theorem dL_trades_155 : decode cL_trades 155 = .ok (.iload 4, 2) := by decide +kernel
theorem dL_trades_157 : decode cL_trades 157 = .ok (.if_icmp .ne 7, 3) := by decide +kernel
theorem dL_trades_160 : decode cL_trades 160 = .ok (.iconst 1, 1) := by decide +kernel
theorem dL_trades_161 : decode cL_trades 161 = .ok (.goto 4, 3) := by decide +kernel
theorem dL_trades_164 : decode cL_trades 164 = .ok (.iconst 0, 1) := by decide +kernel
theorem dL_trades_165 : decode cL_trades 165 = .ok (.istore 7, 2) := by decide +kernel
theorem dL_trades_167 : decode cL_trades 167 = .ok (.iconst 0, 1) := by decide +kernel
theorem dL_trades_168 : decode cL_trades 168 = .ok (.istore 8, 2) := by decide +kernel
theorem dL_trades_170 : decode cL_trades 170 = .ok (.iload 8, 2) := by decide +kernel
theorem dL_trades_172 : decode cL_trades 172 = .ok (.aload_n 3, 1) := by decide +kernel
theorem dL_trades_173 : decode cL_trades 173 = .ok (.iconst 0, 1) := by decide +kernel
theorem dL_trades_174 : decode cL_trades 174 = .ok (.iaload, 1) := by decide +kernel
theorem dL_trades_175 : decode cL_trades 175 = .ok (.if_icmp .ge 49, 3) := by decide +kernel
theorem dL_trades_178 : decode cL_trades 178 = .ok (.iload 7, 2) := by decide +kernel
theorem dL_trades_180 : decode cL_trades 180 = .ok (.ifCond .eq 35, 3) := by decide +kernel
theorem dL_trades_183 : decode cL_trades 183 = .ok (.aload_n 0, 1) := by decide +kernel
theorem dL_trades_184 : decode cL_trades 184 = .ok (.iload 8, 2) := by decide +kernel
theorem dL_trades_186 : decode cL_trades 186 = .ok (.invokestatic 95, 3) := by decide +kernel
theorem dL_trades_189 : decode cL_trades 189 = .ok (.aload 6, 2) := by decide +kernel
theorem dL_trades_191 : decode cL_trades 191 = .ok (.iload 8, 2) := by decide +kernel
theorem dL_trades_193 : decode cL_trades 193 = .ok (.iaload, 1) := by decide +kernel
theorem dL_trades_194 : decode cL_trades 194 = .ok (.if_icmp .ne 21, 3) := by decide +kernel
theorem dL_trades_197 : decode cL_trades 197 = .ok (.aload_n 1, 1) := by decide +kernel
theorem dL_trades_198 : decode cL_trades 198 = .ok (.iload 8, 2) := by decide +kernel
theorem dL_trades_200 : decode cL_trades 200 = .ok (.invokestatic 95, 3) := by decide +kernel
theorem dL_trades_203 : decode cL_trades 203 = .ok (.aload 6, 2) := by decide +kernel
theorem dL_trades_205 : decode cL_trades 205 = .ok (.iload 8, 2) := by decide +kernel
theorem dL_trades_207 : decode cL_trades 207 = .ok (.iaload, 1) := by decide +kernel
theorem dL_trades_208 : decode cL_trades 208 = .ok (.if_icmp .ne 7, 3) := by decide +kernel
theorem dL_trades_211 : decode cL_trades 211 = .ok (.iconst 1, 1) := by decide +kernel
theorem dL_trades_212 : decode cL_trades 212 = .ok (.goto 4, 3) := by decide +kernel
theorem dL_trades_215 : decode cL_trades 215 = .ok (.iconst 0, 1) := by decide +kernel
theorem dL_trades_216 : decode cL_trades 216 = .ok (.istore 7, 2) := by decide +kernel
theorem dL_trades_218 : decode cL_trades 218 = .ok (.iinc 8 1, 3) := by decide +kernel
theorem dL_trades_221 : decode cL_trades 221 = .ok (.goto (-51), 3) := by decide +kernel
theorem dL_trades_224 : decode cL_trades 224 = .ok (.iconst 0, 1) := by decide +kernel
theorem dL_trades_225 : decode cL_trades 225 = .ok (.istore 8, 2) := by decide +kernel
theorem dL_trades_227 : decode cL_trades 227 = .ok (.iload 8, 2) := by decide +kernel
theorem dL_trades_229 : decode cL_trades 229 = .ok (.iload 4, 2) := by decide +kernel
theorem dL_trades_231 : decode cL_trades 231 = .ok (.if_icmp .ge 59, 3) := by decide +kernel
theorem dL_trades_234 : decode cL_trades 234 = .ok (.aload_n 2, 1) := by decide +kernel
theorem dL_trades_235 : decode cL_trades 235 = .ok (.aload 5, 2) := by decide +kernel
theorem dL_trades_237 : decode cL_trades 237 = .ok (.iload 8, 2) := by decide +kernel
theorem dL_trades_239 : decode cL_trades 239 = .ok (.iaload, 1) := by decide +kernel
theorem dL_trades_240 : decode cL_trades 240 = .ok (.dup2, 1) := by decide +kernel
theorem dL_trades_241 : decode cL_trades 241 = .ok (.iaload, 1) := by decide +kernel
theorem dL_trades_242 : decode cL_trades 242 = .ok (.ldc 120, 2) := by decide +kernel
theorem dL_trades_244 : decode cL_trades 244 = .ok (.iadd, 1) := by decide +kernel
theorem dL_trades_245 : decode cL_trades 245 = .ok (.iastore, 1) := by decide +kernel
theorem dL_trades_246 : decode cL_trades 246 = .ok (.iload 7, 2) := by decide +kernel
theorem dL_trades_248 : decode cL_trades 248 = .ok (.ifCond .eq 33, 3) := by decide +kernel
theorem dL_trades_251 : decode cL_trades 251 = .ok (.aload_n 0, 1) := by decide +kernel
theorem dL_trades_252 : decode cL_trades 252 = .ok (.aload 5, 2) := by decide +kernel
theorem dL_trades_254 : decode cL_trades 254 = .ok (.iload 8, 2) := by decide +kernel
theorem dL_trades_256 : decode cL_trades 256 = .ok (.iaload, 1) := by decide +kernel
theorem dL_trades_257 : decode cL_trades 257 = .ok (.invokestatic 121, 3) := by decide +kernel
theorem dL_trades_260 : decode cL_trades 260 = .ok (.ifCond .ne 21, 3) := by decide +kernel
theorem dL_trades_263 : decode cL_trades 263 = .ok (.aload_n 0, 1) := by decide +kernel
theorem dL_trades_264 : decode cL_trades 264 = .ok (.aload 5, 2) := by decide +kernel
theorem dL_trades_266 : decode cL_trades 266 = .ok (.iload 8, 2) := by decide +kernel
theorem dL_trades_268 : decode cL_trades 268 = .ok (.iaload, 1) := by decide +kernel
theorem dL_trades_269 : decode cL_trades 269 = .ok (.invokestatic 132, 3) := by decide +kernel
theorem dL_trades_272 : decode cL_trades 272 = .ok (.ldc 35, 2) := by decide +kernel
theorem dL_trades_274 : decode cL_trades 274 = .ok (.if_icmp .ne 7, 3) := by decide +kernel
theorem dL_trades_277 : decode cL_trades 277 = .ok (.iconst 1, 1) := by decide +kernel
theorem dL_trades_278 : decode cL_trades 278 = .ok (.goto 4, 3) := by decide +kernel
theorem dL_trades_281 : decode cL_trades 281 = .ok (.iconst 0, 1) := by decide +kernel
theorem dL_trades_282 : decode cL_trades 282 = .ok (.istore 7, 2) := by decide +kernel
theorem dL_trades_284 : decode cL_trades 284 = .ok (.iinc 8 1, 3) := by decide +kernel
theorem dL_trades_287 : decode cL_trades 287 = .ok (.goto (-60), 3) := by decide +kernel
theorem dL_trades_290 : decode cL_trades 290 = .ok (.iload 7, 2) := by decide +kernel
theorem dL_trades_292 : decode cL_trades 292 = .ok (.ireturn, 1) := by decide +kernel
theorem ggL_trades_L_ringOf_h : GoodIn wsL_trades [Cond.code yL_ringOf cL_ringOf 8 (some .int)] := (goodIn_1 (List.mem_of_getElem? (i := 7) rfl) rfl)
set_option maxRecDepth 20000 in
theorem ggL_trades_L_ringOf_r1 : GoodIn wsL_trades wsL_ringOf_r1 := (goodIn_r (big := wsL_trades) [Cond.constant RL 120 (65536), Cond.constant RL 18 (-1000001), Cond.methodLink RL 121 yL_isOpen, Cond.static yL_isOpen, Cond.initialized RL, Cond.codeWith yL_isOpen cL_isOpen 3 (some .int) [(0, 13, 14, 16)], Cond.classLink RL 16 "java/lang/IndexOutOfBoundsException", Cond.methodLink RL 84 yX6_isOpen, Cond.instanceMethod yX6_isOpen, Cond.selects RX6 yX6_isOpen yX6_isOpen, Cond.initialized RX6, Cond.code yX6_isOpen cX6_isOpen 2 (some .boolean), Cond.fieldLink RX6 33 "Cardhouse" "offers" "LCardhouse$Offers;", Cond.fieldLink RX6 190 "Cardhouse$Offers" "isLive" "[Z", Cond.methodLink RX6 187 yX6_needOffer, Cond.instanceMethod yX6_needOffer, Cond.selects RX6 yX6_needOffer yX6_needOffer, Cond.code yX6_needOffer cX6_needOffer 2 none, Cond.classLink RX6 236 "java/lang/IndexOutOfBoundsException", Cond.initialized "java/lang/IndexOutOfBoundsException", Cond.fieldLink RX6 181 "Cardhouse$Offers" "count" "I", Cond.methodLink RL 95 yL_collectorOf, Cond.static yL_collectorOf, Cond.codeWith yL_collectorOf cL_collectorOf 3 (some .int) [(0, 5, 6, 16)]] [2, 8, 9, 10, 6, 11, 12, 13, 14, 15, 16, 17, 18, 19, 20, 21, 22, 23, 24, 25, 26, 27, 28, 29] (by decide +kernel) (by decide +kernel))
set_option maxRecDepth 20000 in
theorem ggL_trades_L_ringOf_r2 : GoodIn wsL_trades wsL_ringOf_r2 := (goodIn_r (big := wsL_trades) [Cond.methodLink RL 59 yX6_collectorOf, Cond.instanceMethod yX6_collectorOf, Cond.selects RX6 yX6_collectorOf yX6_collectorOf, Cond.code yX6_collectorOf cX6_collectorOf 2 (some .int), Cond.fieldLink RX6 19 "Cardhouse" "prints" "LCardhouse$Prints;", Cond.fieldLink RX6 116 "Cardhouse$Prints" "collector" "[I", Cond.methodLink RX6 113 yX6_needCard, Cond.instanceMethod yX6_needCard, Cond.selects RX6 yX6_needCard yX6_needCard, Cond.code yX6_needCard cX6_needCard 2 none, Cond.fieldLink RX6 87 "Cardhouse$Prints" "count" "I", Cond.methodLink RL 123 yL_ring, Cond.static yL_ring, Cond.codeWith yL_ring cL_ring 3 (some .int) [(0, 5, 6, 16)], Cond.methodLink RL 87 yX6_ring, Cond.instanceMethod yX6_ring, Cond.selects RX6 yX6_ring yX6_ring, Cond.code yX6_ring cX6_ring 2 (some .int), Cond.fieldLink RX6 202 "Cardhouse$Offers" "ring" "[I", Cond.methodLink RX6 198 yX2_findRing, Cond.instanceMethod yX2_findRing, Cond.selects RX2 yX2_findRing yX2_findRing, Cond.initialized RX2, Cond.code yX2_findRing cX2_findRing 3 (some .int)] [30, 31, 32, 33, 34, 35, 36, 37, 38, 39, 40, 41, 42, 43, 44, 45, 46, 47, 48, 49, 50, 51, 52, 53] (by decide +kernel) (by decide +kernel))
set_option maxRecDepth 20000 in
theorem ggL_trades_L_ringOf_r3 : GoodIn wsL_trades wsL_ringOf_r3 := (goodIn_r (big := wsL_trades) [Cond.fieldLink RX2 31 "Cardhouse$Offers" "count" "I", Cond.fieldLink RX2 28 "Cardhouse$Offers" "ring" "[I", Cond.fieldLink RX2 24 "Cardhouse$Offers" "isLive" "[Z", Cond.methodLink RX2 41 yX2_closes, Cond.static yX2_closes, Cond.code yX2_closes cX2_closes 4 (some .boolean), Cond.methodLink RX2 45 yX2_canGive, Cond.instanceMethod yX2_canGive, Cond.selects RX2 yX2_canGive yX2_canGive, Cond.code yX2_canGive cX2_canGive 3 (some .boolean), Cond.fieldLink RX2 15 "Cardhouse$Offers" "given" "[I", Cond.fieldLink RX2 18 "Cardhouse$Offers" "wanted" "[I", Cond.methodLink RX2 49 yX2_canFollow, Cond.instanceMethod yX2_canFollow, Cond.selects RX2 yX2_canFollow yX2_canFollow, Cond.code yX2_canFollow cX2_canFollow 4 (some .boolean), Cond.fieldLink RX2 21 "Cardhouse$Offers" "collector" "[I", Cond.methodLink RL 90 yL_printOf, Cond.static yL_printOf, Cond.codeWith yL_printOf cL_printOf 3 (some .int) [(0, 5, 6, 16)], Cond.methodLink RL 56 yX6_printOf, Cond.instanceMethod yX6_printOf, Cond.selects RX6 yX6_printOf yX6_printOf, Cond.code yX6_printOf cX6_printOf 2 (some .int)] [54, 55, 56, 57, 58, 59, 60, 61, 62, 63, 64, 65, 66, 67, 68, 69, 70, 71, 72, 73, 74, 75, 76, 77] (by decide +kernel) (by decide +kernel))
set_option maxRecDepth 20000 in
theorem ggL_trades_L_ringOf_r4 : GoodIn wsL_trades wsL_ringOf_r4 := (goodIn_r (big := wsL_trades) [Cond.fieldLink RX6 170 "Cardhouse$Prints" "kind" "[I", Cond.fieldLink RX6 206 "Cardhouse$Prints" "number" "[I"] [78, 79] (by decide +kernel) (by decide +kernel))
theorem ggL_trades_L_ringOf : GoodIn wsL_trades wsL_ringOf := goodIn_cc ggL_trades_L_ringOf_h (goodIn_app (goodIn_app (goodIn_app (goodIn_app (goodIn_app ggL_trades_L_ringOf_r1 (goodIn_app ggL_trades_L_ringOf_r2 (goodIn_app ggL_trades_L_ringOf_r3 ggL_trades_L_ringOf_r4))) (goodIn_sub (fun _ h => List.mem_cons_of_mem _ (List.mem_append_left _ (List.mem_append_left _ (List.mem_append_left _ (List.mem_append_left _ (List.mem_append_right _ h)))))) (by decide +kernel))) (goodIn_sub (fun _ h => List.mem_cons_of_mem _ (List.mem_append_left _ (List.mem_append_left _ (List.mem_append_left _ (List.mem_append_right _ h))))) (by decide +kernel))) (goodIn_sub (fun _ h => List.mem_cons_of_mem _ (List.mem_append_left _ (List.mem_append_left _ (List.mem_append_right _ h)))) (by decide +kernel))) (goodIn_sub (fun _ h => List.mem_cons_of_mem _ (List.mem_append_left _ (List.mem_append_right _ h))) (by decide +kernel)))
theorem gL_trades_L_ringOf : GoodIn wsL_trades (va_wsS RL 125 yL_ringOf wsL_ringOf) := goodIn_app (goodIn_of _ (by decide +kernel)) ggL_trades_L_ringOf
