theorem dX7_play_1 : decode cX7_play 1 = .ok (.iload_n 1, 1) := by decide +kernel
theorem dX7_play_2 : decode cX7_play 2 = .ok (.invokevirtual 110, 3) := by decide +kernel
theorem dX7_play_5 : decode cX7_play 5 = .ok (.ifCond .eq 15, 3) := by decide +kernel
theorem dX7_play_8 : decode cX7_play 8 = .ok (.aload_n 0, 1) := by decide +kernel
theorem dX7_play_9 : decode cX7_play 9 = .ok (.iload_n 2, 1) := by decide +kernel
theorem dX7_play_10 : decode cX7_play 10 = .ok (.invokevirtual 110, 3) := by decide +kernel
theorem dX7_play_13 : decode cX7_play 13 = .ok (.ifCond .eq 7, 3) := by decide +kernel
theorem dX7_play_16 : decode cX7_play 16 = .ok (.iconst 1, 1) := by decide +kernel
theorem dX7_play_17 : decode cX7_play 17 = .ok (.goto 4, 3) := by decide +kernel
theorem dX7_play_20 : decode cX7_play 20 = .ok (.iconst 0, 1) := by decide +kernel
theorem dX7_play_21 : decode cX7_play 21 = .ok (.istore 5, 2) := by decide +kernel
theorem dX7_play_23 : decode cX7_play 23 = .ok (.iload 5, 2) := by decide +kernel
theorem dX7_play_25 : decode cX7_play 25 = .ok (.ifCond .eq 31, 3) := by decide +kernel
theorem dX7_play_28 : decode cX7_play 28 = .ok (.iload_n 3, 1) := by decide +kernel
theorem dX7_play_29 : decode cX7_play 29 = .ok (.ifCond .lt 27, 3) := by decide +kernel
theorem dX7_play_32 : decode cX7_play 32 = .ok (.iload 4, 2) := by decide +kernel
theorem dX7_play_34 : decode cX7_play 34 = .ok (.ifCond .lt 22, 3) := by decide +kernel
theorem dX7_play_37 : decode cX7_play 37 = .ok (.aload_n 0, 1) := by decide +kernel
theorem dX7_play_38 : decode cX7_play 38 = .ok (.getfield 42, 3) := by decide +kernel
theorem dX7_play_41 : decode cX7_play 41 = .ok (.iload_n 1, 1) := by decide +kernel
theorem dX7_play_42 : decode cX7_play 42 = .ok (.iaload, 1) := by decide +kernel
theorem dX7_play_43 : decode cX7_play 43 = .ok (.aload_n 0, 1) := by decide +kernel
theorem dX7_play_44 : decode cX7_play 44 = .ok (.getfield 42, 3) := by decide +kernel
theorem dX7_play_47 : decode cX7_play 47 = .ok (.iload_n 2, 1) := by decide +kernel
theorem dX7_play_48 : decode cX7_play 48 = .ok (.iaload, 1) := by decide +kernel
theorem dX7_play_49 : decode cX7_play 49 = .ok (.if_icmp .eq 7, 3) := by decide +kernel
theorem dX7_play_52 : decode cX7_play 52 = .ok (.iconst 1, 1) := by decide +kernel
theorem dX7_play_53 : decode cX7_play 53 = .ok (.goto 4, 3) := by decide +kernel
theorem dX7_play_56 : decode cX7_play 56 = .ok (.iconst 0, 1) := by decide +kernel
theorem dX7_play_57 : decode cX7_play 57 = .ok (.istore 6, 2) := by decide +kernel
theorem dX7_play_59 : decode cX7_play 59 = .ok (.aload_n 0, 1) := by decide +kernel
theorem dX7_play_60 : decode cX7_play 60 = .ok (.iload 5, 2) := by decide +kernel
theorem dX7_play_62 : decode cX7_play 62 = .ok (.iload 6, 2) := by decide +kernel
theorem dX7_play_64 : decode cX7_play 64 = .ok (.iload 6, 2) := by decide +kernel
theorem dX7_play_66 : decode cX7_play 66 = .ok (.ifCond .eq 23, 3) := by decide +kernel
theorem dX7_play_69 : decode cX7_play 69 = .ok (.aload_n 0, 1) := by decide +kernel
theorem dX7_play_70 : decode cX7_play 70 = .ok (.iload_n 1, 1) := by decide +kernel
theorem dX7_play_71 : decode cX7_play 71 = .ok (.invokevirtual 100, 3) := by decide +kernel
theorem dX7_play_74 : decode cX7_play 74 = .ok (.ifCond .eq 15, 3) := by decide +kernel
theorem dX7_play_77 : decode cX7_play 77 = .ok (.aload_n 0, 1) := by decide +kernel
theorem dX7_play_78 : decode cX7_play 78 = .ok (.iload_n 2, 1) := by decide +kernel
theorem dX7_play_79 : decode cX7_play 79 = .ok (.invokevirtual 100, 3) := by decide +kernel
theorem dX7_play_82 : decode cX7_play 82 = .ok (.ifCond .eq 7, 3) := by decide +kernel
theorem dX7_play_85 : decode cX7_play 85 = .ok (.iconst 1, 1) := by decide +kernel
theorem dX7_play_86 : decode cX7_play 86 = .ok (.goto 4, 3) := by decide +kernel
theorem dX7_play_89 : decode cX7_play 89 = .ok (.iconst 0, 1) := by decide +kernel
theorem dX7_play_90 : decode cX7_play 90 = .ok (.invokevirtual 89, 3) := by decide +kernel
theorem dX7_play_93 : decode cX7_play 93 = .ok (.ifCond .ne 5, 3) := by decide +kernel
theorem dX7_play_96 : decode cX7_play 96 = .ok (.iconst 0, 1) := by decide +kernel
theorem dX7_play_97 : decode cX7_play 97 = .ok (.ireturn, 1) := by decide +kernel
theorem dX7_play_98 : decode cX7_play 98 = .ok (.aload_n 0, 1) := by decide +kernel
theorem dX7_play_99 : decode cX7_play 99 = .ok (.iload_n 1, 1) := by decide +kernel
theorem dX7_play_100 : decode cX7_play 100 = .ok (.iload_n 3, 1) := by decide +kernel
theorem dX7_play_101 : decode cX7_play 101 = .ok (.iconst 0, 1) := by decide +kernel
theorem dX7_play_102 : decode cX7_play 102 = .ok (.invokevirtual 128, 3) := by decide +kernel
theorem dX7_play_105 : decode cX7_play 105 = .ok (.aload_n 0, 1) := by decide +kernel
theorem dX7_play_106 : decode cX7_play 106 = .ok (.iload_n 2, 1) := by decide +kernel
theorem dX7_play_107 : decode cX7_play 107 = .ok (.iload 4, 2) := by decide +kernel
theorem dX7_play_109 : decode cX7_play 109 = .ok (.bipush 10, 2) := by decide +kernel
theorem dX7_play_111 : decode cX7_play 111 = .ok (.invokevirtual 128, 3) := by decide +kernel
theorem dX7_play_114 : decode cX7_play 114 = .ok (.iconst 0, 1) := by decide +kernel
theorem dX7_play_115 : decode cX7_play 115 = .ok (.istore 7, 2) := by decide +kernel
theorem dX7_play_117 : decode cX7_play 117 = .ok (.iconst 0, 1) := by decide +kernel
theorem dX7_play_118 : decode cX7_play 118 = .ok (.istore 8, 2) := by decide +kernel
theorem dX7_play_120 : decode cX7_play 120 = .ok (.iconst 0, 1) := by decide +kernel
theorem dX7_play_121 : decode cX7_play 121 = .ok (.istore 9, 2) := by decide +kernel
theorem dX7_play_123 : decode cX7_play 123 = .ok (.iconst 0, 1) := by decide +kernel
theorem dX7_play_124 : decode cX7_play 124 = .ok (.istore 10, 2) := by decide +kernel
theorem dX7_play_126 : decode cX7_play 126 = .ok (.iload 10, 2) := by decide +kernel
theorem dX7_play_128 : decode cX7_play 128 = .ok (.aload_n 0, 1) := by decide +kernel
theorem dX7_play_129 : decode cX7_play 129 = .ok (.getfield 26, 3) := by decide +kernel
theorem dX7_play_132 : decode cX7_play 132 = .ok (.if_icmp .ge 177, 3) := by decide +kernel
theorem dX7_play_135 : decode cX7_play 135 = .ok (.aload_n 0, 1) := by decide +kernel
theorem dX7_play_136 : decode cX7_play 136 = .ok (.getfield 33, 3) := by decide +kernel
theorem dX7_play_139 : decode cX7_play 139 = .ok (.aload_n 0, 1) := by decide +kernel
theorem dX7_play_140 : decode cX7_play 140 = .ok (.getfield 51, 3) := by decide +kernel
theorem dX7_play_143 : decode cX7_play 143 = .ok (.iload 10, 2) := by decide +kernel
theorem dX7_play_145 : decode cX7_play 145 = .ok (.iaload, 1) := by decide +kernel
theorem dX7_play_146 : decode cX7_play 146 = .ok (.iaload, 1) := by decide +kernel
theorem dX7_play_147 : decode cX7_play 147 = .ok (.istore 11, 2) := by decide +kernel
theorem dX7_play_149 : decode cX7_play 149 = .ok (.aload_n 0, 1) := by decide +kernel
theorem dX7_play_150 : decode cX7_play 150 = .ok (.getfield 33, 3) := by decide +kernel
theorem dX7_play_153 : decode cX7_play 153 = .ok (.aload_n 0, 1) := by decide +kernel
theorem dX7_play_154 : decode cX7_play 154 = .ok (.getfield 51, 3) := by decide +kernel
theorem dX7_play_157 : decode cX7_play 157 = .ok (.bipush 10, 2) := by decide +kernel
theorem dX7_play_159 : decode cX7_play 159 = .ok (.iload 10, 2) := by decide +kernel
theorem dX7_play_161 : decode cX7_play 161 = .ok (.iadd, 1) := by decide +kernel
theorem dX7_play_162 : decode cX7_play 162 = .ok (.iaload, 1) := by decide +kernel
theorem dX7_play_163 : decode cX7_play 163 = .ok (.iaload, 1) := by decide +kernel
theorem dX7_play_164 : decode cX7_play 164 = .ok (.istore 12, 2) := by decide +kernel
theorem dX7_play_166 : decode cX7_play 166 = .ok (.aload_n 0, 1) := by decide +kernel
theorem dX7_play_167 : decode cX7_play 167 = .ok (.getfield 7, 3) := by decide +kernel
theorem dX7_play_170 : decode cX7_play 170 = .ok (.iload 11, 2) := by decide +kernel
theorem dX7_play_172 : decode cX7_play 172 = .ok (.iaload, 1) := by decide +kernel
theorem dX7_play_173 : decode cX7_play 173 = .ok (.iload 8, 2) := by decide +kernel
theorem dX7_play_175 : decode cX7_play 175 = .ok (.iadd, 1) := by decide +kernel
theorem dX7_play_176 : decode cX7_play 176 = .ok (.aload_n 0, 1) := by decide +kernel
theorem dX7_play_177 : decode cX7_play 177 = .ok (.getfield 7, 3) := by decide +kernel
theorem dX7_play_180 : decode cX7_play 180 = .ok (.iload 12, 2) := by decide +kernel
theorem dX7_play_182 : decode cX7_play 182 = .ok (.iaload, 1) := by decide +kernel
theorem dX7_play_183 : decode cX7_play 183 = .ok (.isub, 1) := by decide +kernel
theorem dX7_play_184 : decode cX7_play 184 = .ok (.iload 9, 2) := by decide +kernel
theorem dX7_play_186 : decode cX7_play 186 = .ok (.isub, 1) := by decide +kernel
theorem dX7_play_187 : decode cX7_play 187 = .ok (.istore 13, 2) := by decide +kernel
theorem dX7_play_189 : decode cX7_play 189 = .ok (.aload_n 0, 1) := by decide +kernel
theorem dX7_play_190 : decode cX7_play 190 = .ok (.iload 11, 2) := by decide +kernel
theorem dX7_play_192 : decode cX7_play 192 = .ok (.iload 12, 2) := by decide +kernel
theorem dX7_play_194 : decode cX7_play 194 = .ok (.iload 13, 2) := by decide +kernel
theorem dX7_play_196 : decode cX7_play 196 = .ok (.ifCond .le 7, 3) := by decide +kernel
theorem dX7_play_199 : decode cX7_play 199 = .ok (.iconst 1, 1) := by decide +kernel
theorem dX7_play_200 : decode cX7_play 200 = .ok (.goto 4, 3) := by decide +kernel
theorem dX7_play_203 : decode cX7_play 203 = .ok (.iconst 0, 1) := by decide +kernel
theorem dX7_play_204 : decode cX7_play 204 = .ok (.invokevirtual 132, 3) := by decide +kernel
theorem dX7_play_207 : decode cX7_play 207 = .ok (.istore 14, 2) := by decide +kernel
theorem dX7_play_209 : decode cX7_play 209 = .ok (.aload_n 0, 1) := by decide +kernel
theorem dX7_play_210 : decode cX7_play 210 = .ok (.iload 12, 2) := by decide +kernel
theorem dX7_play_212 : decode cX7_play 212 = .ok (.iload 11, 2) := by decide +kernel
theorem dX7_play_214 : decode cX7_play 214 = .ok (.iload 13, 2) := by decide +kernel
theorem dX7_play_216 : decode cX7_play 216 = .ok (.ifCond .ge 7, 3) := by decide +kernel
theorem dX7_play_219 : decode cX7_play 219 = .ok (.iconst 1, 1) := by decide +kernel
theorem dX7_play_220 : decode cX7_play 220 = .ok (.goto 4, 3) := by decide +kernel
theorem dX7_play_223 : decode cX7_play 223 = .ok (.iconst 0, 1) := by decide +kernel
theorem dX7_play_224 : decode cX7_play 224 = .ok (.invokevirtual 132, 3) := by decide +kernel
theorem dX7_play_227 : decode cX7_play 227 = .ok (.istore 15, 2) := by decide +kernel
theorem dX7_play_229 : decode cX7_play 229 = .ok (.iload 7, 2) := by decide +kernel
theorem dX7_play_231 : decode cX7_play 231 = .ok (.iload 13, 2) := by decide +kernel
theorem dX7_play_233 : decode cX7_play 233 = .ok (.ifCond .le 7, 3) := by decide +kernel
theorem dX7_play_236 : decode cX7_play 236 = .ok (.iconst 1, 1) := by decide +kernel
theorem dX7_play_237 : decode cX7_play 237 = .ok (.goto 13, 3) := by decide +kernel
theorem dX7_play_240 : decode cX7_play 240 = .ok (.iload 13, 2) := by decide +kernel
theorem dX7_play_242 : decode cX7_play 242 = .ok (.ifCond .ge 7, 3) := by decide +kernel
theorem dX7_play_245 : decode cX7_play 245 = .ok (.iconst (-1), 1) := by decide +kernel
theorem dX7_play_246 : decode cX7_play 246 = .ok (.goto 4, 3) := by decide +kernel
theorem dX7_play_249 : decode cX7_play 249 = .ok (.iconst 0, 1) := by decide +kernel
theorem dX7_play_250 : decode cX7_play 250 = .ok (.iload 14, 2) := by decide +kernel
theorem dX7_play_252 : decode cX7_play 252 = .ok (.iconst 1, 1) := by decide +kernel
theorem dX7_play_253 : decode cX7_play 253 = .ok (.if_icmp .ne 7, 3) := by decide +kernel
theorem dX7_play_256 : decode cX7_play 256 = .ok (.iconst 1, 1) := by decide +kernel
theorem dX7_play_257 : decode cX7_play 257 = .ok (.goto 4, 3) := by decide +kernel
theorem dX7_play_260 : decode cX7_play 260 = .ok (.iconst 0, 1) := by decide +kernel
theorem dX7_play_261 : decode cX7_play 261 = .ok (.iadd, 1) := by decide +kernel
theorem dX7_play_262 : decode cX7_play 262 = .ok (.iload 15, 2) := by decide +kernel
theorem dX7_play_264 : decode cX7_play 264 = .ok (.iconst 1, 1) := by decide +kernel
theorem dX7_play_265 : decode cX7_play 265 = .ok (.if_icmp .ne 7, 3) := by decide +kernel
theorem dX7_play_268 : decode cX7_play 268 = .ok (.iconst 1, 1) := by decide +kernel
theorem dX7_play_269 : decode cX7_play 269 = .ok (.goto 4, 3) := by decide +kernel
theorem dX7_play_272 : decode cX7_play 272 = .ok (.iconst 0, 1) := by decide +kernel
theorem dX7_play_273 : decode cX7_play 273 = .ok (.isub, 1) := by decide +kernel
theorem dX7_play_274 : decode cX7_play 274 = .ok (.iadd, 1) := by decide +kernel
theorem dX7_play_275 : decode cX7_play 275 = .ok (.istore 7, 2) := by decide +kernel
theorem dX7_play_277 : decode cX7_play 277 = .ok (.iload 14, 2) := by decide +kernel
theorem dX7_play_279 : decode cX7_play 279 = .ok (.iconst 2, 1) := by decide +kernel
theorem dX7_play_280 : decode cX7_play 280 = .ok (.if_icmp .ne 7, 3) := by decide +kernel
theorem dX7_play_283 : decode cX7_play 283 = .ok (.iconst 2, 1) := by decide +kernel
theorem dX7_play_284 : decode cX7_play 284 = .ok (.goto 4, 3) := by decide +kernel
theorem dX7_play_287 : decode cX7_play 287 = .ok (.iconst 0, 1) := by decide +kernel
theorem dX7_play_288 : decode cX7_play 288 = .ok (.istore 8, 2) := by decide +kernel
theorem dX7_play_290 : decode cX7_play 290 = .ok (.iload 15, 2) := by decide +kernel
theorem dX7_play_292 : decode cX7_play 292 = .ok (.iconst 2, 1) := by decide +kernel
theorem dX7_play_293 : decode cX7_play 293 = .ok (.if_icmp .ne 7, 3) := by decide +kernel
theorem dX7_play_296 : decode cX7_play 296 = .ok (.iconst 2, 1) := by decide +kernel
theorem dX7_play_297 : decode cX7_play 297 = .ok (.goto 4, 3) := by decide +kernel
theorem dX7_play_300 : decode cX7_play 300 = .ok (.iconst 0, 1) := by decide +kernel
theorem dX7_play_301 : decode cX7_play 301 = .ok (.istore 9, 2) := by decide +kernel
theorem dX7_play_303 : decode cX7_play 303 = .ok (.iinc 10 1, 3) := by decide +kernel
theorem dX7_play_306 : decode cX7_play 306 = .ok (.goto (-180), 3) := by decide +kernel
theorem dX7_play_309 : decode cX7_play 309 = .ok (.iload 7, 2) := by decide +kernel
theorem dX7_play_311 : decode cX7_play 311 = .ok (.ifCond .eq 17, 3) := by decide +kernel
theorem dX7_play_314 : decode cX7_play 314 = .ok (.aload_n 0, 1) := by decide +kernel
theorem dX7_play_315 : decode cX7_play 315 = .ok (.iload 7, 2) := by decide +kernel
theorem dX7_play_317 : decode cX7_play 317 = .ok (.ifCond .le 7, 3) := by decide +kernel
theorem dX7_play_320 : decode cX7_play 320 = .ok (.iload_n 1, 1) := by decide +kernel
theorem dX7_play_321 : decode cX7_play 321 = .ok (.goto 4, 3) := by decide +kernel
theorem dX7_play_324 : decode cX7_play 324 = .ok (.iload_n 2, 1) := by decide +kernel
theorem dX7_play_325 : decode cX7_play 325 = .ok (.invokevirtual 136, 3) := by decide +kernel
theorem dX7_play_328 : decode cX7_play 328 = .ok (.iload 7, 2) := by decide +kernel
theorem dX7_play_330 : decode cX7_play 330 = .ok (.ireturn, 1) := by decide +kernel
theorem dX7_opens_0 : decode cX7_opens 0 = .ok (.aload_n 0, 1) := by decide +kernel
theorem dX7_opens_1 : decode cX7_opens 1 = .ok (.getfield 63, 3) := by decide +kernel
theorem dX7_opens_4 : decode cX7_opens 4 = .ok (.iload_n 1, 1) := by decide +kernel
theorem dX7_opens_5 : decode cX7_opens 5 = .ok (.baload, 1) := by decide +kernel
theorem dX7_opens_6 : decode cX7_opens 6 = .ok (.ifCond .ne 27, 3) := by decide +kernel
theorem dX7_opens_9 : decode cX7_opens 9 = .ok (.aload_n 0, 1) := by decide +kernel
theorem dX7_opens_10 : decode cX7_opens 10 = .ok (.getfield 39, 3) := by decide +kernel
theorem dX7_opens_13 : decode cX7_opens 13 = .ok (.aload_n 0, 1) := by decide +kernel
theorem dX7_opens_14 : decode cX7_opens 14 = .ok (.getfield 54, 3) := by decide +kernel
theorem dX7_opens_17 : decode cX7_opens 17 = .ok (.iload_n 1, 1) := by decide +kernel
theorem dX7_opens_18 : decode cX7_opens 18 = .ok (.iaload, 1) := by decide +kernel
theorem dX7_opens_19 : decode cX7_opens 19 = .ok (.iaload, 1) := by decide +kernel
theorem dX7_opens_20 : decode cX7_opens 20 = .ok (.aload_n 0, 1) := by decide +kernel
theorem dX7_opens_21 : decode cX7_opens 21 = .ok (.getfield 57, 3) := by decide +kernel
theorem dX7_opens_24 : decode cX7_opens 24 = .ok (.iload_n 1, 1) := by decide +kernel
theorem dX7_opens_25 : decode cX7_opens 25 = .ok (.iaload, 1) := by decide +kernel
theorem dX7_opens_26 : decode cX7_opens 26 = .ok (.if_icmp .ne 7, 3) := by decide +kernel
theorem dX7_opens_29 : decode cX7_opens 29 = .ok (.iconst 1, 1) := by decide +kernel
theorem dX7_opens_30 : decode cX7_opens 30 = .ok (.goto 4, 3) := by decide +kernel
theorem dX7_opens_33 : decode cX7_opens 33 = .ok (.iconst 0, 1) := by decide +kernel
theorem dX7_opens_34 : decode cX7_opens 34 = .ok (.ireturn, 1) := by decide +kernel
set_option maxRecDepth 20000 in
theorem ggX7_offer_X7_isCard : GoodIn wsX7_offer wsX7_isCard := goodIn_r _ [11, 12, 13, 14, 10, 15, 29, 30, 31, 32, 33, 34, 35, 36, 37, 38, 39, 40, 41, 42, 43, 44, 45, 46, 47, 48, 49, 50, 51] (by decide +kernel) (by decide +kernel)
set_option maxRecDepth 20000 in
theorem gX7_offer_X7_isCard : GoodIn wsX7_offer (wsV RX7 113 RX7 yX7_isCard wsX7_isCard) := goodIn_app (goodIn_of _ (by decide +kernel)) ggX7_offer_X7_isCard
set_option maxRecDepth 20000 in
theorem ggX7_offer_X7_isKind : GoodIn wsX7_offer wsX7_isKind := goodIn_r _ [18, 13, 14, 10, 15] (by decide +kernel) (by decide +kernel)
set_option maxRecDepth 20000 in
theorem gX7_offer_X7_isKind : GoodIn wsX7_offer (va_wsS RX7 85 yX7_isKind wsX7_isKind) := goodIn_app (goodIn_of _ (by decide +kernel)) ggX7_offer_X7_isKind
set_option maxRecDepth 20000 in
theorem ggX7_offer_X7_opens : GoodIn wsX7_offer wsX7_opens := goodIn_r _ [22, 23, 5, 2, 4, 29, 30, 31, 32, 33, 34, 35, 36, 37, 38, 39, 40, 41, 42, 43, 44, 45, 46, 47, 48, 49, 50, 51] (by decide +kernel) (by decide +kernel)
set_option maxRecDepth 20000 in
theorem gX7_offer_X7_opens : GoodIn wsX7_offer (wsV RX7 140 RX7 yX7_opens wsX7_opens) := goodIn_app (goodIn_of _ (by decide +kernel)) ggX7_offer_X7_opens
set_option maxRecDepth 20000 in
theorem ggX7_offer_X7_goes : GoodIn wsX7_offer wsX7_goes := goodIn_r _ [27, 28, 29, 30, 31, 32, 33, 34, 35, 36, 37, 38, 39, 40, 41, 42, 43, 44, 45, 46, 47, 48, 49, 50, 51] (by decide +kernel) (by decide +kernel)
set_option maxRecDepth 20000 in
theorem gX7_offer_X7_goes : GoodIn wsX7_offer (wsV RX7 89 RX7 yX7_goes wsX7_goes) := goodIn_app (goodIn_of _ (by decide +kernel)) ggX7_offer_X7_goes
theorem dX7_offer_0 : decode cX7_offer 0 = .ok (.aload_n 0, 1) := by decide +kernel
theorem dX7_offer_1 : decode cX7_offer 1 = .ok (.iload_n 1, 1) := by decide +kernel
theorem dX7_offer_2 : decode cX7_offer 2 = .ok (.invokevirtual 113, 3) := by decide +kernel
theorem dX7_offer_5 : decode cX7_offer 5 = .ok (.ifCond .eq 14, 3) := by decide +kernel
theorem dX7_offer_8 : decode cX7_offer 8 = .ok (.iload_n 2, 1) := by decide +kernel
theorem dX7_offer_9 : decode cX7_offer 9 = .ok (.invokestatic 85, 3) := by decide +kernel
theorem dX7_offer_12 : decode cX7_offer 12 = .ok (.ifCond .eq 7, 3) := by decide +kernel
theorem dX7_offer_15 : decode cX7_offer 15 = .ok (.iconst 1, 1) := by decide +kernel
theorem dX7_offer_16 : decode cX7_offer 16 = .ok (.goto 4, 3) := by decide +kernel
theorem dX7_offer_19 : decode cX7_offer 19 = .ok (.iconst 0, 1) := by decide +kernel
theorem dX7_offer_20 : decode cX7_offer 20 = .ok (.istore_n 3, 1) := by decide +kernel
theorem dX7_offer_21 : decode cX7_offer 21 = .ok (.aload_n 0, 1) := by decide +kernel
theorem dX7_offer_22 : decode cX7_offer 22 = .ok (.getfield 82, 3) := by decide +kernel
theorem dX7_offer_25 : decode cX7_offer 25 = .ok (.bipush 40, 2) := by decide +kernel
theorem dX7_offer_27 : decode cX7_offer 27 = .ok (.if_icmp .ge 7, 3) := by decide +kernel
theorem dX7_offer_30 : decode cX7_offer 30 = .ok (.iconst 1, 1) := by decide +kernel
theorem dX7_offer_31 : decode cX7_offer 31 = .ok (.goto 4, 3) := by decide +kernel
theorem dX7_offer_34 : decode cX7_offer 34 = .ok (.iconst 0, 1) := by decide +kernel
theorem dX7_offer_35 : decode cX7_offer 35 = .ok (.istore 4, 2) := by decide +kernel
theorem dX7_offer_37 : decode cX7_offer 37 = .ok (.iconst 0, 1) := by decide +kernel
theorem dX7_offer_38 : decode cX7_offer 38 = .ok (.istore 5, 2) := by decide +kernel
theorem dX7_offer_40 : decode cX7_offer 40 = .ok (.iload 5, 2) := by decide +kernel
theorem dX7_offer_42 : decode cX7_offer 42 = .ok (.aload_n 0, 1) := by decide +kernel
theorem dX7_offer_43 : decode cX7_offer 43 = .ok (.getfield 82, 3) := by decide +kernel
theorem dX7_offer_46 : decode cX7_offer 46 = .ok (.if_icmp .ge 41, 3) := by decide +kernel
theorem dX7_offer_49 : decode cX7_offer 49 = .ok (.iload 4, 2) := by decide +kernel
theorem dX7_offer_51 : decode cX7_offer 51 = .ok (.ifCond .eq 27, 3) := by decide +kernel
theorem dX7_offer_54 : decode cX7_offer 54 = .ok (.aload_n 0, 1) := by decide +kernel
theorem dX7_offer_55 : decode cX7_offer 55 = .ok (.getfield 54, 3) := by decide +kernel
theorem dX7_offer_58 : decode cX7_offer 58 = .ok (.iload 5, 2) := by decide +kernel
theorem dX7_offer_60 : decode cX7_offer 60 = .ok (.iaload, 1) := by decide +kernel
theorem dX7_offer_61 : decode cX7_offer 61 = .ok (.iload_n 1, 1) := by decide +kernel
theorem dX7_offer_62 : decode cX7_offer 62 = .ok (.if_icmp .ne 12, 3) := by decide +kernel
theorem dX7_offer_65 : decode cX7_offer 65 = .ok (.aload_n 0, 1) := by decide +kernel
theorem dX7_offer_66 : decode cX7_offer 66 = .ok (.iload 5, 2) := by decide +kernel
theorem dX7_offer_68 : decode cX7_offer 68 = .ok (.invokevirtual 140, 3) := by decide +kernel
theorem dX7_offer_71 : decode cX7_offer 71 = .ok (.ifCond .ne 7, 3) := by decide +kernel
theorem dX7_offer_74 : decode cX7_offer 74 = .ok (.iconst 1, 1) := by decide +kernel
theorem dX7_offer_75 : decode cX7_offer 75 = .ok (.goto 4, 3) := by decide +kernel
theorem dX7_offer_78 : decode cX7_offer 78 = .ok (.iconst 0, 1) := by decide +kernel
theorem dX7_offer_79 : decode cX7_offer 79 = .ok (.istore 4, 2) := by decide +kernel
theorem dX7_offer_81 : decode cX7_offer 81 = .ok (.iinc 5 1, 3) := by decide +kernel
theorem dX7_offer_84 : decode cX7_offer 84 = .ok (.goto (-44), 3) := by decide +kernel
theorem dX7_offer_87 : decode cX7_offer 87 = .ok (.aload_n 0, 1) := by decide +kernel
theorem dX7_offer_88 : decode cX7_offer 88 = .ok (.iload_n 3, 1) := by decide +kernel
theorem dX7_offer_89 : decode cX7_offer 89 = .ok (.iload_n 3, 1) := by decide +kernel
theorem dX7_offer_90 : decode cX7_offer 90 = .ok (.ifCond .eq 17, 3) := by decide +kernel
theorem dX7_offer_93 : decode cX7_offer 93 = .ok (.aload_n 0, 1) := by decide +kernel
theorem dX7_offer_94 : decode cX7_offer 94 = .ok (.getfield 33, 3) := by decide +kernel
theorem dX7_offer_97 : decode cX7_offer 97 = .ok (.iload_n 1, 1) := by decide +kernel
theorem dX7_offer_98 : decode cX7_offer 98 = .ok (.iaload, 1) := by decide +kernel
theorem dX7_offer_99 : decode cX7_offer 99 = .ok (.iload_n 2, 1) := by decide +kernel
theorem dX7_offer_100 : decode cX7_offer 100 = .ok (.if_icmp .eq 7, 3) := by decide +kernel
theorem dX7_offer_103 : decode cX7_offer 103 = .ok (.iconst 1, 1) := by decide +kernel
theorem dX7_offer_104 : decode cX7_offer 104 = .ok (.goto 4, 3) := by decide +kernel
theorem dX7_offer_107 : decode cX7_offer 107 = .ok (.iconst 0, 1) := by decide +kernel
theorem dX7_offer_108 : decode cX7_offer 108 = .ok (.iload 4, 2) := by decide +kernel
theorem dX7_offer_110 : decode cX7_offer 110 = .ok (.invokevirtual 89, 3) := by decide +kernel
theorem dX7_offer_113 : decode cX7_offer 113 = .ok (.ifCond .ne 5, 3) := by decide +kernel
theorem dX7_offer_116 : decode cX7_offer 116 = .ok (.iconst 0, 1) := by decide +kernel
theorem dX7_offer_117 : decode cX7_offer 117 = .ok (.ireturn, 1) := by decide +kernel
theorem dX7_offer_118 : decode cX7_offer 118 = .ok (.aload_n 0, 1) := by decide +kernel
theorem dX7_offer_119 : decode cX7_offer 119 = .ok (.getfield 54, 3) := by decide +kernel
theorem dX7_offer_122 : decode cX7_offer 122 = .ok (.aload_n 0, 1) := by decide +kernel
theorem dX7_offer_123 : decode cX7_offer 123 = .ok (.getfield 82, 3) := by decide +kernel
theorem dX7_offer_126 : decode cX7_offer 126 = .ok (.iload_n 1, 1) := by decide +kernel
theorem dX7_offer_127 : decode cX7_offer 127 = .ok (.iastore, 1) := by decide +kernel
theorem dX7_offer_128 : decode cX7_offer 128 = .ok (.aload_n 0, 1) := by decide +kernel
theorem dX7_offer_129 : decode cX7_offer 129 = .ok (.getfield 57, 3) := by decide +kernel
theorem dX7_offer_132 : decode cX7_offer 132 = .ok (.aload_n 0, 1) := by decide +kernel
theorem dX7_offer_133 : decode cX7_offer 133 = .ok (.getfield 82, 3) := by decide +kernel
theorem dX7_offer_136 : decode cX7_offer 136 = .ok (.aload_n 0, 1) := by decide +kernel
theorem dX7_offer_137 : decode cX7_offer 137 = .ok (.getfield 39, 3) := by decide +kernel
theorem dX7_offer_140 : decode cX7_offer 140 = .ok (.iload_n 1, 1) := by decide +kernel
theorem dX7_offer_141 : decode cX7_offer 141 = .ok (.iaload, 1) := by decide +kernel
theorem dX7_offer_142 : decode cX7_offer 142 = .ok (.iastore, 1) := by decide +kernel
theorem dX7_offer_143 : decode cX7_offer 143 = .ok (.aload_n 0, 1) := by decide +kernel
theorem dX7_offer_144 : decode cX7_offer 144 = .ok (.getfield 60, 3) := by decide +kernel
theorem dX7_offer_147 : decode cX7_offer 147 = .ok (.aload_n 0, 1) := by decide +kernel
theorem dX7_offer_148 : decode cX7_offer 148 = .ok (.getfield 82, 3) := by decide +kernel
theorem dX7_offer_151 : decode cX7_offer 151 = .ok (.iload_n 2, 1) := by decide +kernel
theorem dX7_offer_152 : decode cX7_offer 152 = .ok (.iastore, 1) := by decide +kernel
theorem dX7_offer_153 : decode cX7_offer 153 = .ok (.aload_n 0, 1) := by decide +kernel
theorem dX7_offer_154 : decode cX7_offer 154 = .ok (.dup, 1) := by decide +kernel
theorem dX7_offer_155 : decode cX7_offer 155 = .ok (.getfield 82, 3) := by decide +kernel
theorem dX7_offer_158 : decode cX7_offer 158 = .ok (.iconst 1, 1) := by decide +kernel
theorem dX7_offer_159 : decode cX7_offer 159 = .ok (.iadd, 1) := by decide +kernel
theorem dX7_offer_160 : decode cX7_offer 160 = .ok (.putfield 82, 3) := by decide +kernel
theorem dX7_offer_163 : decode cX7_offer 163 = .ok (.aload_n 0, 1) := by decide +kernel
theorem dX7_offer_164 : decode cX7_offer 164 = .ok (.getfield 82, 3) := by decide +kernel
theorem dX7_offer_167 : decode cX7_offer 167 = .ok (.iconst 1, 1) := by decide +kernel
theorem dX7_offer_168 : decode cX7_offer 168 = .ok (.isub, 1) := by decide +kernel
theorem dX7_offer_169 : decode cX7_offer 169 = .ok (.ireturn, 1) := by decide +kernel
set_option maxRecDepth 20000 in
theorem ggX7_takeBack_X7_isOffer : GoodIn wsX7_takeBack wsX7_isOffer := goodIn_r _ [7, 8, 9, 10, 6, 11, 23, 24, 25, 26, 27, 28, 29, 30, 31, 32, 33, 34, 35, 36, 37, 38, 39, 40, 41, 42, 43, 44, 45] (by decide +kernel) (by decide +kernel)
set_option maxRecDepth 20000 in
theorem gX7_takeBack_X7_isOffer : GoodIn wsX7_takeBack (wsV RX7 143 RX7 yX7_isOffer wsX7_isOffer) := goodIn_app (goodIn_of _ (by decide +kernel)) ggX7_takeBack_X7_isOffer
set_option maxRecDepth 20000 in
theorem ggX7_takeBack_X7_opens : GoodIn wsX7_takeBack wsX7_opens := goodIn_r _ [15, 1, 16, 2, 17, 23, 24, 25, 26, 27, 28, 29, 30, 31, 32, 33, 34, 35, 36, 37, 38, 39, 40, 41, 42, 43, 44, 45] (by decide +kernel) (by decide +kernel)
set_option maxRecDepth 20000 in
theorem gX7_takeBack_X7_opens : GoodIn wsX7_takeBack (wsV RX7 140 RX7 yX7_opens wsX7_opens) := goodIn_app (goodIn_of _ (by decide +kernel)) ggX7_takeBack_X7_opens
set_option maxRecDepth 20000 in
theorem ggX7_takeBack_X7_goes : GoodIn wsX7_takeBack wsX7_goes := goodIn_r _ [21, 22, 23, 24, 25, 26, 27, 28, 29, 30, 31, 32, 33, 34, 35, 36, 37, 38, 39, 40, 41, 42, 43, 44, 45] (by decide +kernel) (by decide +kernel)
set_option maxRecDepth 20000 in
theorem gX7_takeBack_X7_goes : GoodIn wsX7_takeBack (wsV RX7 89 RX7 yX7_goes wsX7_goes) := goodIn_app (goodIn_of _ (by decide +kernel)) ggX7_takeBack_X7_goes
theorem dX7_takeBack_0 : decode cX7_takeBack 0 = .ok (.aload_n 0, 1) := by decide +kernel
theorem dX7_takeBack_1 : decode cX7_takeBack 1 = .ok (.iload_n 1, 1) := by decide +kernel
theorem dX7_takeBack_2 : decode cX7_takeBack 2 = .ok (.invokevirtual 143, 3) := by decide +kernel
theorem dX7_takeBack_5 : decode cX7_takeBack 5 = .ok (.istore_n 2, 1) := by decide +kernel
theorem dX7_takeBack_6 : decode cX7_takeBack 6 = .ok (.aload_n 0, 1) := by decide +kernel
theorem dX7_takeBack_7 : decode cX7_takeBack 7 = .ok (.iload_n 2, 1) := by decide +kernel
theorem dX7_takeBack_8 : decode cX7_takeBack 8 = .ok (.iload_n 2, 1) := by decide +kernel
theorem dX7_takeBack_9 : decode cX7_takeBack 9 = .ok (.ifCond .eq 15, 3) := by decide +kernel
theorem dX7_takeBack_12 : decode cX7_takeBack 12 = .ok (.aload_n 0, 1) := by decide +kernel
theorem dX7_takeBack_13 : decode cX7_takeBack 13 = .ok (.iload_n 1, 1) := by decide +kernel
theorem dX7_takeBack_14 : decode cX7_takeBack 14 = .ok (.invokevirtual 140, 3) := by decide +kernel
theorem dX7_takeBack_17 : decode cX7_takeBack 17 = .ok (.ifCond .eq 7, 3) := by decide +kernel
theorem dX7_takeBack_20 : decode cX7_takeBack 20 = .ok (.iconst 1, 1) := by decide +kernel
theorem dX7_takeBack_21 : decode cX7_takeBack 21 = .ok (.goto 4, 3) := by decide +kernel
theorem dX7_takeBack_24 : decode cX7_takeBack 24 = .ok (.iconst 0, 1) := by decide +kernel
theorem dX7_takeBack_25 : decode cX7_takeBack 25 = .ok (.iconst 1, 1) := by decide +kernel
theorem dX7_takeBack_26 : decode cX7_takeBack 26 = .ok (.invokevirtual 89, 3) := by decide +kernel
theorem dX7_takeBack_29 : decode cX7_takeBack 29 = .ok (.ifCond .ne 5, 3) := by decide +kernel
theorem dX7_takeBack_32 : decode cX7_takeBack 32 = .ok (.iconst 0, 1) := by decide +kernel
theorem dX7_takeBack_33 : decode cX7_takeBack 33 = .ok (.ireturn, 1) := by decide +kernel
theorem dX7_takeBack_34 : decode cX7_takeBack 34 = .ok (.aload_n 0, 1) := by decide +kernel
theorem dX7_takeBack_35 : decode cX7_takeBack 35 = .ok (.getfield 63, 3) := by decide +kernel
theorem dX7_takeBack_38 : decode cX7_takeBack 38 = .ok (.iload_n 1, 1) := by decide +kernel
theorem dX7_takeBack_39 : decode cX7_takeBack 39 = .ok (.iconst 1, 1) := by decide +kernel
theorem dX7_takeBack_40 : decode cX7_takeBack 40 = .ok (.bastore, 1) := by decide +kernel
theorem dX7_takeBack_41 : decode cX7_takeBack 41 = .ok (.aload_n 0, 1) := by decide +kernel
theorem dX7_takeBack_42 : decode cX7_takeBack 42 = .ok (.getfield 54, 3) := by decide +kernel
theorem dX7_takeBack_45 : decode cX7_takeBack 45 = .ok (.iload_n 1, 1) := by decide +kernel
theorem dX7_takeBack_46 : decode cX7_takeBack 46 = .ok (.iaload, 1) := by decide +kernel
theorem dX7_takeBack_47 : decode cX7_takeBack 47 = .ok (.ireturn, 1) := by decide +kernel
theorem dX7_gives_0 : decode cX7_gives 0 = .ok (.aload_n 0, 1) := by decide +kernel
theorem dX7_gives_1 : decode cX7_gives 1 = .ok (.getfield 57, 3) := by decide +kernel
theorem dX7_gives_4 : decode cX7_gives 4 = .ok (.iload_n 1, 1) := by decide +kernel
theorem dX7_gives_5 : decode cX7_gives 5 = .ok (.iaload, 1) := by decide +kernel
theorem dX7_gives_6 : decode cX7_gives 6 = .ok (.aload_n 0, 1) := by decide +kernel
theorem dX7_gives_7 : decode cX7_gives 7 = .ok (.getfield 57, 3) := by decide +kernel
theorem dX7_gives_10 : decode cX7_gives 10 = .ok (.iload_n 2, 1) := by decide +kernel
theorem dX7_gives_11 : decode cX7_gives 11 = .ok (.iaload, 1) := by decide +kernel
theorem dX7_gives_12 : decode cX7_gives 12 = .ok (.if_icmp .eq 27, 3) := by decide +kernel
theorem dX7_gives_15 : decode cX7_gives 15 = .ok (.aload_n 0, 1) := by decide +kernel
theorem dX7_gives_16 : decode cX7_gives 16 = .ok (.getfield 33, 3) := by decide +kernel
theorem dX7_gives_19 : decode cX7_gives 19 = .ok (.aload_n 0, 1) := by decide +kernel
theorem dX7_gives_20 : decode cX7_gives 20 = .ok (.getfield 54, 3) := by decide +kernel
theorem dX7_gives_23 : decode cX7_gives 23 = .ok (.iload_n 1, 1) := by decide +kernel
theorem dX7_gives_24 : decode cX7_gives 24 = .ok (.iaload, 1) := by decide +kernel
theorem dX7_gives_25 : decode cX7_gives 25 = .ok (.iaload, 1) := by decide +kernel
theorem dX7_gives_26 : decode cX7_gives 26 = .ok (.aload_n 0, 1) := by decide +kernel
theorem dX7_gives_27 : decode cX7_gives 27 = .ok (.getfield 60, 3) := by decide +kernel
theorem dX7_gives_30 : decode cX7_gives 30 = .ok (.iload_n 2, 1) := by decide +kernel
theorem dX7_gives_31 : decode cX7_gives 31 = .ok (.iaload, 1) := by decide +kernel
theorem dX7_gives_32 : decode cX7_gives 32 = .ok (.if_icmp .ne 7, 3) := by decide +kernel
theorem dX7_gives_35 : decode cX7_gives 35 = .ok (.iconst 1, 1) := by decide +kernel
theorem dX7_gives_36 : decode cX7_gives 36 = .ok (.goto 4, 3) := by decide +kernel
theorem dX7_gives_39 : decode cX7_gives 39 = .ok (.iconst 0, 1) := by decide +kernel
theorem dX7_gives_40 : decode cX7_gives 40 = .ok (.ireturn, 1) := by decide +kernel
set_option maxRecDepth 20000 in
theorem ggX7_fits_X7_opens : GoodIn wsX7_fits wsX7_opens := goodIn_r _ [7, 8, 9, 10, 2, 17, 18, 19, 20, 21, 22, 23, 24, 25, 26, 27, 28, 29, 30, 31, 32, 33, 34, 35, 36, 37, 38, 39] (by decide +kernel) (by decide +kernel)
set_option maxRecDepth 20000 in
theorem gX7_fits_X7_opens : GoodIn wsX7_fits (wsV RX7 140 RX7 yX7_opens wsX7_opens) := goodIn_app (goodIn_of _ (by decide +kernel)) ggX7_fits_X7_opens
set_option maxRecDepth 20000 in
theorem ggX7_fits_X7_gives : GoodIn wsX7_fits wsX7_gives := goodIn_r _ [14, 2, 15, 10, 16, 17, 18, 19, 20, 21, 22, 23, 24, 25, 26, 27, 28, 29, 30, 31, 32, 33, 34, 35, 36, 37, 38, 39] (by decide +kernel) (by decide +kernel)
set_option maxRecDepth 20000 in
theorem gX7_fits_X7_gives : GoodIn wsX7_fits (wsV RX7 146 RX7 yX7_gives wsX7_gives) := goodIn_app (goodIn_of _ (by decide +kernel)) ggX7_fits_X7_gives
theorem dX7_fits_0 : decode cX7_fits 0 = .ok (.aload_n 0, 1) := by decide +kernel
theorem dX7_fits_1 : decode cX7_fits 1 = .ok (.getfield 66, 3) := by decide +kernel
theorem dX7_fits_4 : decode cX7_fits 4 = .ok (.iload_n 1, 1) := by decide +kernel
theorem dX7_fits_5 : decode cX7_fits 5 = .ok (.iaload, 1) := by decide +kernel
theorem dX7_fits_6 : decode cX7_fits 6 = .ok (.istore_n 3, 1) := by decide +kernel
theorem dX7_fits_7 : decode cX7_fits 7 = .ok (.aload_n 0, 1) := by decide +kernel
theorem dX7_fits_8 : decode cX7_fits 8 = .ok (.iload_n 3, 1) := by decide +kernel
theorem dX7_fits_9 : decode cX7_fits 9 = .ok (.invokevirtual 140, 3) := by decide +kernel
theorem dX7_fits_12 : decode cX7_fits 12 = .ok (.ifCond .eq 37, 3) := by decide +kernel
theorem dX7_fits_15 : decode cX7_fits 15 = .ok (.iload_n 1, 1) := by decide +kernel
theorem dX7_fits_16 : decode cX7_fits 16 = .ok (.ifCond .eq 29, 3) := by decide +kernel
theorem dX7_fits_19 : decode cX7_fits 19 = .ok (.iload_n 3, 1) := by decide +kernel
theorem dX7_fits_20 : decode cX7_fits 20 = .ok (.aload_n 0, 1) := by decide +kernel
theorem dX7_fits_21 : decode cX7_fits 21 = .ok (.getfield 66, 3) := by decide +kernel
theorem dX7_fits_24 : decode cX7_fits 24 = .ok (.iconst 0, 1) := by decide +kernel
theorem dX7_fits_25 : decode cX7_fits 25 = .ok (.iaload, 1) := by decide +kernel
theorem dX7_fits_26 : decode cX7_fits 26 = .ok (.if_icmp .le 23, 3) := by decide +kernel
theorem dX7_fits_29 : decode cX7_fits 29 = .ok (.aload_n 0, 1) := by decide +kernel
theorem dX7_fits_30 : decode cX7_fits 30 = .ok (.aload_n 0, 1) := by decide +kernel
theorem dX7_fits_31 : decode cX7_fits 31 = .ok (.getfield 66, 3) := by decide +kernel
theorem dX7_fits_34 : decode cX7_fits 34 = .ok (.iload_n 1, 1) := by decide +kernel
theorem dX7_fits_35 : decode cX7_fits 35 = .ok (.iconst 1, 1) := by decide +kernel
theorem dX7_fits_36 : decode cX7_fits 36 = .ok (.isub, 1) := by decide +kernel
theorem dX7_fits_37 : decode cX7_fits 37 = .ok (.iaload, 1) := by decide +kernel
theorem dX7_fits_38 : decode cX7_fits 38 = .ok (.iload_n 3, 1) := by decide +kernel
theorem dX7_fits_39 : decode cX7_fits 39 = .ok (.invokevirtual 146, 3) := by decide +kernel
theorem dX7_fits_42 : decode cX7_fits 42 = .ok (.ifCond .eq 7, 3) := by decide +kernel
theorem dX7_fits_45 : decode cX7_fits 45 = .ok (.iconst 1, 1) := by decide +kernel
theorem dX7_fits_46 : decode cX7_fits 46 = .ok (.goto 4, 3) := by decide +kernel
theorem dX7_fits_49 : decode cX7_fits 49 = .ok (.iconst 0, 1) := by decide +kernel
theorem dX7_fits_50 : decode cX7_fits 50 = .ok (.istore 4, 2) := by decide +kernel
theorem dX7_fits_52 : decode cX7_fits 52 = .ok (.iconst 0, 1) := by decide +kernel
theorem dX7_fits_53 : decode cX7_fits 53 = .ok (.istore 5, 2) := by decide +kernel
theorem dX7_fits_55 : decode cX7_fits 55 = .ok (.iload 5, 2) := by decide +kernel
theorem dX7_fits_57 : decode cX7_fits 57 = .ok (.iload_n 1, 1) := by decide +kernel
theorem dX7_fits_58 : decode cX7_fits 58 = .ok (.if_icmp .ge 42, 3) := by decide +kernel
theorem dX7_fits_61 : decode cX7_fits 61 = .ok (.iload 4, 2) := by decide +kernel
theorem dX7_fits_63 : decode cX7_fits 63 = .ok (.ifCond .eq 28, 3) := by decide +kernel
theorem dX7_fits_66 : decode cX7_fits 66 = .ok (.aload_n 0, 1) := by decide +kernel
theorem dX7_fits_67 : decode cX7_fits 67 = .ok (.getfield 57, 3) := by decide +kernel
theorem dX7_fits_70 : decode cX7_fits 70 = .ok (.aload_n 0, 1) := by decide +kernel
theorem dX7_fits_71 : decode cX7_fits 71 = .ok (.getfield 66, 3) := by decide +kernel
theorem dX7_fits_74 : decode cX7_fits 74 = .ok (.iload 5, 2) := by decide +kernel
theorem dX7_fits_76 : decode cX7_fits 76 = .ok (.iaload, 1) := by decide +kernel
theorem dX7_fits_77 : decode cX7_fits 77 = .ok (.iaload, 1) := by decide +kernel
theorem dX7_fits_78 : decode cX7_fits 78 = .ok (.aload_n 0, 1) := by decide +kernel
theorem dX7_fits_79 : decode cX7_fits 79 = .ok (.getfield 57, 3) := by decide +kernel
theorem dX7_fits_82 : decode cX7_fits 82 = .ok (.iload_n 3, 1) := by decide +kernel
theorem dX7_fits_83 : decode cX7_fits 83 = .ok (.iaload, 1) := by decide +kernel
theorem dX7_fits_84 : decode cX7_fits 84 = .ok (.if_icmp .eq 7, 3) := by decide +kernel
theorem dX7_fits_87 : decode cX7_fits 87 = .ok (.iconst 1, 1) := by decide +kernel
theorem dX7_fits_88 : decode cX7_fits 88 = .ok (.goto 4, 3) := by decide +kernel
theorem dX7_fits_91 : decode cX7_fits 91 = .ok (.iconst 0, 1) := by decide +kernel
theorem dX7_fits_92 : decode cX7_fits 92 = .ok (.istore 4, 2) := by decide +kernel
theorem dX7_fits_94 : decode cX7_fits 94 = .ok (.iinc 5 1, 3) := by decide +kernel
theorem dX7_fits_97 : decode cX7_fits 97 = .ok (.goto (-42), 3) := by decide +kernel
theorem dX7_fits_100 : decode cX7_fits 100 = .ok (.iload 4, 2) := by decide +kernel
theorem dX7_fits_102 : decode cX7_fits 102 = .ok (.ifCond .eq 28, 3) := by decide +kernel
theorem dX7_fits_105 : decode cX7_fits 105 = .ok (.iload_n 1, 1) := by decide +kernel
theorem dX7_fits_106 : decode cX7_fits 106 = .ok (.iload_n 2, 1) := by decide +kernel
theorem dX7_fits_107 : decode cX7_fits 107 = .ok (.iconst 1, 1) := by decide +kernel
theorem dX7_fits_108 : decode cX7_fits 108 = .ok (.isub, 1) := by decide +kernel
theorem dX7_fits_109 : decode cX7_fits 109 = .ok (.if_icmp .lt 17, 3) := by decide +kernel
theorem dX7_fits_112 : decode cX7_fits 112 = .ok (.aload_n 0, 1) := by decide +kernel
theorem dX7_fits_113 : decode cX7_fits 113 = .ok (.iload_n 3, 1) := by decide +kernel
theorem dX7_fits_114 : decode cX7_fits 114 = .ok (.aload_n 0, 1) := by decide +kernel
theorem dX7_fits_115 : decode cX7_fits 115 = .ok (.getfield 66, 3) := by decide +kernel
theorem dX7_fits_118 : decode cX7_fits 118 = .ok (.iconst 0, 1) := by decide +kernel
theorem dX7_fits_119 : decode cX7_fits 119 = .ok (.iaload, 1) := by decide +kernel
theorem dX7_fits_120 : decode cX7_fits 120 = .ok (.invokevirtual 146, 3) := by decide +kernel
theorem dX7_fits_123 : decode cX7_fits 123 = .ok (.ifCond .eq 7, 3) := by decide +kernel
theorem dX7_fits_126 : decode cX7_fits 126 = .ok (.iconst 1, 1) := by decide +kernel
theorem dX7_fits_127 : decode cX7_fits 127 = .ok (.goto 4, 3) := by decide +kernel
theorem dX7_fits_130 : decode cX7_fits 130 = .ok (.iconst 0, 1) := by decide +kernel
theorem dX7_fits_131 : decode cX7_fits 131 = .ok (.ireturn, 1) := by decide +kernel
set_option maxRecDepth 20000 in
theorem ggX7_hasRing_X7_fits : GoodIn wsX7_hasRing wsX7_fits := goodIn_r _ [7, 1, 8, 9, 10, 11, 6, 12, 13, 14, 15, 16, 17, 18, 19, 20, 21, 22, 23, 24, 25, 26, 27, 28, 29, 30, 31, 32, 33, 34, 35, 36, 37, 38, 39, 40, 41, 42, 43, 44] (by decide +kernel) (by decide +kernel)
set_option maxRecDepth 20000 in
theorem gX7_hasRing_X7_fits : GoodIn wsX7_hasRing (wsV RX7 149 RX7 yX7_fits wsX7_fits) := goodIn_app (goodIn_of _ (by decide +kernel)) ggX7_hasRing_X7_fits
theorem dX7_hasRing_0 : decode cX7_hasRing 0 = .ok (.iconst 0, 1) := by decide +kernel
theorem dX7_hasRing_1 : decode cX7_hasRing 1 = .ok (.istore_n 2, 1) := by decide +kernel
theorem dX7_hasRing_2 : decode cX7_hasRing 2 = .ok (.aload_n 0, 1) := by decide +kernel
theorem dX7_hasRing_3 : decode cX7_hasRing 3 = .ok (.getfield 66, 3) := by decide +kernel
theorem dX7_hasRing_6 : decode cX7_hasRing 6 = .ok (.iconst 0, 1) := by decide +kernel
theorem dX7_hasRing_7 : decode cX7_hasRing 7 = .ok (.iconst (-1), 1) := by decide +kernel
theorem dX7_hasRing_8 : decode cX7_hasRing 8 = .ok (.iastore, 1) := by decide +kernel
theorem dX7_hasRing_9 : decode cX7_hasRing 9 = .ok (.iload_n 2, 1) := by decide +kernel
theorem dX7_hasRing_10 : decode cX7_hasRing 10 = .ok (.ifCond .lt 63, 3) := by decide +kernel
theorem dX7_hasRing_13 : decode cX7_hasRing 13 = .ok (.aload_n 0, 1) := by decide +kernel
theorem dX7_hasRing_14 : decode cX7_hasRing 14 = .ok (.getfield 66, 3) := by decide +kernel
theorem dX7_hasRing_17 : decode cX7_hasRing 17 = .ok (.iload_n 2, 1) := by decide +kernel
theorem dX7_hasRing_18 : decode cX7_hasRing 18 = .ok (.dup2, 1) := by decide +kernel
theorem dX7_hasRing_19 : decode cX7_hasRing 19 = .ok (.iaload, 1) := by decide +kernel
theorem dX7_hasRing_20 : decode cX7_hasRing 20 = .ok (.iconst 1, 1) := by decide +kernel
theorem dX7_hasRing_21 : decode cX7_hasRing 21 = .ok (.iadd, 1) := by decide +kernel
theorem dX7_hasRing_22 : decode cX7_hasRing 22 = .ok (.iastore, 1) := by decide +kernel
theorem dX7_hasRing_23 : decode cX7_hasRing 23 = .ok (.aload_n 0, 1) := by decide +kernel
theorem dX7_hasRing_24 : decode cX7_hasRing 24 = .ok (.getfield 66, 3) := by decide +kernel
theorem dX7_hasRing_27 : decode cX7_hasRing 27 = .ok (.iload_n 2, 1) := by decide +kernel
theorem dX7_hasRing_28 : decode cX7_hasRing 28 = .ok (.iaload, 1) := by decide +kernel
theorem dX7_hasRing_29 : decode cX7_hasRing 29 = .ok (.aload_n 0, 1) := by decide +kernel
theorem dX7_hasRing_30 : decode cX7_hasRing 30 = .ok (.getfield 82, 3) := by decide +kernel
theorem dX7_hasRing_33 : decode cX7_hasRing 33 = .ok (.if_icmp .ne 9, 3) := by decide +kernel
theorem dX7_hasRing_36 : decode cX7_hasRing 36 = .ok (.iinc 2 (-1), 3) := by decide +kernel
theorem dX7_hasRing_39 : decode cX7_hasRing 39 = .ok (.goto (-30), 3) := by decide +kernel
theorem dX7_hasRing_42 : decode cX7_hasRing 42 = .ok (.aload_n 0, 1) := by decide +kernel
theorem dX7_hasRing_43 : decode cX7_hasRing 43 = .ok (.iload_n 2, 1) := by decide +kernel
theorem dX7_hasRing_44 : decode cX7_hasRing 44 = .ok (.iload_n 1, 1) := by decide +kernel
theorem dX7_hasRing_45 : decode cX7_hasRing 45 = .ok (.invokevirtual 149, 3) := by decide +kernel
theorem dX7_hasRing_48 : decode cX7_hasRing 48 = .ok (.ifCond .eq (-39), 3) := by decide +kernel
theorem dX7_hasRing_51 : decode cX7_hasRing 51 = .ok (.iload_n 2, 1) := by decide +kernel
theorem dX7_hasRing_52 : decode cX7_hasRing 52 = .ok (.iload_n 1, 1) := by decide +kernel
theorem dX7_hasRing_53 : decode cX7_hasRing 53 = .ok (.iconst 1, 1) := by decide +kernel
theorem dX7_hasRing_54 : decode cX7_hasRing 54 = .ok (.isub, 1) := by decide +kernel
theorem dX7_hasRing_55 : decode cX7_hasRing 55 = .ok (.if_icmp .ne 5, 3) := by decide +kernel
theorem dX7_hasRing_58 : decode cX7_hasRing 58 = .ok (.iconst 1, 1) := by decide +kernel
theorem dX7_hasRing_59 : decode cX7_hasRing 59 = .ok (.ireturn, 1) := by decide +kernel
theorem dX7_hasRing_60 : decode cX7_hasRing 60 = .ok (.iinc 2 1, 3) := by decide +kernel
theorem dX7_hasRing_63 : decode cX7_hasRing 63 = .ok (.aload_n 0, 1) := by decide +kernel
theorem dX7_hasRing_64 : decode cX7_hasRing 64 = .ok (.getfield 66, 3) := by decide +kernel
theorem dX7_hasRing_67 : decode cX7_hasRing 67 = .ok (.iload_n 2, 1) := by decide +kernel
theorem dX7_hasRing_68 : decode cX7_hasRing 68 = .ok (.iconst (-1), 1) := by decide +kernel
theorem dX7_hasRing_69 : decode cX7_hasRing 69 = .ok (.iastore, 1) := by decide +kernel
theorem dX7_hasRing_70 : decode cX7_hasRing 70 = .ok (.goto (-61), 3) := by decide +kernel
theorem dX7_hasRing_73 : decode cX7_hasRing 73 = .ok (.iconst 0, 1) := by decide +kernel
theorem dX7_hasRing_74 : decode cX7_hasRing 74 = .ok (.ireturn, 1) := by decide +kernel
set_option maxRecDepth 20000 in
theorem ggX7_first_X7_hasRing : GoodIn wsX7_first wsX7_hasRing := goodIn_r _ [5, 6, 7, 8, 9, 10, 4, 11, 12, 13, 14, 15, 16, 17, 18, 19, 20, 21, 22, 23, 24, 25, 26, 27, 28, 29, 30, 31, 32, 33, 34, 35, 36, 37, 38, 39, 40, 41, 42, 43, 44, 45, 46, 47, 48] (by decide +kernel) (by decide +kernel)
set_option maxRecDepth 20000 in
theorem gX7_first_X7_hasRing : GoodIn wsX7_first (wsV RX7 152 RX7 yX7_hasRing wsX7_hasRing) := goodIn_app (goodIn_of _ (by decide +kernel)) ggX7_first_X7_hasRing
theorem dX7_first_0 : decode cX7_first 0 = .ok (.aload_n 0, 1) := by decide +kernel
theorem dX7_first_1 : decode cX7_first 1 = .ok (.iconst 2, 1) := by decide +kernel
theorem dX7_first_2 : decode cX7_first 2 = .ok (.invokevirtual 152, 3) := by decide +kernel
theorem dX7_first_5 : decode cX7_first 5 = .ok (.ifCond .eq 7, 3) := by decide +kernel
theorem dX7_first_8 : decode cX7_first 8 = .ok (.iconst 2, 1) := by decide +kernel
theorem dX7_first_9 : decode cX7_first 9 = .ok (.goto 28, 3) := by decide +kernel
theorem dX7_first_12 : decode cX7_first 12 = .ok (.aload_n 0, 1) := by decide +kernel
theorem dX7_first_13 : decode cX7_first 13 = .ok (.iconst 3, 1) := by decide +kernel
theorem dX7_first_14 : decode cX7_first 14 = .ok (.invokevirtual 152, 3) := by decide +kernel
theorem dX7_first_17 : decode cX7_first 17 = .ok (.ifCond .eq 7, 3) := by decide +kernel
theorem dX7_first_20 : decode cX7_first 20 = .ok (.iconst 3, 1) := by decide +kernel
theorem dX7_first_21 : decode cX7_first 21 = .ok (.goto 16, 3) := by decide +kernel
theorem dX7_first_24 : decode cX7_first 24 = .ok (.aload_n 0, 1) := by decide +kernel
theorem dX7_first_25 : decode cX7_first 25 = .ok (.iconst 4, 1) := by decide +kernel
theorem dX7_first_26 : decode cX7_first 26 = .ok (.invokevirtual 152, 3) := by decide +kernel
theorem dX7_first_29 : decode cX7_first 29 = .ok (.ifCond .eq 7, 3) := by decide +kernel
theorem dX7_first_32 : decode cX7_first 32 = .ok (.iconst 4, 1) := by decide +kernel
theorem dX7_first_33 : decode cX7_first 33 = .ok (.goto 4, 3) := by decide +kernel
theorem dX7_first_36 : decode cX7_first 36 = .ok (.iconst 0, 1) := by decide +kernel
theorem dX7_first_37 : decode cX7_first 37 = .ok (.ireturn, 1) := by decide +kernel
set_option maxRecDepth 20000 in
theorem ggX7_trade_X7_first : GoodIn wsX7_trade wsX7_first := goodIn_r _ [11, 12, 13, 14, 10, 15, 2, 16, 17, 18, 19, 20, 5, 21, 22, 23, 24, 6, 3, 4, 25, 26, 27, 28, 29, 30, 31, 32, 33, 34, 35, 36, 37, 38, 39, 40, 41, 42, 43, 44, 45, 46, 47, 48, 49, 50, 51, 52, 53] (by decide +kernel) (by decide +kernel)
set_option maxRecDepth 20000 in
theorem gX7_trade_X7_first : GoodIn wsX7_trade (wsV RX7 155 RX7 yX7_first wsX7_first) := goodIn_app (goodIn_of _ (by decide +kernel)) ggX7_trade_X7_first
theorem dX7_trade_0 : decode cX7_trade 0 = .ok (.aload_n 0, 1) := by decide +kernel
theorem dX7_trade_1 : decode cX7_trade 1 = .ok (.iconst 0, 1) := by decide +kernel
theorem dX7_trade_2 : decode cX7_trade 2 = .ok (.putfield 69, 3) := by decide +kernel
theorem dX7_trade_5 : decode cX7_trade 5 = .ok (.aload_n 0, 1) := by decide +kernel
theorem dX7_trade_6 : decode cX7_trade 6 = .ok (.invokevirtual 155, 3) := by decide +kernel
theorem dX7_trade_9 : decode cX7_trade 9 = .ok (.istore_n 1, 1) := by decide +kernel
theorem dX7_trade_10 : decode cX7_trade 10 = .ok (.iconst 0, 1) := by decide +kernel
theorem dX7_trade_11 : decode cX7_trade 11 = .ok (.istore_n 2, 1) := by decide +kernel
theorem dX7_trade_12 : decode cX7_trade 12 = .ok (.iload_n 2, 1) := by decide +kernel
theorem dX7_trade_13 : decode cX7_trade 13 = .ok (.iload_n 1, 1) := by decide +kernel
theorem dX7_trade_14 : decode cX7_trade 14 = .ok (.if_icmp .ge 63, 3) := by decide +kernel
theorem dX7_trade_17 : decode cX7_trade 17 = .ok (.aload_n 0, 1) := by decide +kernel
theorem dX7_trade_18 : decode cX7_trade 18 = .ok (.getfield 66, 3) := by decide +kernel
theorem dX7_trade_21 : decode cX7_trade 21 = .ok (.iload_n 2, 1) := by decide +kernel
theorem dX7_trade_22 : decode cX7_trade 22 = .ok (.iconst 1, 1) := by decide +kernel
theorem dX7_trade_23 : decode cX7_trade 23 = .ok (.iadd, 1) := by decide +kernel
theorem dX7_trade_24 : decode cX7_trade 24 = .ok (.iload_n 1, 1) := by decide +kernel
theorem dX7_trade_25 : decode cX7_trade 25 = .ok (.if_icmp .ne 7, 3) := by decide +kernel
theorem dX7_trade_28 : decode cX7_trade 28 = .ok (.iconst 0, 1) := by decide +kernel
theorem dX7_trade_29 : decode cX7_trade 29 = .ok (.goto 6, 3) := by decide +kernel
theorem dX7_trade_32 : decode cX7_trade 32 = .ok (.iload_n 2, 1) := by decide +kernel
theorem dX7_trade_33 : decode cX7_trade 33 = .ok (.iconst 1, 1) := by decide +kernel
theorem dX7_trade_34 : decode cX7_trade 34 = .ok (.iadd, 1) := by decide +kernel
theorem dX7_trade_35 : decode cX7_trade 35 = .ok (.iaload, 1) := by decide +kernel
theorem dX7_trade_36 : decode cX7_trade 36 = .ok (.istore_n 3, 1) := by decide +kernel
theorem dX7_trade_37 : decode cX7_trade 37 = .ok (.aload_n 0, 1) := by decide +kernel
theorem dX7_trade_38 : decode cX7_trade 38 = .ok (.getfield 39, 3) := by decide +kernel
theorem dX7_trade_41 : decode cX7_trade 41 = .ok (.aload_n 0, 1) := by decide +kernel
theorem dX7_trade_42 : decode cX7_trade 42 = .ok (.getfield 54, 3) := by decide +kernel
theorem dX7_trade_45 : decode cX7_trade 45 = .ok (.aload_n 0, 1) := by decide +kernel
theorem dX7_trade_46 : decode cX7_trade 46 = .ok (.getfield 66, 3) := by decide +kernel
theorem dX7_trade_49 : decode cX7_trade 49 = .ok (.iload_n 2, 1) := by decide +kernel
theorem dX7_trade_50 : decode cX7_trade 50 = .ok (.iaload, 1) := by decide +kernel
theorem dX7_trade_51 : decode cX7_trade 51 = .ok (.iaload, 1) := by decide +kernel
theorem dX7_trade_52 : decode cX7_trade 52 = .ok (.aload_n 0, 1) := by decide +kernel
theorem dX7_trade_53 : decode cX7_trade 53 = .ok (.getfield 57, 3) := by decide +kernel
theorem dX7_trade_56 : decode cX7_trade 56 = .ok (.iload_n 3, 1) := by decide +kernel
theorem dX7_trade_57 : decode cX7_trade 57 = .ok (.iaload, 1) := by decide +kernel
theorem dX7_trade_58 : decode cX7_trade 58 = .ok (.iastore, 1) := by decide +kernel
theorem dX7_trade_59 : decode cX7_trade 59 = .ok (.aload_n 0, 1) := by decide +kernel
theorem dX7_trade_60 : decode cX7_trade 60 = .ok (.getfield 63, 3) := by decide +kernel
theorem dX7_trade_63 : decode cX7_trade 63 = .ok (.aload_n 0, 1) := by decide +kernel
theorem dX7_trade_64 : decode cX7_trade 64 = .ok (.getfield 66, 3) := by decide +kernel
theorem dX7_trade_67 : decode cX7_trade 67 = .ok (.iload_n 2, 1) := by decide +kernel
theorem dX7_trade_68 : decode cX7_trade 68 = .ok (.iaload, 1) := by decide +kernel
theorem dX7_trade_69 : decode cX7_trade 69 = .ok (.iconst 1, 1) := by decide +kernel
theorem dX7_trade_70 : decode cX7_trade 70 = .ok (.bastore, 1) := by decide +kernel
theorem dX7_trade_71 : decode cX7_trade 71 = .ok (.iinc 2 1, 3) := by decide +kernel
theorem dX7_trade_74 : decode cX7_trade 74 = .ok (.goto (-62), 3) := by decide +kernel
theorem dX7_trade_77 : decode cX7_trade 77 = .ok (.iload_n 1, 1) := by decide +kernel
theorem dX7_trade_78 : decode cX7_trade 78 = .ok (.ireturn, 1) := by decide +kernel
set_option maxRecDepth 20000 in
theorem ggX7_cards_X7_told : GoodIn wsX7_cards wsX7_told := goodIn_r _ [6, 7, 8, 9, 10, 11, 12, 13, 14, 15, 16, 17, 18, 19, 20, 21, 22, 23, 24, 25, 26, 27, 28, 29, 30] (by decide +kernel) (by decide +kernel)
set_option maxRecDepth 20000 in
theorem gX7_cards_X7_told : GoodIn wsX7_cards (wsV RX7 158 RX7 yX7_told wsX7_told) := goodIn_app (goodIn_of _ (by decide +kernel)) ggX7_cards_X7_told
theorem dX7_cards_0 : decode cX7_cards 0 = .ok (.aload_n 0, 1) := by decide +kernel
theorem dX7_cards_1 : decode cX7_cards 1 = .ok (.aload_n 0, 1) := by decide +kernel
theorem dX7_cards_2 : decode cX7_cards 2 = .ok (.getfield 76, 3) := by decide +kernel
theorem dX7_cards_5 : decode cX7_cards 5 = .ok (.invokevirtual 158, 3) := by decide +kernel
theorem dX7_cards_8 : decode cX7_cards 8 = .ok (.ireturn, 1) := by decide +kernel
set_option maxRecDepth 20000 in
theorem ggX7_printOf_X7_isCard : GoodIn wsX7_printOf wsX7_isCard := goodIn_r _ [7, 8, 9, 10, 6, 11, 17, 18, 19, 20, 21, 22, 23, 24, 25, 26, 27, 28, 29, 30, 31, 32, 33, 34, 35, 36, 37, 38, 39] (by decide +kernel) (by decide +kernel)
set_option maxRecDepth 20000 in
theorem gX7_printOf_X7_isCard : GoodIn wsX7_printOf (wsV RX7 113 RX7 yX7_isCard wsX7_isCard) := goodIn_app (goodIn_of _ (by decide +kernel)) ggX7_printOf_X7_isCard
set_option maxRecDepth 20000 in
theorem ggX7_printOf_X7_goes : GoodIn wsX7_printOf wsX7_goes := goodIn_r _ [15, 16, 17, 18, 19, 20, 21, 22, 23, 24, 25, 26, 27, 28, 29, 30, 31, 32, 33, 34, 35, 36, 37, 38, 39] (by decide +kernel) (by decide +kernel)
set_option maxRecDepth 20000 in
theorem gX7_printOf_X7_goes : GoodIn wsX7_printOf (wsV RX7 89 RX7 yX7_goes wsX7_goes) := goodIn_app (goodIn_of _ (by decide +kernel)) ggX7_printOf_X7_goes
theorem dX7_printOf_0 : decode cX7_printOf 0 = .ok (.aload_n 0, 1) := by decide +kernel
theorem dX7_printOf_1 : decode cX7_printOf 1 = .ok (.aload_n 0, 1) := by decide +kernel
theorem dX7_printOf_2 : decode cX7_printOf 2 = .ok (.iload_n 1, 1) := by decide +kernel
theorem dX7_printOf_3 : decode cX7_printOf 3 = .ok (.invokevirtual 113, 3) := by decide +kernel
theorem dX7_printOf_6 : decode cX7_printOf 6 = .ok (.iconst 1, 1) := by decide +kernel
theorem dX7_printOf_7 : decode cX7_printOf 7 = .ok (.iconst 1, 1) := by decide +kernel
theorem dX7_printOf_8 : decode cX7_printOf 8 = .ok (.invokevirtual 89, 3) := by decide +kernel
theorem dX7_printOf_11 : decode cX7_printOf 11 = .ok (.ifCond .eq 22, 3) := by decide +kernel
theorem dX7_printOf_14 : decode cX7_printOf 14 = .ok (.bipush 100, 2) := by decide +kernel
theorem dX7_printOf_16 : decode cX7_printOf 16 = .ok (.aload_n 0, 1) := by decide +kernel
theorem dX7_printOf_17 : decode cX7_printOf 17 = .ok (.getfield 33, 3) := by decide +kernel
theorem dX7_printOf_20 : decode cX7_printOf 20 = .ok (.iload_n 1, 1) := by decide +kernel
theorem dX7_printOf_21 : decode cX7_printOf 21 = .ok (.iaload, 1) := by decide +kernel
theorem dX7_printOf_22 : decode cX7_printOf 22 = .ok (.imul, 1) := by decide +kernel
theorem dX7_printOf_23 : decode cX7_printOf 23 = .ok (.aload_n 0, 1) := by decide +kernel
theorem dX7_printOf_24 : decode cX7_printOf 24 = .ok (.getfield 36, 3) := by decide +kernel
theorem dX7_printOf_27 : decode cX7_printOf 27 = .ok (.iload_n 1, 1) := by decide +kernel
theorem dX7_printOf_28 : decode cX7_printOf 28 = .ok (.iaload, 1) := by decide +kernel
theorem dX7_printOf_29 : decode cX7_printOf 29 = .ok (.iadd, 1) := by decide +kernel
theorem dX7_printOf_30 : decode cX7_printOf 30 = .ok (.goto 4, 3) := by decide +kernel
theorem dX7_printOf_33 : decode cX7_printOf 33 = .ok (.iconst 0, 1) := by decide +kernel
theorem dX7_printOf_34 : decode cX7_printOf 34 = .ok (.ireturn, 1) := by decide +kernel
set_option maxRecDepth 20000 in
theorem ggX7_collectorOf_X7_isCard : GoodIn wsX7_collectorOf wsX7_isCard := goodIn_r _ [6, 7, 8, 9, 5, 10, 16, 17, 18, 19, 20, 21, 22, 23, 24, 25, 26, 27, 28, 29, 30, 31, 32, 33, 34, 35, 36, 37, 38] (by decide +kernel) (by decide +kernel)
set_option maxRecDepth 20000 in
theorem gX7_collectorOf_X7_isCard : GoodIn wsX7_collectorOf (wsV RX7 113 RX7 yX7_isCard wsX7_isCard) := goodIn_app (goodIn_of _ (by decide +kernel)) ggX7_collectorOf_X7_isCard
set_option maxRecDepth 20000 in
theorem ggX7_collectorOf_X7_goes : GoodIn wsX7_collectorOf wsX7_goes := goodIn_r _ [14, 15, 16, 17, 18, 19, 20, 21, 22, 23, 24, 25, 26, 27, 28, 29, 30, 31, 32, 33, 34, 35, 36, 37, 38] (by decide +kernel) (by decide +kernel)
set_option maxRecDepth 20000 in
theorem gX7_collectorOf_X7_goes : GoodIn wsX7_collectorOf (wsV RX7 89 RX7 yX7_goes wsX7_goes) := goodIn_app (goodIn_of _ (by decide +kernel)) ggX7_collectorOf_X7_goes
theorem dX7_collectorOf_0 : decode cX7_collectorOf 0 = .ok (.aload_n 0, 1) := by decide +kernel
theorem dX7_collectorOf_1 : decode cX7_collectorOf 1 = .ok (.aload_n 0, 1) := by decide +kernel
theorem dX7_collectorOf_2 : decode cX7_collectorOf 2 = .ok (.iload_n 1, 1) := by decide +kernel
theorem dX7_collectorOf_3 : decode cX7_collectorOf 3 = .ok (.invokevirtual 113, 3) := by decide +kernel
theorem dX7_collectorOf_6 : decode cX7_collectorOf 6 = .ok (.iconst 1, 1) := by decide +kernel
theorem dX7_collectorOf_7 : decode cX7_collectorOf 7 = .ok (.iconst 1, 1) := by decide +kernel
theorem dX7_collectorOf_8 : decode cX7_collectorOf 8 = .ok (.invokevirtual 89, 3) := by decide +kernel
theorem dX7_collectorOf_11 : decode cX7_collectorOf 11 = .ok (.ifCond .eq 12, 3) := by decide +kernel
theorem dX7_collectorOf_14 : decode cX7_collectorOf 14 = .ok (.aload_n 0, 1) := by decide +kernel
theorem dX7_collectorOf_15 : decode cX7_collectorOf 15 = .ok (.getfield 39, 3) := by decide +kernel
theorem dX7_collectorOf_18 : decode cX7_collectorOf 18 = .ok (.iload_n 1, 1) := by decide +kernel
theorem dX7_collectorOf_19 : decode cX7_collectorOf 19 = .ok (.iaload, 1) := by decide +kernel
theorem dX7_collectorOf_20 : decode cX7_collectorOf 20 = .ok (.goto 4, 3) := by decide +kernel
theorem dX7_collectorOf_23 : decode cX7_collectorOf 23 = .ok (.iconst 0, 1) := by decide +kernel
theorem dX7_collectorOf_24 : decode cX7_collectorOf 24 = .ok (.ireturn, 1) := by decide +kernel
set_option maxRecDepth 20000 in
theorem ggX7_has_X7_isCollector : GoodIn wsX7_has wsX7_isCollector := goodIn_r _ [7, 8, 9, 6, 10] (by decide +kernel) (by decide +kernel)
set_option maxRecDepth 20000 in
theorem gX7_has_X7_isCollector : GoodIn wsX7_has (va_wsS RX7 107 yX7_isCollector wsX7_isCollector) := goodIn_app (goodIn_of _ (by decide +kernel)) ggX7_has_X7_isCollector
set_option maxRecDepth 20000 in
theorem ggX7_has_X7_isKind : GoodIn wsX7_has wsX7_isKind := goodIn_r _ [13, 8, 9, 6, 10] (by decide +kernel) (by decide +kernel)
set_option maxRecDepth 20000 in
theorem gX7_has_X7_isKind : GoodIn wsX7_has (va_wsS RX7 85 yX7_isKind wsX7_isKind) := goodIn_app (goodIn_of _ (by decide +kernel)) ggX7_has_X7_isKind
set_option maxRecDepth 20000 in
theorem ggX7_has_X7_goes : GoodIn wsX7_has wsX7_goes := goodIn_r _ [17, 18, 19, 20, 21, 22, 23, 24, 25, 26, 27, 28, 29, 30, 31, 32, 33, 34, 35, 36, 37, 38, 39, 40, 41] (by decide +kernel) (by decide +kernel)
set_option maxRecDepth 20000 in
theorem gX7_has_X7_goes : GoodIn wsX7_has (wsV RX7 89 RX7 yX7_goes wsX7_goes) := goodIn_app (goodIn_of _ (by decide +kernel)) ggX7_has_X7_goes
theorem dX7_has_0 : decode cX7_has 0 = .ok (.iconst 0, 1) := by decide +kernel
theorem dX7_has_1 : decode cX7_has 1 = .ok (.istore_n 3, 1) := by decide +kernel
theorem dX7_has_2 : decode cX7_has 2 = .ok (.aload_n 0, 1) := by decide +kernel
theorem dX7_has_3 : decode cX7_has 3 = .ok (.iload_n 1, 1) := by decide +kernel
theorem dX7_has_4 : decode cX7_has 4 = .ok (.invokestatic 107, 3) := by decide +kernel
theorem dX7_has_7 : decode cX7_has 7 = .ok (.ifCond .eq 14, 3) := by decide +kernel
theorem dX7_has_10 : decode cX7_has 10 = .ok (.iload_n 2, 1) := by decide +kernel
theorem dX7_has_11 : decode cX7_has 11 = .ok (.invokestatic 85, 3) := by decide +kernel
theorem dX7_has_14 : decode cX7_has 14 = .ok (.ifCond .eq 7, 3) := by decide +kernel
theorem dX7_has_17 : decode cX7_has 17 = .ok (.iconst 1, 1) := by decide +kernel
theorem dX7_has_18 : decode cX7_has 18 = .ok (.goto 4, 3) := by decide +kernel
theorem dX7_has_21 : decode cX7_has 21 = .ok (.iconst 0, 1) := by decide +kernel
theorem dX7_has_22 : decode cX7_has 22 = .ok (.iconst 1, 1) := by decide +kernel
theorem dX7_has_23 : decode cX7_has 23 = .ok (.iconst 1, 1) := by decide +kernel
theorem dX7_has_24 : decode cX7_has 24 = .ok (.invokevirtual 89, 3) := by decide +kernel
theorem dX7_has_27 : decode cX7_has 27 = .ok (.istore 4, 2) := by decide +kernel
theorem dX7_has_29 : decode cX7_has 29 = .ok (.iconst 0, 1) := by decide +kernel
theorem dX7_has_30 : decode cX7_has 30 = .ok (.istore 5, 2) := by decide +kernel
theorem dX7_has_32 : decode cX7_has 32 = .ok (.iload 5, 2) := by decide +kernel
theorem dX7_has_34 : decode cX7_has 34 = .ok (.aload_n 0, 1) := by decide +kernel
theorem dX7_has_35 : decode cX7_has 35 = .ok (.getfield 76, 3) := by decide +kernel
theorem dX7_has_38 : decode cX7_has 38 = .ok (.if_icmp .ge 44, 3) := by decide +kernel
theorem dX7_has_41 : decode cX7_has 41 = .ok (.iload 4, 2) := by decide +kernel
theorem dX7_has_43 : decode cX7_has 43 = .ok (.ifCond .eq 39, 3) := by decide +kernel
theorem dX7_has_46 : decode cX7_has 46 = .ok (.iload_n 3, 1) := by decide +kernel
theorem dX7_has_47 : decode cX7_has 47 = .ok (.aload_n 0, 1) := by decide +kernel
theorem dX7_has_48 : decode cX7_has 48 = .ok (.getfield 39, 3) := by decide +kernel
theorem dX7_has_51 : decode cX7_has 51 = .ok (.iload 5, 2) := by decide +kernel
theorem dX7_has_53 : decode cX7_has 53 = .ok (.iaload, 1) := by decide +kernel
theorem dX7_has_54 : decode cX7_has 54 = .ok (.iload_n 1, 1) := by decide +kernel
theorem dX7_has_55 : decode cX7_has 55 = .ok (.if_icmp .ne 18, 3) := by decide +kernel
theorem dX7_has_58 : decode cX7_has 58 = .ok (.aload_n 0, 1) := by decide +kernel
theorem dX7_has_59 : decode cX7_has 59 = .ok (.getfield 33, 3) := by decide +kernel
theorem dX7_has_62 : decode cX7_has 62 = .ok (.iload 5, 2) := by decide +kernel
theorem dX7_has_64 : decode cX7_has 64 = .ok (.iaload, 1) := by decide +kernel
theorem dX7_has_65 : decode cX7_has 65 = .ok (.iload_n 2, 1) := by decide +kernel
theorem dX7_has_66 : decode cX7_has 66 = .ok (.if_icmp .ne 7, 3) := by decide +kernel
theorem dX7_has_69 : decode cX7_has 69 = .ok (.iconst 1, 1) := by decide +kernel
theorem dX7_has_70 : decode cX7_has 70 = .ok (.goto 4, 3) := by decide +kernel
theorem dX7_has_73 : decode cX7_has 73 = .ok (.iconst 0, 1) := by decide +kernel
theorem dX7_has_74 : decode cX7_has 74 = .ok (.iadd, 1) := by decide +kernel
theorem dX7_has_75 : decode cX7_has 75 = .ok (.istore_n 3, 1) := by decide +kernel
theorem dX7_has_76 : decode cX7_has 76 = .ok (.iinc 5 1, 3) := by decide +kernel
theorem dX7_has_79 : decode cX7_has 79 = .ok (.goto (-47), 3) := by decide +kernel
theorem dX7_has_82 : decode cX7_has 82 = .ok (.iload_n 3, 1) := by decide +kernel
theorem dX7_has_83 : decode cX7_has 83 = .ok (.ireturn, 1) := by decide +kernel
set_option maxRecDepth 20000 in
theorem ggX7_wins_X7_isKind : GoodIn wsX7_wins wsX7_isKind := goodIn_r _ [5, 6, 7, 4, 8] (by decide +kernel) (by decide +kernel)
set_option maxRecDepth 20000 in
theorem gX7_wins_X7_isKind : GoodIn wsX7_wins (va_wsS RX7 85 yX7_isKind wsX7_isKind) := goodIn_app (goodIn_of _ (by decide +kernel)) ggX7_wins_X7_isKind
set_option maxRecDepth 20000 in
theorem ggX7_wins_X7_goes : GoodIn wsX7_wins wsX7_goes := goodIn_r _ [12, 13, 14, 15, 16, 17, 18, 19, 20, 21, 22, 23, 24, 25, 26, 27, 28, 29, 30, 31, 32, 33, 34, 35, 36] (by decide +kernel) (by decide +kernel)
set_option maxRecDepth 20000 in
theorem gX7_wins_X7_goes : GoodIn wsX7_wins (wsV RX7 89 RX7 yX7_goes wsX7_goes) := goodIn_app (goodIn_of _ (by decide +kernel)) ggX7_wins_X7_goes
theorem dX7_wins_0 : decode cX7_wins 0 = .ok (.aload_n 0, 1) := by decide +kernel
theorem dX7_wins_1 : decode cX7_wins 1 = .ok (.iload_n 1, 1) := by decide +kernel
theorem dX7_wins_2 : decode cX7_wins 2 = .ok (.invokestatic 85, 3) := by decide +kernel
theorem dX7_wins_5 : decode cX7_wins 5 = .ok (.iconst 1, 1) := by decide +kernel
theorem dX7_wins_6 : decode cX7_wins 6 = .ok (.iconst 1, 1) := by decide +kernel
theorem dX7_wins_7 : decode cX7_wins 7 = .ok (.invokevirtual 89, 3) := by decide +kernel
theorem dX7_wins_10 : decode cX7_wins 10 = .ok (.ifCond .eq 12, 3) := by decide +kernel
theorem dX7_wins_13 : decode cX7_wins 13 = .ok (.aload_n 0, 1) := by decide +kernel
theorem dX7_wins_14 : decode cX7_wins 14 = .ok (.getfield 23, 3) := by decide +kernel
theorem dX7_wins_17 : decode cX7_wins 17 = .ok (.iload_n 1, 1) := by decide +kernel
theorem dX7_wins_18 : decode cX7_wins 18 = .ok (.iaload, 1) := by decide +kernel
theorem dX7_wins_19 : decode cX7_wins 19 = .ok (.goto 4, 3) := by decide +kernel
theorem dX7_wins_22 : decode cX7_wins 22 = .ok (.iconst 0, 1) := by decide +kernel
theorem dX7_wins_23 : decode cX7_wins 23 = .ok (.ireturn, 1) := by decide +kernel
set_option maxRecDepth 20000 in
theorem ggX7_price_X7_isKind : GoodIn wsX7_price wsX7_isKind := goodIn_r _ [6, 7, 8, 5, 9] (by decide +kernel) (by decide +kernel)
set_option maxRecDepth 20000 in
theorem gX7_price_X7_isKind : GoodIn wsX7_price (va_wsS RX7 85 yX7_isKind wsX7_isKind) := goodIn_app (goodIn_of _ (by decide +kernel)) ggX7_price_X7_isKind
set_option maxRecDepth 20000 in
theorem ggX7_price_X7_goes : GoodIn wsX7_price wsX7_goes := goodIn_r _ [13, 14, 15, 16, 17, 18, 19, 20, 21, 22, 23, 24, 25, 26, 27, 28, 29, 30, 31, 32, 33, 34, 35, 36, 37] (by decide +kernel) (by decide +kernel)
set_option maxRecDepth 20000 in
theorem gX7_price_X7_goes : GoodIn wsX7_price (wsV RX7 89 RX7 yX7_goes wsX7_goes) := goodIn_app (goodIn_of _ (by decide +kernel)) ggX7_price_X7_goes
theorem dX7_price_0 : decode cX7_price 0 = .ok (.aload_n 0, 1) := by decide +kernel
theorem dX7_price_1 : decode cX7_price 1 = .ok (.iload_n 1, 1) := by decide +kernel
theorem dX7_price_2 : decode cX7_price 2 = .ok (.invokestatic 85, 3) := by decide +kernel
theorem dX7_price_5 : decode cX7_price 5 = .ok (.iconst 1, 1) := by decide +kernel
theorem dX7_price_6 : decode cX7_price 6 = .ok (.iconst 1, 1) := by decide +kernel
theorem dX7_price_7 : decode cX7_price 7 = .ok (.invokevirtual 89, 3) := by decide +kernel
theorem dX7_price_10 : decode cX7_price 10 = .ok (.ifCond .eq 33, 3) := by decide +kernel
theorem dX7_price_13 : decode cX7_price 13 = .ok (.aload_n 0, 1) := by decide +kernel
theorem dX7_price_14 : decode cX7_price 14 = .ok (.getfield 20, 3) := by decide +kernel
theorem dX7_price_17 : decode cX7_price 17 = .ok (.iload_n 1, 1) := by decide +kernel
theorem dX7_price_18 : decode cX7_price 18 = .ok (.iaload, 1) := by decide +kernel
theorem dX7_price_19 : decode cX7_price 19 = .ok (.ifCond .le 24, 3) := by decide +kernel
theorem dX7_price_22 : decode cX7_price 22 = .ok (.bipush 100, 2) := by decide +kernel
theorem dX7_price_24 : decode cX7_price 24 = .ok (.aload_n 0, 1) := by decide +kernel
theorem dX7_price_25 : decode cX7_price 25 = .ok (.getfield 23, 3) := by decide +kernel
theorem dX7_price_28 : decode cX7_price 28 = .ok (.iload_n 1, 1) := by decide +kernel
theorem dX7_price_29 : decode cX7_price 29 = .ok (.iaload, 1) := by decide +kernel
theorem dX7_price_30 : decode cX7_price 30 = .ok (.iconst 1, 1) := by decide +kernel
theorem dX7_price_31 : decode cX7_price 31 = .ok (.iadd, 1) := by decide +kernel
theorem dX7_price_32 : decode cX7_price 32 = .ok (.imul, 1) := by decide +kernel
theorem dX7_price_33 : decode cX7_price 33 = .ok (.aload_n 0, 1) := by decide +kernel
theorem dX7_price_34 : decode cX7_price 34 = .ok (.getfield 20, 3) := by decide +kernel
theorem dX7_price_37 : decode cX7_price 37 = .ok (.iload_n 1, 1) := by decide +kernel
theorem dX7_price_38 : decode cX7_price 38 = .ok (.iaload, 1) := by decide +kernel
theorem dX7_price_39 : decode cX7_price 39 = .ok (.idiv, 1) := by decide +kernel
theorem dX7_price_40 : decode cX7_price 40 = .ok (.goto 4, 3) := by decide +kernel
theorem dX7_price_43 : decode cX7_price 43 = .ok (.iconst 0, 1) := by decide +kernel
theorem dX7_price_44 : decode cX7_price 44 = .ok (.ireturn, 1) := by decide +kernel
set_option maxRecDepth 20000 in
theorem ggX7_isAllowed_X7_isDeck : GoodIn wsX7_isAllowed wsX7_isDeck := goodIn_r _ [5, 6, 7, 8, 4, 9, 35, 36, 37, 38, 39, 40, 41, 42, 43, 44, 45, 46, 47, 48, 49, 50, 51, 52, 53, 54, 55, 56, 57] (by decide +kernel) (by decide +kernel)
set_option maxRecDepth 20000 in
theorem gX7_isAllowed_X7_isDeck : GoodIn wsX7_isAllowed (wsV RX7 110 RX7 yX7_isDeck wsX7_isDeck) := goodIn_app (goodIn_of _ (by decide +kernel)) ggX7_isAllowed_X7_isDeck
set_option maxRecDepth 20000 in
theorem ggX7_isAllowed_X7_goes : GoodIn wsX7_isAllowed wsX7_goes := goodIn_r _ [13, 14, 35, 36, 37, 38, 39, 40, 41, 42, 43, 44, 45, 46, 47, 48, 49, 50, 51, 52, 53, 54, 55, 56, 57] (by decide +kernel) (by decide +kernel)
set_option maxRecDepth 20000 in
theorem gX7_isAllowed_X7_goes : GoodIn wsX7_isAllowed (wsV RX7 89 RX7 yX7_goes wsX7_goes) := goodIn_app (goodIn_of _ (by decide +kernel)) ggX7_isAllowed_X7_goes
set_option maxRecDepth 20000 in
theorem ggX7_isAllowed_X7_allows : GoodIn wsX7_isAllowed wsX7_allows := goodIn_r _ [18, 19, 20, 21, 22, 23, 24, 25, 26, 27, 28, 4, 29, 30, 31, 32, 33, 34, 35, 36, 37, 38, 39, 40, 41, 42, 43, 44, 45, 46, 47, 48, 49, 50, 51, 52, 53, 54, 55, 56, 57] (by decide +kernel) (by decide +kernel)
set_option maxRecDepth 20000 in
theorem gX7_isAllowed_X7_allows : GoodIn wsX7_isAllowed (wsV RX7 100 RX7 yX7_allows wsX7_allows) := goodIn_app (goodIn_of _ (by decide +kernel)) ggX7_isAllowed_X7_allows
theorem dX7_isAllowed_0 : decode cX7_isAllowed 0 = .ok (.aload_n 0, 1) := by decide +kernel
theorem dX7_isAllowed_1 : decode cX7_isAllowed 1 = .ok (.aload_n 0, 1) := by decide +kernel
theorem dX7_isAllowed_2 : decode cX7_isAllowed 2 = .ok (.iload_n 1, 1) := by decide +kernel
theorem dX7_isAllowed_3 : decode cX7_isAllowed 3 = .ok (.invokevirtual 110, 3) := by decide +kernel
theorem dX7_isAllowed_6 : decode cX7_isAllowed 6 = .ok (.iconst 1, 1) := by decide +kernel
theorem dX7_isAllowed_7 : decode cX7_isAllowed 7 = .ok (.iconst 1, 1) := by decide +kernel
theorem dX7_isAllowed_8 : decode cX7_isAllowed 8 = .ok (.invokevirtual 89, 3) := by decide +kernel
theorem dX7_isAllowed_11 : decode cX7_isAllowed 11 = .ok (.ifCond .eq 15, 3) := by decide +kernel
theorem dX7_isAllowed_14 : decode cX7_isAllowed 14 = .ok (.aload_n 0, 1) := by decide +kernel
theorem dX7_isAllowed_15 : decode cX7_isAllowed 15 = .ok (.iload_n 1, 1) := by decide +kernel
theorem dX7_isAllowed_16 : decode cX7_isAllowed 16 = .ok (.invokevirtual 100, 3) := by decide +kernel
theorem dX7_isAllowed_19 : decode cX7_isAllowed 19 = .ok (.ifCond .eq 7, 3) := by decide +kernel
theorem dX7_isAllowed_22 : decode cX7_isAllowed 22 = .ok (.iconst 1, 1) := by decide +kernel
theorem dX7_isAllowed_23 : decode cX7_isAllowed 23 = .ok (.goto 4, 3) := by decide +kernel
theorem dX7_isAllowed_26 : decode cX7_isAllowed 26 = .ok (.iconst 0, 1) := by decide +kernel
theorem dX7_isAllowed_27 : decode cX7_isAllowed 27 = .ok (.ireturn, 1) := by decide +kernel
set_option maxRecDepth 20000 in
theorem ggX7_shuffled_X7_isDeck : GoodIn wsX7_shuffled wsX7_isDeck := goodIn_r _ [7, 8, 9, 10, 6, 11, 26, 27, 28, 29, 30, 31, 32, 33, 34, 35, 36, 37, 38, 39, 40, 41, 42, 43, 44, 45, 46, 47, 48] (by decide +kernel) (by decide +kernel)
set_option maxRecDepth 20000 in
theorem gX7_shuffled_X7_isDeck : GoodIn wsX7_shuffled (wsV RX7 110 RX7 yX7_isDeck wsX7_isDeck) := goodIn_app (goodIn_of _ (by decide +kernel)) ggX7_shuffled_X7_isDeck
set_option maxRecDepth 20000 in
theorem ggX7_shuffled_X7_in : GoodIn wsX7_shuffled wsX7_in := goodIn_r _ [11] (by decide +kernel) (by decide +kernel)
set_option maxRecDepth 20000 in
theorem gX7_shuffled_X7_in : GoodIn wsX7_shuffled (va_wsS RX7 72 yX7_in wsX7_in) := goodIn_app (goodIn_of _ (by decide +kernel)) ggX7_shuffled_X7_in
set_option maxRecDepth 20000 in
theorem ggX7_shuffled_X7_goes : GoodIn wsX7_shuffled wsX7_goes := goodIn_r _ [15, 16, 26, 27, 28, 29, 30, 31, 32, 33, 34, 35, 36, 37, 38, 39, 40, 41, 42, 43, 44, 45, 46, 47, 48] (by decide +kernel) (by decide +kernel)
set_option maxRecDepth 20000 in
theorem gX7_shuffled_X7_goes : GoodIn wsX7_shuffled (wsV RX7 89 RX7 yX7_goes wsX7_goes) := goodIn_app (goodIn_of _ (by decide +kernel)) ggX7_shuffled_X7_goes
set_option maxRecDepth 20000 in
theorem ggX7_shuffled_X7_shuffles : GoodIn wsX7_shuffled wsX7_shuffles := goodIn_r _ [20, 1, 2, 21, 22, 23, 24, 25, 26, 27, 28, 29, 30, 31, 32, 33, 34, 35, 36, 37, 38, 39, 40, 41, 42, 43, 44, 45, 46, 47, 48] (by decide +kernel) (by decide +kernel)
set_option maxRecDepth 20000 in
theorem gX7_shuffled_X7_shuffles : GoodIn wsX7_shuffled (wsV RX7 128 RX7 yX7_shuffles wsX7_shuffles) := goodIn_app (goodIn_of _ (by decide +kernel)) ggX7_shuffled_X7_shuffles
theorem dX7_shuffled_0 : decode cX7_shuffled 0 = .ok (.aload_n 0, 1) := by decide +kernel
theorem dX7_shuffled_1 : decode cX7_shuffled 1 = .ok (.iload_n 1, 1) := by decide +kernel
theorem dX7_shuffled_2 : decode cX7_shuffled 2 = .ok (.invokevirtual 110, 3) := by decide +kernel
theorem dX7_shuffled_5 : decode cX7_shuffled 5 = .ok (.istore 4, 2) := by decide +kernel
theorem dX7_shuffled_7 : decode cX7_shuffled 7 = .ok (.aload_n 0, 1) := by decide +kernel
theorem dX7_shuffled_8 : decode cX7_shuffled 8 = .ok (.iload 4, 2) := by decide +kernel
theorem dX7_shuffled_10 : decode cX7_shuffled 10 = .ok (.ifCond .eq 32, 3) := by decide +kernel
theorem dX7_shuffled_13 : decode cX7_shuffled 13 = .ok (.iload_n 3, 1) := by decide +kernel
theorem dX7_shuffled_14 : decode cX7_shuffled 14 = .ok (.iconst 0, 1) := by decide +kernel
theorem dX7_shuffled_15 : decode cX7_shuffled 15 = .ok (.aload_n 0, 1) := by decide +kernel
theorem dX7_shuffled_16 : decode cX7_shuffled 16 = .ok (.getfield 45, 3) := by decide +kernel
theorem dX7_shuffled_19 : decode cX7_shuffled 19 = .ok (.iload 4, 2) := by decide +kernel
theorem dX7_shuffled_21 : decode cX7_shuffled 21 = .ok (.ifCond .eq 7, 3) := by decide +kernel
theorem dX7_shuffled_24 : decode cX7_shuffled 24 = .ok (.iload_n 1, 1) := by decide +kernel
theorem dX7_shuffled_25 : decode cX7_shuffled 25 = .ok (.goto 4, 3) := by decide +kernel
theorem dX7_shuffled_28 : decode cX7_shuffled 28 = .ok (.iconst 0, 1) := by decide +kernel
theorem dX7_shuffled_29 : decode cX7_shuffled 29 = .ok (.iaload, 1) := by decide +kernel
theorem dX7_shuffled_30 : decode cX7_shuffled 30 = .ok (.iconst 1, 1) := by decide +kernel
theorem dX7_shuffled_31 : decode cX7_shuffled 31 = .ok (.isub, 1) := by decide +kernel
theorem dX7_shuffled_32 : decode cX7_shuffled 32 = .ok (.invokestatic 72, 3) := by decide +kernel
theorem dX7_shuffled_35 : decode cX7_shuffled 35 = .ok (.ifCond .eq 7, 3) := by decide +kernel
theorem dX7_shuffled_38 : decode cX7_shuffled 38 = .ok (.iconst 1, 1) := by decide +kernel
theorem dX7_shuffled_39 : decode cX7_shuffled 39 = .ok (.goto 4, 3) := by decide +kernel
theorem dX7_shuffled_42 : decode cX7_shuffled 42 = .ok (.iconst 0, 1) := by decide +kernel
theorem dX7_shuffled_43 : decode cX7_shuffled 43 = .ok (.iload_n 2, 1) := by decide +kernel
theorem dX7_shuffled_44 : decode cX7_shuffled 44 = .ok (.ifCond .lt 7, 3) := by decide +kernel
theorem dX7_shuffled_47 : decode cX7_shuffled 47 = .ok (.iconst 1, 1) := by decide +kernel
theorem dX7_shuffled_48 : decode cX7_shuffled 48 = .ok (.goto 4, 3) := by decide +kernel
theorem dX7_shuffled_51 : decode cX7_shuffled 51 = .ok (.iconst 0, 1) := by decide +kernel
theorem dX7_shuffled_52 : decode cX7_shuffled 52 = .ok (.iconst 1, 1) := by decide +kernel
theorem dX7_shuffled_53 : decode cX7_shuffled 53 = .ok (.invokevirtual 89, 3) := by decide +kernel
theorem dX7_shuffled_56 : decode cX7_shuffled 56 = .ok (.ifCond .ne 5, 3) := by decide +kernel
theorem dX7_shuffled_59 : decode cX7_shuffled 59 = .ok (.iconst 0, 1) := by decide +kernel
theorem dX7_shuffled_60 : decode cX7_shuffled 60 = .ok (.ireturn, 1) := by decide +kernel
theorem dX7_shuffled_61 : decode cX7_shuffled 61 = .ok (.aload_n 0, 1) := by decide +kernel
theorem dX7_shuffled_62 : decode cX7_shuffled 62 = .ok (.iload_n 1, 1) := by decide +kernel
theorem dX7_shuffled_63 : decode cX7_shuffled 63 = .ok (.iload_n 2, 1) := by decide +kernel
theorem dX7_shuffled_64 : decode cX7_shuffled 64 = .ok (.iconst 0, 1) := by decide +kernel
theorem dX7_shuffled_65 : decode cX7_shuffled 65 = .ok (.invokevirtual 128, 3) := by decide +kernel
theorem dX7_shuffled_68 : decode cX7_shuffled 68 = .ok (.aload_n 0, 1) := by decide +kernel
theorem dX7_shuffled_69 : decode cX7_shuffled 69 = .ok (.getfield 51, 3) := by decide +kernel
theorem dX7_shuffled_72 : decode cX7_shuffled 72 = .ok (.iload_n 3, 1) := by decide +kernel
theorem dX7_shuffled_73 : decode cX7_shuffled 73 = .ok (.iaload, 1) := by decide +kernel
theorem dX7_shuffled_74 : decode cX7_shuffled 74 = .ok (.ireturn, 1) := by decide +kernel
set_option maxRecDepth 20000 in
theorem ggX7_ordersOf_X7_manyOf : GoodIn wsX7_ordersOf wsX7_manyOf := goodIn_r _ [6, 1, 7, 8, 9, 5, 10, 11, 12, 13, 14, 15, 16, 17, 18, 19, 20, 21, 22, 23, 24, 25, 26, 27, 28, 29, 30, 31, 32, 33, 34, 35] (by decide +kernel) (by decide +kernel)
set_option maxRecDepth 20000 in
theorem gX7_ordersOf_X7_manyOf : GoodIn wsX7_ordersOf (wsV RX7 97 RX7 yX7_manyOf wsX7_manyOf) := goodIn_app (goodIn_of _ (by decide +kernel)) ggX7_ordersOf_X7_manyOf
theorem dX7_ordersOf_0 : decode cX7_ordersOf 0 = .ok (.iload_n 3, 1) := by decide +kernel
theorem dX7_ordersOf_1 : decode cX7_ordersOf 1 = .ok (.aload_n 0, 1) := by decide +kernel
theorem dX7_ordersOf_2 : decode cX7_ordersOf 2 = .ok (.getfield 45, 3) := by decide +kernel
theorem dX7_ordersOf_5 : decode cX7_ordersOf 5 = .ok (.iload_n 1, 1) := by decide +kernel
theorem dX7_ordersOf_6 : decode cX7_ordersOf 6 = .ok (.iaload, 1) := by decide +kernel
theorem dX7_ordersOf_7 : decode cX7_ordersOf 7 = .ok (.if_icmp .ge 7, 3) := by decide +kernel
theorem dX7_ordersOf_10 : decode cX7_ordersOf 10 = .ok (.iload_n 3, 1) := by decide +kernel
theorem dX7_ordersOf_11 : decode cX7_ordersOf 11 = .ok (.goto 9, 3) := by decide +kernel
theorem dX7_ordersOf_14 : decode cX7_ordersOf 14 = .ok (.aload_n 0, 1) := by decide +kernel
theorem dX7_ordersOf_15 : decode cX7_ordersOf 15 = .ok (.getfield 45, 3) := by decide +kernel
theorem dX7_ordersOf_18 : decode cX7_ordersOf 18 = .ok (.iload_n 1, 1) := by decide +kernel
theorem dX7_ordersOf_19 : decode cX7_ordersOf 19 = .ok (.iaload, 1) := by decide +kernel
theorem dX7_ordersOf_20 : decode cX7_ordersOf 20 = .ok (.istore 4, 2) := by decide +kernel
theorem dX7_ordersOf_22 : decode cX7_ordersOf 22 = .ok (.aload_n 0, 1) := by decide +kernel
theorem dX7_ordersOf_23 : decode cX7_ordersOf 23 = .ok (.getfield 45, 3) := by decide +kernel
theorem dX7_ordersOf_26 : decode cX7_ordersOf 26 = .ok (.iload_n 1, 1) := by decide +kernel
theorem dX7_ordersOf_27 : decode cX7_ordersOf 27 = .ok (.iaload, 1) := by decide +kernel
theorem dX7_ordersOf_28 : decode cX7_ordersOf 28 = .ok (.aload_n 0, 1) := by decide +kernel
theorem dX7_ordersOf_29 : decode cX7_ordersOf 29 = .ok (.iload_n 1, 1) := by decide +kernel
theorem dX7_ordersOf_30 : decode cX7_ordersOf 30 = .ok (.iload_n 2, 1) := by decide +kernel
theorem dX7_ordersOf_31 : decode cX7_ordersOf 31 = .ok (.invokevirtual 97, 3) := by decide +kernel
theorem dX7_ordersOf_34 : decode cX7_ordersOf 34 = .ok (.isub, 1) := by decide +kernel
theorem dX7_ordersOf_35 : decode cX7_ordersOf 35 = .ok (.istore 5, 2) := by decide +kernel
theorem dX7_ordersOf_37 : decode cX7_ordersOf 37 = .ok (.iconst 1, 1) := by decide +kernel
theorem dX7_ordersOf_38 : decode cX7_ordersOf 38 = .ok (.istore 6, 2) := by decide +kernel
theorem dX7_ordersOf_40 : decode cX7_ordersOf 40 = .ok (.iconst 1, 1) := by decide +kernel
theorem dX7_ordersOf_41 : decode cX7_ordersOf 41 = .ok (.istore 7, 2) := by decide +kernel
theorem dX7_ordersOf_43 : decode cX7_ordersOf 43 = .ok (.iconst 0, 1) := by decide +kernel
theorem dX7_ordersOf_44 : decode cX7_ordersOf 44 = .ok (.istore 8, 2) := by decide +kernel
theorem dX7_ordersOf_46 : decode cX7_ordersOf 46 = .ok (.iload 8, 2) := by decide +kernel
theorem dX7_ordersOf_48 : decode cX7_ordersOf 48 = .ok (.aload_n 0, 1) := by decide +kernel
theorem dX7_ordersOf_49 : decode cX7_ordersOf 49 = .ok (.getfield 45, 3) := by decide +kernel
theorem dX7_ordersOf_52 : decode cX7_ordersOf 52 = .ok (.iload_n 1, 1) := by decide +kernel
theorem dX7_ordersOf_53 : decode cX7_ordersOf 53 = .ok (.iaload, 1) := by decide +kernel
theorem dX7_ordersOf_54 : decode cX7_ordersOf 54 = .ok (.if_icmp .ge 64, 3) := by decide +kernel
theorem dX7_ordersOf_57 : decode cX7_ordersOf 57 = .ok (.iload 6, 2) := by decide +kernel
theorem dX7_ordersOf_59 : decode cX7_ordersOf 59 = .ok (.aload_n 0, 1) := by decide +kernel
theorem dX7_ordersOf_60 : decode cX7_ordersOf 60 = .ok (.getfield 45, 3) := by decide +kernel
theorem dX7_ordersOf_63 : decode cX7_ordersOf 63 = .ok (.iload_n 1, 1) := by decide +kernel
theorem dX7_ordersOf_64 : decode cX7_ordersOf 64 = .ok (.iaload, 1) := by decide +kernel
theorem dX7_ordersOf_65 : decode cX7_ordersOf 65 = .ok (.iload 8, 2) := by decide +kernel
theorem dX7_ordersOf_67 : decode cX7_ordersOf 67 = .ok (.isub, 1) := by decide +kernel
theorem dX7_ordersOf_68 : decode cX7_ordersOf 68 = .ok (.imul, 1) := by decide +kernel
theorem dX7_ordersOf_69 : decode cX7_ordersOf 69 = .ok (.istore 6, 2) := by decide +kernel
theorem dX7_ordersOf_71 : decode cX7_ordersOf 71 = .ok (.iload 7, 2) := by decide +kernel
theorem dX7_ordersOf_73 : decode cX7_ordersOf 73 = .ok (.iload 8, 2) := by decide +kernel
theorem dX7_ordersOf_75 : decode cX7_ordersOf 75 = .ok (.iload 4, 2) := by decide +kernel
theorem dX7_ordersOf_77 : decode cX7_ordersOf 77 = .ok (.if_icmp .ge 23, 3) := by decide +kernel
theorem dX7_ordersOf_80 : decode cX7_ordersOf 80 = .ok (.iload 5, 2) := by decide +kernel
theorem dX7_ordersOf_82 : decode cX7_ordersOf 82 = .ok (.iload 8, 2) := by decide +kernel
theorem dX7_ordersOf_84 : decode cX7_ordersOf 84 = .ok (.isub, 1) := by decide +kernel
theorem dX7_ordersOf_85 : decode cX7_ordersOf 85 = .ok (.ifCond .le 11, 3) := by decide +kernel
theorem dX7_ordersOf_88 : decode cX7_ordersOf 88 = .ok (.iload 5, 2) := by decide +kernel
theorem dX7_ordersOf_90 : decode cX7_ordersOf 90 = .ok (.iload 8, 2) := by decide +kernel
theorem dX7_ordersOf_92 : decode cX7_ordersOf 92 = .ok (.isub, 1) := by decide +kernel
theorem dX7_ordersOf_93 : decode cX7_ordersOf 93 = .ok (.goto 16, 3) := by decide +kernel
theorem dX7_ordersOf_96 : decode cX7_ordersOf 96 = .ok (.iconst 0, 1) := by decide +kernel
theorem dX7_ordersOf_97 : decode cX7_ordersOf 97 = .ok (.goto 12, 3) := by decide +kernel
theorem dX7_ordersOf_100 : decode cX7_ordersOf 100 = .ok (.aload_n 0, 1) := by decide +kernel
theorem dX7_ordersOf_101 : decode cX7_ordersOf 101 = .ok (.getfield 45, 3) := by decide +kernel
theorem dX7_ordersOf_104 : decode cX7_ordersOf 104 = .ok (.iload_n 1, 1) := by decide +kernel
theorem dX7_ordersOf_105 : decode cX7_ordersOf 105 = .ok (.iaload, 1) := by decide +kernel
theorem dX7_ordersOf_106 : decode cX7_ordersOf 106 = .ok (.iload 8, 2) := by decide +kernel
theorem dX7_ordersOf_108 : decode cX7_ordersOf 108 = .ok (.isub, 1) := by decide +kernel
theorem dX7_ordersOf_109 : decode cX7_ordersOf 109 = .ok (.imul, 1) := by decide +kernel
theorem dX7_ordersOf_110 : decode cX7_ordersOf 110 = .ok (.istore 7, 2) := by decide +kernel
theorem dX7_ordersOf_112 : decode cX7_ordersOf 112 = .ok (.iinc 8 1, 3) := by decide +kernel
theorem dX7_ordersOf_115 : decode cX7_ordersOf 115 = .ok (.goto (-69), 3) := by decide +kernel
theorem dX7_ordersOf_118 : decode cX7_ordersOf 118 = .ok (.iload 6, 2) := by decide +kernel
theorem dX7_ordersOf_120 : decode cX7_ordersOf 120 = .ok (.iload 7, 2) := by decide +kernel
theorem dX7_ordersOf_122 : decode cX7_ordersOf 122 = .ok (.isub, 1) := by decide +kernel
theorem dX7_ordersOf_123 : decode cX7_ordersOf 123 = .ok (.ireturn, 1) := by decide +kernel
set_option maxRecDepth 20000 in
theorem ggX7_orders_X7_isDeck : GoodIn wsX7_orders wsX7_isDeck := goodIn_r _ [5, 6, 7, 8, 4, 9, 33, 34, 35, 36, 37, 38, 39, 40, 41, 42, 43, 44, 45, 46, 47, 48, 49, 50, 51, 52, 53, 54, 55] (by decide +kernel) (by decide +kernel)
set_option maxRecDepth 20000 in
theorem gX7_orders_X7_isDeck : GoodIn wsX7_orders (wsV RX7 110 RX7 yX7_isDeck wsX7_isDeck) := goodIn_app (goodIn_of _ (by decide +kernel)) ggX7_orders_X7_isDeck
set_option maxRecDepth 20000 in
theorem ggX7_orders_X7_isKind : GoodIn wsX7_orders wsX7_isKind := goodIn_r _ [12, 7, 8, 4, 9] (by decide +kernel) (by decide +kernel)
set_option maxRecDepth 20000 in
theorem gX7_orders_X7_isKind : GoodIn wsX7_orders (va_wsS RX7 85 yX7_isKind wsX7_isKind) := goodIn_app (goodIn_of _ (by decide +kernel)) ggX7_orders_X7_isKind
set_option maxRecDepth 20000 in
theorem ggX7_orders_X7_in : GoodIn wsX7_orders wsX7_in := goodIn_r _ [9] (by decide +kernel) (by decide +kernel)
set_option maxRecDepth 20000 in
theorem gX7_orders_X7_in : GoodIn wsX7_orders (va_wsS RX7 72 yX7_in wsX7_in) := goodIn_app (goodIn_of _ (by decide +kernel)) ggX7_orders_X7_in
set_option maxRecDepth 20000 in
theorem ggX7_orders_X7_goes : GoodIn wsX7_orders wsX7_goes := goodIn_r _ [16, 17, 33, 34, 35, 36, 37, 38, 39, 40, 41, 42, 43, 44, 45, 46, 47, 48, 49, 50, 51, 52, 53, 54, 55] (by decide +kernel) (by decide +kernel)
set_option maxRecDepth 20000 in
theorem gX7_orders_X7_goes : GoodIn wsX7_orders (wsV RX7 89 RX7 yX7_goes wsX7_goes) := goodIn_app (goodIn_of _ (by decide +kernel)) ggX7_orders_X7_goes
set_option maxRecDepth 20000 in
theorem ggX7_orders_X7_ordersOf : GoodIn wsX7_orders wsX7_ordersOf := goodIn_r _ [21, 22, 23, 24, 25, 4, 26, 27, 28, 29, 30, 31, 32, 33, 34, 35, 36, 37, 38, 39, 40, 41, 42, 43, 44, 45, 46, 47, 48, 49, 50, 51, 52, 53, 54, 55] (by decide +kernel) (by decide +kernel)
set_option maxRecDepth 20000 in
theorem gX7_orders_X7_ordersOf : GoodIn wsX7_orders (wsV RX7 162 RX7 yX7_ordersOf wsX7_ordersOf) := goodIn_app (goodIn_of _ (by decide +kernel)) ggX7_orders_X7_ordersOf
theorem dX7_orders_0 : decode cX7_orders 0 = .ok (.aload_n 0, 1) := by decide +kernel
theorem dX7_orders_1 : decode cX7_orders 1 = .ok (.aload_n 0, 1) := by decide +kernel
theorem dX7_orders_2 : decode cX7_orders 2 = .ok (.iload_n 1, 1) := by decide +kernel
theorem dX7_orders_3 : decode cX7_orders 3 = .ok (.invokevirtual 110, 3) := by decide +kernel
theorem dX7_orders_6 : decode cX7_orders 6 = .ok (.ifCond .eq 14, 3) := by decide +kernel
theorem dX7_orders_9 : decode cX7_orders 9 = .ok (.iload_n 2, 1) := by decide +kernel
theorem dX7_orders_10 : decode cX7_orders 10 = .ok (.invokestatic 85, 3) := by decide +kernel
theorem dX7_orders_13 : decode cX7_orders 13 = .ok (.ifCond .eq 7, 3) := by decide +kernel
theorem dX7_orders_16 : decode cX7_orders 16 = .ok (.iconst 1, 1) := by decide +kernel
theorem dX7_orders_17 : decode cX7_orders 17 = .ok (.goto 4, 3) := by decide +kernel
theorem dX7_orders_20 : decode cX7_orders 20 = .ok (.iconst 0, 1) := by decide +kernel
theorem dX7_orders_21 : decode cX7_orders 21 = .ok (.iload_n 3, 1) := by decide +kernel
theorem dX7_orders_22 : decode cX7_orders 22 = .ok (.iconst 1, 1) := by decide +kernel
theorem dX7_orders_23 : decode cX7_orders 23 = .ok (.bipush 10, 2) := by decide +kernel
theorem dX7_orders_25 : decode cX7_orders 25 = .ok (.invokestatic 72, 3) := by decide +kernel
theorem dX7_orders_28 : decode cX7_orders 28 = .ok (.iconst 1, 1) := by decide +kernel
theorem dX7_orders_29 : decode cX7_orders 29 = .ok (.invokevirtual 89, 3) := by decide +kernel
theorem dX7_orders_32 : decode cX7_orders 32 = .ok (.ifCond .eq 13, 3) := by decide +kernel
theorem dX7_orders_35 : decode cX7_orders 35 = .ok (.aload_n 0, 1) := by decide +kernel
theorem dX7_orders_36 : decode cX7_orders 36 = .ok (.iload_n 1, 1) := by decide +kernel
theorem dX7_orders_37 : decode cX7_orders 37 = .ok (.iload_n 2, 1) := by decide +kernel
theorem dX7_orders_38 : decode cX7_orders 38 = .ok (.iload_n 3, 1) := by decide +kernel
theorem dX7_orders_39 : decode cX7_orders 39 = .ok (.invokevirtual 162, 3) := by decide +kernel
theorem dX7_orders_42 : decode cX7_orders 42 = .ok (.goto 4, 3) := by decide +kernel
theorem dX7_orders_45 : decode cX7_orders 45 = .ok (.iconst 0, 1) := by decide +kernel
theorem dX7_orders_46 : decode cX7_orders 46 = .ok (.ireturn, 1) := by decide +kernel
set_option maxRecDepth 20000 in
theorem ggX7_ordersByAll_X7_isDeck : GoodIn wsX7_ordersByAll wsX7_isDeck := goodIn_r _ [6, 7, 8, 9, 5, 10, 33, 34, 35, 36, 37, 38, 39, 40, 41, 42, 43, 44, 45, 46, 47, 48, 49, 50, 51, 52, 53, 54, 55] (by decide +kernel) (by decide +kernel)
set_option maxRecDepth 20000 in
theorem gX7_ordersByAll_X7_isDeck : GoodIn wsX7_ordersByAll (wsV RX7 110 RX7 yX7_isDeck wsX7_isDeck) := goodIn_app (goodIn_of _ (by decide +kernel)) ggX7_ordersByAll_X7_isDeck
set_option maxRecDepth 20000 in
theorem ggX7_ordersByAll_X7_isKind : GoodIn wsX7_ordersByAll wsX7_isKind := goodIn_r _ [13, 8, 9, 5, 10] (by decide +kernel) (by decide +kernel)
set_option maxRecDepth 20000 in
theorem gX7_ordersByAll_X7_isKind : GoodIn wsX7_ordersByAll (va_wsS RX7 85 yX7_isKind wsX7_isKind) := goodIn_app (goodIn_of _ (by decide +kernel)) ggX7_ordersByAll_X7_isKind
set_option maxRecDepth 20000 in
theorem ggX7_ordersByAll_X7_in : GoodIn wsX7_ordersByAll wsX7_in := goodIn_r _ [10] (by decide +kernel) (by decide +kernel)
set_option maxRecDepth 20000 in
theorem gX7_ordersByAll_X7_in : GoodIn wsX7_ordersByAll (va_wsS RX7 72 yX7_in wsX7_in) := goodIn_app (goodIn_of _ (by decide +kernel)) ggX7_ordersByAll_X7_in
set_option maxRecDepth 20000 in
theorem ggX7_ordersByAll_X7_goes : GoodIn wsX7_ordersByAll wsX7_goes := goodIn_r _ [17, 18, 33, 34, 35, 36, 37, 38, 39, 40, 41, 42, 43, 44, 45, 46, 47, 48, 49, 50, 51, 52, 53, 54, 55] (by decide +kernel) (by decide +kernel)
set_option maxRecDepth 20000 in
theorem gX7_ordersByAll_X7_goes : GoodIn wsX7_ordersByAll (wsV RX7 89 RX7 yX7_goes wsX7_goes) := goodIn_app (goodIn_of _ (by decide +kernel)) ggX7_ordersByAll_X7_goes
set_option maxRecDepth 20000 in
theorem ggX7_ordersByAll_X7_ordersOf : GoodIn wsX7_ordersByAll wsX7_ordersOf := goodIn_r _ [22, 1, 23, 24, 25, 5, 26, 27, 28, 29, 30, 31, 32, 33, 34, 35, 36, 37, 38, 39, 40, 41, 42, 43, 44, 45, 46, 47, 48, 49, 50, 51, 52, 53, 54, 55] (by decide +kernel) (by decide +kernel)
set_option maxRecDepth 20000 in
theorem gX7_ordersByAll_X7_ordersOf : GoodIn wsX7_ordersByAll (wsV RX7 162 RX7 yX7_ordersOf wsX7_ordersOf) := goodIn_app (goodIn_of _ (by decide +kernel)) ggX7_ordersByAll_X7_ordersOf
theorem dX7_ordersByAll_0 : decode cX7_ordersByAll 0 = .ok (.aload_n 0, 1) := by decide +kernel
theorem dX7_ordersByAll_1 : decode cX7_ordersByAll 1 = .ok (.iload_n 1, 1) := by decide +kernel
theorem dX7_ordersByAll_2 : decode cX7_ordersByAll 2 = .ok (.invokevirtual 110, 3) := by decide +kernel
theorem dX7_ordersByAll_5 : decode cX7_ordersByAll 5 = .ok (.ifCond .eq 14, 3) := by decide +kernel
theorem dX7_ordersByAll_8 : decode cX7_ordersByAll 8 = .ok (.iload_n 2, 1) := by decide +kernel
theorem dX7_ordersByAll_9 : decode cX7_ordersByAll 9 = .ok (.invokestatic 85, 3) := by decide +kernel
theorem dX7_ordersByAll_12 : decode cX7_ordersByAll 12 = .ok (.ifCond .eq 7, 3) := by decide +kernel
theorem dX7_ordersByAll_15 : decode cX7_ordersByAll 15 = .ok (.iconst 1, 1) := by decide +kernel
theorem dX7_ordersByAll_16 : decode cX7_ordersByAll 16 = .ok (.goto 4, 3) := by decide +kernel
theorem dX7_ordersByAll_19 : decode cX7_ordersByAll 19 = .ok (.iconst 0, 1) := by decide +kernel
theorem dX7_ordersByAll_20 : decode cX7_ordersByAll 20 = .ok (.istore 4, 2) := by decide +kernel
theorem dX7_ordersByAll_22 : decode cX7_ordersByAll 22 = .ok (.aload_n 0, 1) := by decide +kernel
theorem dX7_ordersByAll_23 : decode cX7_ordersByAll 23 = .ok (.iload 4, 2) := by decide +kernel
theorem dX7_ordersByAll_25 : decode cX7_ordersByAll 25 = .ok (.iload_n 3, 1) := by decide +kernel
theorem dX7_ordersByAll_26 : decode cX7_ordersByAll 26 = .ok (.iconst 1, 1) := by decide +kernel
theorem dX7_ordersByAll_27 : decode cX7_ordersByAll 27 = .ok (.bipush 10, 2) := by decide +kernel
theorem dX7_ordersByAll_29 : decode cX7_ordersByAll 29 = .ok (.invokestatic 72, 3) := by decide +kernel
theorem dX7_ordersByAll_32 : decode cX7_ordersByAll 32 = .ok (.iload 4, 2) := by decide +kernel
theorem dX7_ordersByAll_34 : decode cX7_ordersByAll 34 = .ok (.ifCond .eq 18, 3) := by decide +kernel
theorem dX7_ordersByAll_37 : decode cX7_ordersByAll 37 = .ok (.aload_n 0, 1) := by decide +kernel
theorem dX7_ordersByAll_38 : decode cX7_ordersByAll 38 = .ok (.getfield 45, 3) := by decide +kernel
theorem dX7_ordersByAll_41 : decode cX7_ordersByAll 41 = .ok (.iload_n 1, 1) := by decide +kernel
theorem dX7_ordersByAll_42 : decode cX7_ordersByAll 42 = .ok (.iaload, 1) := by decide +kernel
theorem dX7_ordersByAll_43 : decode cX7_ordersByAll 43 = .ok (.bipush 7, 2) := by decide +kernel
theorem dX7_ordersByAll_45 : decode cX7_ordersByAll 45 = .ok (.if_icmp .gt 7, 3) := by decide +kernel
theorem dX7_ordersByAll_48 : decode cX7_ordersByAll 48 = .ok (.iconst 1, 1) := by decide +kernel
theorem dX7_ordersByAll_49 : decode cX7_ordersByAll 49 = .ok (.goto 4, 3) := by decide +kernel
theorem dX7_ordersByAll_52 : decode cX7_ordersByAll 52 = .ok (.iconst 0, 1) := by decide +kernel
theorem dX7_ordersByAll_53 : decode cX7_ordersByAll 53 = .ok (.invokevirtual 89, 3) := by decide +kernel
theorem dX7_ordersByAll_56 : decode cX7_ordersByAll 56 = .ok (.ifCond .eq 13, 3) := by decide +kernel
theorem dX7_ordersByAll_59 : decode cX7_ordersByAll 59 = .ok (.aload_n 0, 1) := by decide +kernel
theorem dX7_ordersByAll_60 : decode cX7_ordersByAll 60 = .ok (.iload_n 1, 1) := by decide +kernel
theorem dX7_ordersByAll_61 : decode cX7_ordersByAll 61 = .ok (.iload_n 2, 1) := by decide +kernel
theorem dX7_ordersByAll_62 : decode cX7_ordersByAll 62 = .ok (.iload_n 3, 1) := by decide +kernel
theorem dX7_ordersByAll_63 : decode cX7_ordersByAll 63 = .ok (.invokevirtual 162, 3) := by decide +kernel
theorem dX7_ordersByAll_66 : decode cX7_ordersByAll 66 = .ok (.goto 4, 3) := by decide +kernel
theorem dX7_ordersByAll_69 : decode cX7_ordersByAll 69 = .ok (.iconst 0, 1) := by decide +kernel
theorem dX7_ordersByAll_70 : decode cX7_ordersByAll 70 = .ok (.ireturn, 1) := by decide +kernel
set_option maxRecDepth 20000 in
theorem ggX7_isOpen_X7_isOffer : GoodIn wsX7_isOpen wsX7_isOffer := goodIn_r _ [5, 6, 7, 8, 4, 9, 23, 24, 25, 26, 27, 28, 29, 30, 31, 32, 33, 34, 35, 36, 37, 38, 39, 40, 41, 42, 43, 44, 45] (by decide +kernel) (by decide +kernel)
set_option maxRecDepth 20000 in
theorem gX7_isOpen_X7_isOffer : GoodIn wsX7_isOpen (wsV RX7 143 RX7 yX7_isOffer wsX7_isOffer) := goodIn_app (goodIn_of _ (by decide +kernel)) ggX7_isOpen_X7_isOffer
set_option maxRecDepth 20000 in
theorem ggX7_isOpen_X7_goes : GoodIn wsX7_isOpen wsX7_goes := goodIn_r _ [13, 14, 23, 24, 25, 26, 27, 28, 29, 30, 31, 32, 33, 34, 35, 36, 37, 38, 39, 40, 41, 42, 43, 44, 45] (by decide +kernel) (by decide +kernel)
set_option maxRecDepth 20000 in
theorem gX7_isOpen_X7_goes : GoodIn wsX7_isOpen (wsV RX7 89 RX7 yX7_goes wsX7_goes) := goodIn_app (goodIn_of _ (by decide +kernel)) ggX7_isOpen_X7_goes
set_option maxRecDepth 20000 in
theorem ggX7_isOpen_X7_opens : GoodIn wsX7_isOpen wsX7_opens := goodIn_r _ [18, 19, 20, 21, 22, 23, 24, 25, 26, 27, 28, 29, 30, 31, 32, 33, 34, 35, 36, 37, 38, 39, 40, 41, 42, 43, 44, 45] (by decide +kernel) (by decide +kernel)
set_option maxRecDepth 20000 in
theorem gX7_isOpen_X7_opens : GoodIn wsX7_isOpen (wsV RX7 140 RX7 yX7_opens wsX7_opens) := goodIn_app (goodIn_of _ (by decide +kernel)) ggX7_isOpen_X7_opens
theorem dX7_isOpen_0 : decode cX7_isOpen 0 = .ok (.aload_n 0, 1) := by decide +kernel
theorem dX7_isOpen_1 : decode cX7_isOpen 1 = .ok (.aload_n 0, 1) := by decide +kernel
theorem dX7_isOpen_2 : decode cX7_isOpen 2 = .ok (.iload_n 1, 1) := by decide +kernel
theorem dX7_isOpen_3 : decode cX7_isOpen 3 = .ok (.invokevirtual 143, 3) := by decide +kernel
theorem dX7_isOpen_6 : decode cX7_isOpen 6 = .ok (.iconst 1, 1) := by decide +kernel
theorem dX7_isOpen_7 : decode cX7_isOpen 7 = .ok (.iconst 1, 1) := by decide +kernel
theorem dX7_isOpen_8 : decode cX7_isOpen 8 = .ok (.invokevirtual 89, 3) := by decide +kernel
theorem dX7_isOpen_11 : decode cX7_isOpen 11 = .ok (.ifCond .eq 15, 3) := by decide +kernel
theorem dX7_isOpen_14 : decode cX7_isOpen 14 = .ok (.aload_n 0, 1) := by decide +kernel
theorem dX7_isOpen_15 : decode cX7_isOpen 15 = .ok (.iload_n 1, 1) := by decide +kernel
theorem dX7_isOpen_16 : decode cX7_isOpen 16 = .ok (.invokevirtual 140, 3) := by decide +kernel
theorem dX7_isOpen_19 : decode cX7_isOpen 19 = .ok (.ifCond .eq 7, 3) := by decide +kernel
theorem dX7_isOpen_22 : decode cX7_isOpen 22 = .ok (.iconst 1, 1) := by decide +kernel
theorem dX7_isOpen_23 : decode cX7_isOpen 23 = .ok (.goto 4, 3) := by decide +kernel
theorem dX7_isOpen_26 : decode cX7_isOpen 26 = .ok (.iconst 0, 1) := by decide +kernel
theorem dX7_isOpen_27 : decode cX7_isOpen 27 = .ok (.ireturn, 1) := by decide +kernel
set_option maxRecDepth 20000 in
theorem ggX7_ring_X7_goes : GoodIn wsX7_ring wsX7_goes := goodIn_r _ [6, 7, 35, 36, 37, 38, 39, 40, 41, 42, 43, 44, 45, 46, 47, 48, 49, 50, 51, 52, 53, 54, 55, 56, 57] (by decide +kernel) (by decide +kernel)
set_option maxRecDepth 20000 in
theorem gX7_ring_X7_goes : GoodIn wsX7_ring (wsV RX7 89 RX7 yX7_goes wsX7_goes) := goodIn_app (goodIn_of _ (by decide +kernel)) ggX7_ring_X7_goes
set_option maxRecDepth 20000 in
theorem ggX7_ring_X7_first : GoodIn wsX7_ring wsX7_first := goodIn_r _ [11, 12, 13, 14, 5, 15, 1, 16, 17, 18, 19, 20, 21, 22, 23, 24, 25, 26, 27, 28, 29, 30, 31, 32, 33, 34, 35, 36, 37, 38, 39, 40, 41, 42, 43, 44, 45, 46, 47, 48, 49, 50, 51, 52, 53, 54, 55, 56, 57] (by decide +kernel) (by decide +kernel)
set_option maxRecDepth 20000 in
theorem gX7_ring_X7_first : GoodIn wsX7_ring (wsV RX7 155 RX7 yX7_first wsX7_first) := goodIn_app (goodIn_of _ (by decide +kernel)) ggX7_ring_X7_first
theorem dX7_ring_0 : decode cX7_ring 0 = .ok (.aload_n 0, 1) := by decide +kernel
theorem dX7_ring_1 : decode cX7_ring 1 = .ok (.iload_n 1, 1) := by decide +kernel
theorem dX7_ring_2 : decode cX7_ring 2 = .ok (.ifCond .lt 7, 3) := by decide +kernel
theorem dX7_ring_5 : decode cX7_ring 5 = .ok (.iconst 1, 1) := by decide +kernel
theorem dX7_ring_6 : decode cX7_ring 6 = .ok (.goto 4, 3) := by decide +kernel
theorem dX7_ring_9 : decode cX7_ring 9 = .ok (.iconst 0, 1) := by decide +kernel
theorem dX7_ring_10 : decode cX7_ring 10 = .ok (.iconst 1, 1) := by decide +kernel
theorem dX7_ring_11 : decode cX7_ring 11 = .ok (.iconst 1, 1) := by decide +kernel
theorem dX7_ring_12 : decode cX7_ring 12 = .ok (.invokevirtual 89, 3) := by decide +kernel
theorem dX7_ring_15 : decode cX7_ring 15 = .ok (.ifCond .ne 5, 3) := by decide +kernel
theorem dX7_ring_18 : decode cX7_ring 18 = .ok (.iconst 0, 1) := by decide +kernel
theorem dX7_ring_19 : decode cX7_ring 19 = .ok (.ireturn, 1) := by decide +kernel
theorem dX7_ring_20 : decode cX7_ring 20 = .ok (.iload_n 1, 1) := by decide +kernel
theorem dX7_ring_21 : decode cX7_ring 21 = .ok (.aload_n 0, 1) := by decide +kernel
theorem dX7_ring_22 : decode cX7_ring 22 = .ok (.invokevirtual 155, 3) := by decide +kernel
theorem dX7_ring_25 : decode cX7_ring 25 = .ok (.if_icmp .ge 12, 3) := by decide +kernel
theorem dX7_ring_28 : decode cX7_ring 28 = .ok (.aload_n 0, 1) := by decide +kernel
theorem dX7_ring_29 : decode cX7_ring 29 = .ok (.getfield 66, 3) := by decide +kernel
theorem dX7_ring_32 : decode cX7_ring 32 = .ok (.iload_n 1, 1) := by decide +kernel
theorem dX7_ring_33 : decode cX7_ring 33 = .ok (.iaload, 1) := by decide +kernel
theorem dX7_ring_34 : decode cX7_ring 34 = .ok (.goto 4, 3) := by decide +kernel
theorem dX7_ring_37 : decode cX7_ring 37 = .ok (.iconst (-1), 1) := by decide +kernel
theorem dX7_ring_38 : decode cX7_ring 38 = .ok (.ireturn, 1) := by decide +kernel
theorem dJ6_bitCount_0f7a4_0 : decode cJ6_bitCount_0f7a4 0 = .ok (.iload_n 0, 1) := by decide +kernel
theorem dJ6_bitCount_0f7a4_1 : decode cJ6_bitCount_0f7a4 1 = .ok (.iload_n 0, 1) := by decide +kernel
theorem dJ6_bitCount_0f7a4_2 : decode cJ6_bitCount_0f7a4 2 = .ok (.iconst 1, 1) := by decide +kernel
theorem dJ6_bitCount_0f7a4_3 : decode cJ6_bitCount_0f7a4 3 = .ok (.iushr, 1) := by decide +kernel
theorem dJ6_bitCount_0f7a4_4 : decode cJ6_bitCount_0f7a4 4 = .ok (.ldc_w 265, 3) := by decide +kernel
theorem dJ6_bitCount_0f7a4_7 : decode cJ6_bitCount_0f7a4 7 = .ok (.iand, 1) := by decide +kernel
theorem dJ6_bitCount_0f7a4_8 : decode cJ6_bitCount_0f7a4 8 = .ok (.isub, 1) := by decide +kernel
theorem dJ6_bitCount_0f7a4_9 : decode cJ6_bitCount_0f7a4 9 = .ok (.istore_n 0, 1) := by decide +kernel
theorem dJ6_bitCount_0f7a4_10 : decode cJ6_bitCount_0f7a4 10 = .ok (.iload_n 0, 1) := by decide +kernel
theorem dJ6_bitCount_0f7a4_11 : decode cJ6_bitCount_0f7a4 11 = .ok (.ldc_w 266, 3) := by decide +kernel
theorem dJ6_bitCount_0f7a4_14 : decode cJ6_bitCount_0f7a4 14 = .ok (.iand, 1) := by decide +kernel
theorem dJ6_bitCount_0f7a4_15 : decode cJ6_bitCount_0f7a4 15 = .ok (.iload_n 0, 1) := by decide +kernel
theorem dJ6_bitCount_0f7a4_16 : decode cJ6_bitCount_0f7a4 16 = .ok (.iconst 2, 1) := by decide +kernel
theorem dJ6_bitCount_0f7a4_17 : decode cJ6_bitCount_0f7a4 17 = .ok (.iushr, 1) := by decide +kernel
theorem dJ6_bitCount_0f7a4_18 : decode cJ6_bitCount_0f7a4 18 = .ok (.ldc_w 266, 3) := by decide +kernel
theorem dJ6_bitCount_0f7a4_21 : decode cJ6_bitCount_0f7a4 21 = .ok (.iand, 1) := by decide +kernel
theorem dJ6_bitCount_0f7a4_22 : decode cJ6_bitCount_0f7a4 22 = .ok (.iadd, 1) := by decide +kernel
theorem dJ6_bitCount_0f7a4_23 : decode cJ6_bitCount_0f7a4 23 = .ok (.istore_n 0, 1) := by decide +kernel
theorem dJ6_bitCount_0f7a4_24 : decode cJ6_bitCount_0f7a4 24 = .ok (.iload_n 0, 1) := by decide +kernel
theorem dJ6_bitCount_0f7a4_25 : decode cJ6_bitCount_0f7a4 25 = .ok (.iload_n 0, 1) := by decide +kernel
theorem dJ6_bitCount_0f7a4_26 : decode cJ6_bitCount_0f7a4 26 = .ok (.iconst 4, 1) := by decide +kernel
theorem dJ6_bitCount_0f7a4_27 : decode cJ6_bitCount_0f7a4 27 = .ok (.iushr, 1) := by decide +kernel
theorem dJ6_bitCount_0f7a4_28 : decode cJ6_bitCount_0f7a4 28 = .ok (.iadd, 1) := by decide +kernel
theorem dJ6_bitCount_0f7a4_29 : decode cJ6_bitCount_0f7a4 29 = .ok (.ldc_w 267, 3) := by decide +kernel
theorem dJ6_bitCount_0f7a4_32 : decode cJ6_bitCount_0f7a4 32 = .ok (.iand, 1) := by decide +kernel
theorem dJ6_bitCount_0f7a4_33 : decode cJ6_bitCount_0f7a4 33 = .ok (.istore_n 0, 1) := by decide +kernel
theorem dJ6_bitCount_0f7a4_34 : decode cJ6_bitCount_0f7a4 34 = .ok (.iload_n 0, 1) := by decide +kernel
theorem dJ6_bitCount_0f7a4_35 : decode cJ6_bitCount_0f7a4 35 = .ok (.iload_n 0, 1) := by decide +kernel
theorem dJ6_bitCount_0f7a4_36 : decode cJ6_bitCount_0f7a4 36 = .ok (.bipush 8, 2) := by decide +kernel
theorem dJ6_bitCount_0f7a4_38 : decode cJ6_bitCount_0f7a4 38 = .ok (.iushr, 1) := by decide +kernel
theorem dJ6_bitCount_0f7a4_39 : decode cJ6_bitCount_0f7a4 39 = .ok (.iadd, 1) := by decide +kernel
theorem dJ6_bitCount_0f7a4_40 : decode cJ6_bitCount_0f7a4 40 = .ok (.istore_n 0, 1) := by decide +kernel
theorem dJ6_bitCount_0f7a4_41 : decode cJ6_bitCount_0f7a4 41 = .ok (.iload_n 0, 1) := by decide +kernel
theorem dJ6_bitCount_0f7a4_42 : decode cJ6_bitCount_0f7a4 42 = .ok (.iload_n 0, 1) := by decide +kernel
theorem dJ6_bitCount_0f7a4_43 : decode cJ6_bitCount_0f7a4 43 = .ok (.bipush 16, 2) := by decide +kernel
theorem dJ6_bitCount_0f7a4_45 : decode cJ6_bitCount_0f7a4 45 = .ok (.iushr, 1) := by decide +kernel
theorem dJ6_bitCount_0f7a4_46 : decode cJ6_bitCount_0f7a4 46 = .ok (.iadd, 1) := by decide +kernel
theorem dJ6_bitCount_0f7a4_47 : decode cJ6_bitCount_0f7a4 47 = .ok (.istore_n 0, 1) := by decide +kernel
theorem dJ6_bitCount_0f7a4_48 : decode cJ6_bitCount_0f7a4 48 = .ok (.iload_n 0, 1) := by decide +kernel
theorem dJ6_bitCount_0f7a4_49 : decode cJ6_bitCount_0f7a4 49 = .ok (.bipush 63, 2) := by decide +kernel
theorem dJ6_bitCount_0f7a4_51 : decode cJ6_bitCount_0f7a4 51 = .ok (.iand, 1) := by decide +kernel
theorem dJ6_bitCount_0f7a4_52 : decode cJ6_bitCount_0f7a4 52 = .ok (.ireturn, 1) := by decide +kernel
set_option maxRecDepth 20000 in
theorem ggL_setKind_X6_setKind : GoodIn wsL_setKind wsX6_setKind := goodIn_ca (goodIn_ca (goodIn_r _ [7, 8, 9, 10, 11, 12, 6, 13, 14, 15, 16, 17, 18, 19, 20, 21, 22, 23, 24, 25, 26, 27, 28, 29, 30, 31, 32] (by decide +kernel) (by decide +kernel)) (goodIn_sub (fun _ h => List.mem_cons_of_mem _ (List.mem_append_left _ (List.mem_append_right _ h))) (by decide +kernel))) (goodIn_sub (fun _ h => List.mem_cons_of_mem _ (List.mem_append_right _ h)) (by decide +kernel))
set_option maxRecDepth 20000 in
theorem gL_setKind_X6_setKind : GoodIn wsL_setKind (wsV RL 7 RX6 yX6_setKind wsX6_setKind) := goodIn_app (goodIn_of _ (by decide +kernel)) ggL_setKind_X6_setKind
theorem dL_setKind_0 : decode cL_setKind 0 = .ok (.aload 4, 2) := by decide +kernel
theorem dL_setKind_2 : decode cL_setKind 2 = .ok (.iconst 0, 1) := by decide +kernel
theorem dL_setKind_3 : decode cL_setKind 3 = .ok (.aload_n 0, 1) := by decide +kernel
theorem dL_setKind_4 : decode cL_setKind 4 = .ok (.iload_n 1, 1) := by decide +kernel
theorem dL_setKind_5 : decode cL_setKind 5 = .ok (.iload_n 2, 1) := by decide +kernel
theorem dL_setKind_6 : decode cL_setKind 6 = .ok (.iload_n 3, 1) := by decide +kernel
theorem dL_setKind_7 : decode cL_setKind 7 = .ok (.invokevirtual 7, 3) := by decide +kernel
theorem dL_setKind_10 : decode cL_setKind 10 = .ok (.i2l, 1) := by decide +kernel
theorem dL_setKind_11 : decode cL_setKind 11 = .ok (.lastore, 1) := by decide +kernel
theorem dL_setKind_12 : decode cL_setKind 12 = .ok (.goto 11, 3) := by decide +kernel
theorem dL_setKind_15 : decode cL_setKind 15 = .ok (.astore 5, 2) := by decide +kernel
theorem dL_setKind_17 : decode cL_setKind 17 = .ok (.iconst 1, 1) := by decide +kernel
theorem dL_setKind_18 : decode cL_setKind 18 = .ok (.ireturn, 1) := by decide +kernel
theorem dL_setKind_19 : decode cL_setKind 19 = .ok (.astore 5, 2) := by decide +kernel
theorem dL_setKind_21 : decode cL_setKind 21 = .ok (.iconst 2, 1) := by decide +kernel
theorem dL_setKind_22 : decode cL_setKind 22 = .ok (.ireturn, 1) := by decide +kernel
theorem dL_setKind_23 : decode cL_setKind 23 = .ok (.iconst 0, 1) := by decide +kernel
theorem dL_setKind_24 : decode cL_setKind 24 = .ok (.ireturn, 1) := by decide +kernel
set_option maxRecDepth 20000 in
theorem ggL_setFormat_X6_setFormat : GoodIn wsL_setFormat wsX6_setFormat := goodIn_ca (goodIn_r _ [6, 7, 8, 9, 10, 11, 12, 13, 5, 14, 15, 16, 17, 18, 19, 20, 21, 22, 23, 24, 25, 26, 27, 28, 29, 30, 31, 32, 33, 34, 35, 36, 37, 38, 39, 40, 41, 42, 43, 44, 45, 46, 47, 48, 49, 50, 51, 52, 53, 54, 55, 56, 57, 58, 59, 60, 61, 62, 63, 64, 65, 66, 67, 68, 69, 70, 71] (by decide +kernel) (by decide +kernel)) (goodIn_sub (fun _ h => List.mem_cons_of_mem _ (List.mem_append_right _ h)) (by decide +kernel))
set_option maxRecDepth 20000 in
theorem gL_setFormat_X6_setFormat : GoodIn wsL_setFormat (wsV RL 17 RX6 yX6_setFormat wsX6_setFormat) := goodIn_app (goodIn_of _ (by decide +kernel)) ggL_setFormat_X6_setFormat
theorem dL_setFormat_0 : decode cL_setFormat 0 = .ok (.aload_n 3, 1) := by decide +kernel
theorem dL_setFormat_1 : decode cL_setFormat 1 = .ok (.iconst 0, 1) := by decide +kernel
theorem dL_setFormat_2 : decode cL_setFormat 2 = .ok (.aload_n 0, 1) := by decide +kernel
theorem dL_setFormat_3 : decode cL_setFormat 3 = .ok (.iload_n 1, 1) := by decide +kernel
theorem dL_setFormat_4 : decode cL_setFormat 4 = .ok (.iload_n 2, 1) := by decide +kernel
theorem dL_setFormat_5 : decode cL_setFormat 5 = .ok (.invokevirtual 17, 3) := by decide +kernel
theorem dL_setFormat_8 : decode cL_setFormat 8 = .ok (.i2l, 1) := by decide +kernel
theorem dL_setFormat_9 : decode cL_setFormat 9 = .ok (.lastore, 1) := by decide +kernel
theorem dL_setFormat_10 : decode cL_setFormat 10 = .ok (.goto 7, 3) := by decide +kernel
theorem dL_setFormat_13 : decode cL_setFormat 13 = .ok (.astore 4, 2) := by decide +kernel
theorem dL_setFormat_15 : decode cL_setFormat 15 = .ok (.iconst 1, 1) := by decide +kernel
theorem dL_setFormat_16 : decode cL_setFormat 16 = .ok (.ireturn, 1) := by decide +kernel
theorem dL_setFormat_17 : decode cL_setFormat 17 = .ok (.iconst 0, 1) := by decide +kernel
theorem dL_setFormat_18 : decode cL_setFormat 18 = .ok (.ireturn, 1) := by decide +kernel
set_option maxRecDepth 20000 in
theorem ggL_ban_X6_ban : GoodIn wsL_ban wsX6_ban := goodIn_ca (goodIn_r _ [6, 7, 8, 9, 10, 11, 12, 5, 13, 14, 15, 16, 17, 18, 19, 20, 21, 22, 23, 24, 25, 26, 27, 28, 29, 30, 31, 32, 33, 34, 35, 36, 37, 38, 39, 40, 41, 42, 43, 44, 45, 46, 47, 48, 49, 50, 51, 52, 53, 54, 55, 56, 57, 58, 59, 60, 61, 62, 63, 64, 65, 66, 67, 68, 69, 70] (by decide +kernel) (by decide +kernel)) (goodIn_sub (fun _ h => List.mem_cons_of_mem _ (List.mem_append_right _ h)) (by decide +kernel))
set_option maxRecDepth 20000 in
theorem gL_ban_X6_ban : GoodIn wsL_ban (wsV RL 21 RX6 yX6_ban wsX6_ban) := goodIn_app (goodIn_of _ (by decide +kernel)) ggL_ban_X6_ban
theorem dL_ban_0 : decode cL_ban 0 = .ok (.aload_n 3, 1) := by decide +kernel
theorem dL_ban_1 : decode cL_ban 1 = .ok (.iconst 0, 1) := by decide +kernel
theorem dL_ban_2 : decode cL_ban 2 = .ok (.aload_n 0, 1) := by decide +kernel
theorem dL_ban_3 : decode cL_ban 3 = .ok (.iload_n 1, 1) := by decide +kernel
theorem dL_ban_4 : decode cL_ban 4 = .ok (.iload_n 2, 1) := by decide +kernel
theorem dL_ban_5 : decode cL_ban 5 = .ok (.invokevirtual 21, 3) := by decide +kernel
theorem dL_ban_8 : decode cL_ban 8 = .ok (.i2l, 1) := by decide +kernel
theorem dL_ban_9 : decode cL_ban 9 = .ok (.lastore, 1) := by decide +kernel
theorem dL_ban_10 : decode cL_ban 10 = .ok (.goto 7, 3) := by decide +kernel
theorem dL_ban_13 : decode cL_ban 13 = .ok (.astore 4, 2) := by decide +kernel
theorem dL_ban_15 : decode cL_ban 15 = .ok (.iconst 1, 1) := by decide +kernel
theorem dL_ban_16 : decode cL_ban 16 = .ok (.ireturn, 1) := by decide +kernel
theorem dL_ban_17 : decode cL_ban 17 = .ok (.iconst 0, 1) := by decide +kernel
theorem dL_ban_18 : decode cL_ban 18 = .ok (.ireturn, 1) := by decide +kernel
set_option maxRecDepth 20000 in
theorem ggL_print_X6_print : GoodIn wsL_print wsX6_print := goodIn_ca (goodIn_ca (goodIn_r _ [7, 8, 9, 10, 11, 12, 13, 14, 15, 6, 16, 17, 18, 19, 20, 21, 22, 23, 24, 25, 26, 27, 28, 29, 30, 31, 32, 33, 34, 35, 36, 37, 38, 39, 40, 41, 42, 43, 44, 45, 46] (by decide +kernel) (by decide +kernel)) (goodIn_sub (fun _ h => List.mem_cons_of_mem _ (List.mem_append_left _ (List.mem_append_right _ h))) (by decide +kernel))) (goodIn_sub (fun _ h => List.mem_cons_of_mem _ (List.mem_append_right _ h)) (by decide +kernel))
set_option maxRecDepth 20000 in
theorem gL_print_X6_print : GoodIn wsL_print (wsV RL 25 RX6 yX6_print wsX6_print) := goodIn_app (goodIn_of _ (by decide +kernel)) ggL_print_X6_print
theorem dL_print_0 : decode cL_print 0 = .ok (.aload_n 3, 1) := by decide +kernel
theorem dL_print_1 : decode cL_print 1 = .ok (.iconst 0, 1) := by decide +kernel
theorem dL_print_2 : decode cL_print 2 = .ok (.aload_n 0, 1) := by decide +kernel
theorem dL_print_3 : decode cL_print 3 = .ok (.iload_n 1, 1) := by decide +kernel
theorem dL_print_4 : decode cL_print 4 = .ok (.iload_n 2, 1) := by decide +kernel
theorem dL_print_5 : decode cL_print 5 = .ok (.invokevirtual 25, 3) := by decide +kernel
theorem dL_print_8 : decode cL_print 8 = .ok (.i2l, 1) := by decide +kernel
theorem dL_print_9 : decode cL_print 9 = .ok (.lastore, 1) := by decide +kernel
theorem dL_print_10 : decode cL_print 10 = .ok (.goto 11, 3) := by decide +kernel
theorem dL_print_13 : decode cL_print 13 = .ok (.astore 4, 2) := by decide +kernel
theorem dL_print_15 : decode cL_print 15 = .ok (.iconst 1, 1) := by decide +kernel
theorem dL_print_16 : decode cL_print 16 = .ok (.ireturn, 1) := by decide +kernel
theorem dL_print_17 : decode cL_print 17 = .ok (.astore 4, 2) := by decide +kernel
theorem dL_print_19 : decode cL_print 19 = .ok (.iconst 2, 1) := by decide +kernel
theorem dL_print_20 : decode cL_print 20 = .ok (.ireturn, 1) := by decide +kernel
theorem dL_print_21 : decode cL_print 21 = .ok (.iconst 0, 1) := by decide +kernel
theorem dL_print_22 : decode cL_print 22 = .ok (.ireturn, 1) := by decide +kernel
set_option maxRecDepth 20000 in
theorem ggL_deck_X6_deck : GoodIn wsL_deck wsX6_deck := goodIn_ca (goodIn_ca (goodIn_r _ [7, 8, 9, 10, 11, 12, 13, 6, 14, 15, 16, 17, 18, 19, 20, 21, 22, 23, 24, 25, 26, 27, 28, 29, 30, 31, 32, 33, 34, 35, 36] (by decide +kernel) (by decide +kernel)) (goodIn_sub (fun _ h => List.mem_cons_of_mem _ (List.mem_append_left _ (List.mem_append_right _ h))) (by decide +kernel))) (goodIn_sub (fun _ h => List.mem_cons_of_mem _ (List.mem_append_right _ h)) (by decide +kernel))
set_option maxRecDepth 20000 in
theorem gL_deck_X6_deck : GoodIn wsL_deck (wsV RL 30 RX6 yX6_deck wsX6_deck) := goodIn_app (goodIn_of _ (by decide +kernel)) ggL_deck_X6_deck
theorem dL_deck_0 : decode cL_deck 0 = .ok (.aload_n 2, 1) := by decide +kernel
theorem dL_deck_1 : decode cL_deck 1 = .ok (.iconst 0, 1) := by decide +kernel
theorem dL_deck_2 : decode cL_deck 2 = .ok (.aload_n 0, 1) := by decide +kernel
theorem dL_deck_3 : decode cL_deck 3 = .ok (.iload_n 1, 1) := by decide +kernel
theorem dL_deck_4 : decode cL_deck 4 = .ok (.invokevirtual 30, 3) := by decide +kernel
theorem dL_deck_7 : decode cL_deck 7 = .ok (.i2l, 1) := by decide +kernel
theorem dL_deck_8 : decode cL_deck 8 = .ok (.lastore, 1) := by decide +kernel
theorem dL_deck_9 : decode cL_deck 9 = .ok (.goto 9, 3) := by decide +kernel
theorem dL_deck_12 : decode cL_deck 12 = .ok (.astore_n 3, 1) := by decide +kernel
theorem dL_deck_13 : decode cL_deck 13 = .ok (.iconst 1, 1) := by decide +kernel
theorem dL_deck_14 : decode cL_deck 14 = .ok (.ireturn, 1) := by decide +kernel
theorem dL_deck_15 : decode cL_deck 15 = .ok (.astore_n 3, 1) := by decide +kernel
theorem dL_deck_16 : decode cL_deck 16 = .ok (.iconst 2, 1) := by decide +kernel
theorem dL_deck_17 : decode cL_deck 17 = .ok (.ireturn, 1) := by decide +kernel
theorem dL_deck_18 : decode cL_deck 18 = .ok (.iconst 0, 1) := by decide +kernel
theorem dL_deck_19 : decode cL_deck 19 = .ok (.ireturn, 1) := by decide +kernel
set_option maxRecDepth 20000 in
theorem ggL_add_X6_add : GoodIn wsL_add wsX6_add := goodIn_ca (goodIn_ca (goodIn_ca (goodIn_r _ [8, 9, 10, 11, 12, 13, 14, 15, 16, 17, 18, 19, 20, 7, 21, 22, 23, 24, 25, 26, 27, 28, 29, 30, 31, 32, 33, 34, 35, 36, 37, 38, 39, 40, 41, 42, 43, 44, 45, 46, 47, 48, 49, 50, 51, 52, 53, 54, 55, 56, 57] (by decide +kernel) (by decide +kernel)) (goodIn_sub (fun _ h => List.mem_cons_of_mem _ (List.mem_append_left _ (List.mem_append_left _ (List.mem_append_right _ h)))) (by decide +kernel))) (goodIn_sub (fun _ h => List.mem_cons_of_mem _ (List.mem_append_left _ (List.mem_append_right _ h))) (by decide +kernel))) (goodIn_sub (fun _ h => List.mem_cons_of_mem _ (List.mem_append_right _ h)) (by decide +kernel))
set_option maxRecDepth 20000 in
theorem gL_add_X6_add : GoodIn wsL_add (wsV RL 34 RX6 yX6_add wsX6_add) := goodIn_app (goodIn_of _ (by decide +kernel)) ggL_add_X6_add
theorem dL_add_0 : decode cL_add 0 = .ok (.aload_n 3, 1) := by decide +kernel
theorem dL_add_1 : decode cL_add 1 = .ok (.iconst 0, 1) := by decide +kernel
theorem dL_add_2 : decode cL_add 2 = .ok (.aload_n 0, 1) := by decide +kernel
theorem dL_add_3 : decode cL_add 3 = .ok (.iload_n 1, 1) := by decide +kernel
theorem dL_add_4 : decode cL_add 4 = .ok (.iload_n 2, 1) := by decide +kernel
theorem dL_add_5 : decode cL_add 5 = .ok (.invokevirtual 34, 3) := by decide +kernel
theorem dL_add_8 : decode cL_add 8 = .ok (.i2l, 1) := by decide +kernel
theorem dL_add_9 : decode cL_add 9 = .ok (.lastore, 1) := by decide +kernel
theorem dL_add_10 : decode cL_add 10 = .ok (.goto 15, 3) := by decide +kernel
theorem dL_add_13 : decode cL_add 13 = .ok (.astore 4, 2) := by decide +kernel
theorem dL_add_15 : decode cL_add 15 = .ok (.iconst 1, 1) := by decide +kernel
theorem dL_add_16 : decode cL_add 16 = .ok (.ireturn, 1) := by decide +kernel
theorem dL_add_17 : decode cL_add 17 = .ok (.astore 4, 2) := by decide +kernel
theorem dL_add_19 : decode cL_add 19 = .ok (.iconst 2, 1) := by decide +kernel
theorem dL_add_20 : decode cL_add 20 = .ok (.ireturn, 1) := by decide +kernel
theorem dL_add_21 : decode cL_add 21 = .ok (.astore 4, 2) := by decide +kernel
theorem dL_add_23 : decode cL_add 23 = .ok (.iconst 3, 1) := by decide +kernel
theorem dL_add_24 : decode cL_add 24 = .ok (.ireturn, 1) := by decide +kernel
theorem dL_add_25 : decode cL_add 25 = .ok (.iconst 0, 1) := by decide +kernel
theorem dL_add_26 : decode cL_add 26 = .ok (.ireturn, 1) := by decide +kernel
set_option maxRecDepth 20000 in
theorem ggL_cut_X6_cut : GoodIn wsL_cut wsX6_cut := goodIn_ca (goodIn_r _ [6, 7, 8, 9, 10, 5, 11, 12, 13, 14, 15, 16, 17, 18, 19, 20, 21, 22, 23, 24, 25, 26, 27, 28, 29, 30, 31, 32, 33, 34, 35, 36, 37, 38, 39] (by decide +kernel) (by decide +kernel)) (goodIn_sub (fun _ h => List.mem_cons_of_mem _ (List.mem_append_right _ h)) (by decide +kernel))
set_option maxRecDepth 20000 in
theorem gL_cut_X6_cut : GoodIn wsL_cut (wsV RL 37 RX6 yX6_cut wsX6_cut) := goodIn_app (goodIn_of _ (by decide +kernel)) ggL_cut_X6_cut
theorem dL_cut_0 : decode cL_cut 0 = .ok (.aload_n 3, 1) := by decide +kernel
theorem dL_cut_1 : decode cL_cut 1 = .ok (.iconst 0, 1) := by decide +kernel
theorem dL_cut_2 : decode cL_cut 2 = .ok (.aload_n 0, 1) := by decide +kernel
theorem dL_cut_3 : decode cL_cut 3 = .ok (.iload_n 1, 1) := by decide +kernel
theorem dL_cut_4 : decode cL_cut 4 = .ok (.iload_n 2, 1) := by decide +kernel
theorem dL_cut_5 : decode cL_cut 5 = .ok (.invokevirtual 37, 3) := by decide +kernel
theorem dL_cut_8 : decode cL_cut 8 = .ok (.i2l, 1) := by decide +kernel
theorem dL_cut_9 : decode cL_cut 9 = .ok (.lastore, 1) := by decide +kernel
theorem dL_cut_10 : decode cL_cut 10 = .ok (.goto 7, 3) := by decide +kernel
theorem dL_cut_13 : decode cL_cut 13 = .ok (.astore 4, 2) := by decide +kernel
theorem dL_cut_15 : decode cL_cut 15 = .ok (.iconst 1, 1) := by decide +kernel
theorem dL_cut_16 : decode cL_cut 16 = .ok (.ireturn, 1) := by decide +kernel
theorem dL_cut_17 : decode cL_cut 17 = .ok (.iconst 0, 1) := by decide +kernel
theorem dL_cut_18 : decode cL_cut 18 = .ok (.ireturn, 1) := by decide +kernel
set_option maxRecDepth 20000 in
theorem ggL_play_X6_play : GoodIn wsL_play wsX6_play := goodIn_ca (goodIn_ca (goodIn_ca (goodIn_r _ [8, 9, 10, 11, 12, 13, 14, 15, 16, 17, 18, 19, 7, 20, 21, 22, 23, 24, 25, 26, 27, 28, 29, 30, 31, 32, 33, 34, 35, 36, 37, 38, 39, 40, 41, 42, 43, 44, 45, 46, 47, 48, 49, 50, 51, 52, 53, 54, 55, 56, 57, 58, 59, 60, 61, 62, 63, 64, 65, 66, 67, 68, 69, 70, 71, 72, 73, 74, 75, 76, 77, 78, 79, 80, 81, 82, 83, 84, 85, 86, 87, 88, 89, 90, 91, 92, 93, 94, 95, 96, 97, 98, 99, 100, 101, 102, 103, 104, 105, 106, 107, 108, 109, 110, 111, 112, 113, 114, 115, 116, 117, 118, 119, 120, 121, 122, 123, 124, 125, 126, 127, 128] (by decide +kernel) (by decide +kernel)) (goodIn_sub (fun _ h => List.mem_cons_of_mem _ (List.mem_append_left _ (List.mem_append_left _ (List.mem_append_right _ h)))) (by decide +kernel))) (goodIn_sub (fun _ h => List.mem_cons_of_mem _ (List.mem_append_left _ (List.mem_append_right _ h))) (by decide +kernel))) (goodIn_sub (fun _ h => List.mem_cons_of_mem _ (List.mem_append_right _ h)) (by decide +kernel))
set_option maxRecDepth 20000 in
theorem gL_play_X6_play : GoodIn wsL_play (wsV RL 40 RX6 yX6_play wsX6_play) := goodIn_app (goodIn_of _ (by decide +kernel)) ggL_play_X6_play
theorem dL_play_0 : decode cL_play 0 = .ok (.aload 5, 2) := by decide +kernel
theorem dL_play_2 : decode cL_play 2 = .ok (.iconst 0, 1) := by decide +kernel
theorem dL_play_3 : decode cL_play 3 = .ok (.aload_n 0, 1) := by decide +kernel
theorem dL_play_4 : decode cL_play 4 = .ok (.iload_n 1, 1) := by decide +kernel
theorem dL_play_5 : decode cL_play 5 = .ok (.iload_n 2, 1) := by decide +kernel
theorem dL_play_6 : decode cL_play 6 = .ok (.iload_n 3, 1) := by decide +kernel
theorem dL_play_7 : decode cL_play 7 = .ok (.iload 4, 2) := by decide +kernel
theorem dL_play_9 : decode cL_play 9 = .ok (.invokevirtual 40, 3) := by decide +kernel
theorem dL_play_12 : decode cL_play 12 = .ok (.i2l, 1) := by decide +kernel
theorem dL_play_13 : decode cL_play 13 = .ok (.lastore, 1) := by decide +kernel
theorem dL_play_14 : decode cL_play 14 = .ok (.goto 15, 3) := by decide +kernel
theorem dL_play_17 : decode cL_play 17 = .ok (.astore 6, 2) := by decide +kernel
theorem dL_play_19 : decode cL_play 19 = .ok (.iconst 1, 1) := by decide +kernel
theorem dL_play_20 : decode cL_play 20 = .ok (.ireturn, 1) := by decide +kernel
theorem dL_play_21 : decode cL_play 21 = .ok (.astore 6, 2) := by decide +kernel
theorem dL_play_23 : decode cL_play 23 = .ok (.iconst 2, 1) := by decide +kernel
theorem dL_play_24 : decode cL_play 24 = .ok (.ireturn, 1) := by decide +kernel
theorem dL_play_25 : decode cL_play 25 = .ok (.astore 6, 2) := by decide +kernel
theorem dL_play_27 : decode cL_play 27 = .ok (.iconst 3, 1) := by decide +kernel
theorem dL_play_28 : decode cL_play 28 = .ok (.ireturn, 1) := by decide +kernel
theorem dL_play_29 : decode cL_play 29 = .ok (.iconst 0, 1) := by decide +kernel
theorem dL_play_30 : decode cL_play 30 = .ok (.ireturn, 1) := by decide +kernel
set_option maxRecDepth 20000 in
theorem ggL_offer_X6_offer : GoodIn wsL_offer wsX6_offer := goodIn_ca (goodIn_ca (goodIn_ca (goodIn_r _ [8, 9, 10, 11, 12, 13, 14, 15, 16, 17, 18, 19, 7, 20, 21, 22, 23, 24, 25, 26, 27, 28, 29, 30, 31, 32, 33, 34, 35, 36, 37, 38, 39, 40, 41, 42, 43, 44, 45, 46, 47, 48, 49, 50, 51, 52, 53, 54, 55, 56, 57, 58, 59, 60, 61] (by decide +kernel) (by decide +kernel)) (goodIn_sub (fun _ h => List.mem_cons_of_mem _ (List.mem_append_left _ (List.mem_append_left _ (List.mem_append_right _ h)))) (by decide +kernel))) (goodIn_sub (fun _ h => List.mem_cons_of_mem _ (List.mem_append_left _ (List.mem_append_right _ h))) (by decide +kernel))) (goodIn_sub (fun _ h => List.mem_cons_of_mem _ (List.mem_append_right _ h)) (by decide +kernel))
set_option maxRecDepth 20000 in
theorem gL_offer_X6_offer : GoodIn wsL_offer (wsV RL 44 RX6 yX6_offer wsX6_offer) := goodIn_app (goodIn_of _ (by decide +kernel)) ggL_offer_X6_offer
theorem dL_offer_0 : decode cL_offer 0 = .ok (.aload_n 3, 1) := by decide +kernel
theorem dL_offer_1 : decode cL_offer 1 = .ok (.iconst 0, 1) := by decide +kernel
theorem dL_offer_2 : decode cL_offer 2 = .ok (.aload_n 0, 1) := by decide +kernel
theorem dL_offer_3 : decode cL_offer 3 = .ok (.iload_n 1, 1) := by decide +kernel
theorem dL_offer_4 : decode cL_offer 4 = .ok (.iload_n 2, 1) := by decide +kernel
theorem dL_offer_5 : decode cL_offer 5 = .ok (.invokevirtual 44, 3) := by decide +kernel
theorem dL_offer_8 : decode cL_offer 8 = .ok (.i2l, 1) := by decide +kernel
theorem dL_offer_9 : decode cL_offer 9 = .ok (.lastore, 1) := by decide +kernel
theorem dL_offer_10 : decode cL_offer 10 = .ok (.goto 15, 3) := by decide +kernel
theorem dL_offer_13 : decode cL_offer 13 = .ok (.astore 4, 2) := by decide +kernel
theorem dL_offer_15 : decode cL_offer 15 = .ok (.iconst 1, 1) := by decide +kernel
theorem dL_offer_16 : decode cL_offer 16 = .ok (.ireturn, 1) := by decide +kernel
theorem dL_offer_17 : decode cL_offer 17 = .ok (.astore 4, 2) := by decide +kernel
theorem dL_offer_19 : decode cL_offer 19 = .ok (.iconst 2, 1) := by decide +kernel
theorem dL_offer_20 : decode cL_offer 20 = .ok (.ireturn, 1) := by decide +kernel
theorem dL_offer_21 : decode cL_offer 21 = .ok (.astore 4, 2) := by decide +kernel
theorem dL_offer_23 : decode cL_offer 23 = .ok (.iconst 3, 1) := by decide +kernel
theorem dL_offer_24 : decode cL_offer 24 = .ok (.ireturn, 1) := by decide +kernel
theorem dL_offer_25 : decode cL_offer 25 = .ok (.iconst 0, 1) := by decide +kernel
theorem dL_offer_26 : decode cL_offer 26 = .ok (.ireturn, 1) := by decide +kernel
set_option maxRecDepth 20000 in
theorem ggL_takeBack_X6_takeBack : GoodIn wsL_takeBack wsX6_takeBack := goodIn_ca (goodIn_ca (goodIn_r _ [7, 8, 9, 10, 11, 12, 13, 14, 15, 6, 16, 17, 18, 19, 20, 21, 22, 23, 24, 25, 26, 27, 28, 29, 30, 31, 32, 33] (by decide +kernel) (by decide +kernel)) (goodIn_sub (fun _ h => List.mem_cons_of_mem _ (List.mem_append_left _ (List.mem_append_right _ h))) (by decide +kernel))) (goodIn_sub (fun _ h => List.mem_cons_of_mem _ (List.mem_append_right _ h)) (by decide +kernel))
set_option maxRecDepth 20000 in
theorem gL_takeBack_X6_takeBack : GoodIn wsL_takeBack (wsV RL 47 RX6 yX6_takeBack wsX6_takeBack) := goodIn_app (goodIn_of _ (by decide +kernel)) ggL_takeBack_X6_takeBack
theorem dL_takeBack_0 : decode cL_takeBack 0 = .ok (.aload_n 2, 1) := by decide +kernel
theorem dL_takeBack_1 : decode cL_takeBack 1 = .ok (.iconst 0, 1) := by decide +kernel
theorem dL_takeBack_2 : decode cL_takeBack 2 = .ok (.aload_n 0, 1) := by decide +kernel
theorem dL_takeBack_3 : decode cL_takeBack 3 = .ok (.iload_n 1, 1) := by decide +kernel
theorem dL_takeBack_4 : decode cL_takeBack 4 = .ok (.invokevirtual 47, 3) := by decide +kernel
theorem dL_takeBack_7 : decode cL_takeBack 7 = .ok (.i2l, 1) := by decide +kernel
theorem dL_takeBack_8 : decode cL_takeBack 8 = .ok (.lastore, 1) := by decide +kernel
theorem dL_takeBack_9 : decode cL_takeBack 9 = .ok (.goto 9, 3) := by decide +kernel
theorem dL_takeBack_12 : decode cL_takeBack 12 = .ok (.astore_n 3, 1) := by decide +kernel
theorem dL_takeBack_13 : decode cL_takeBack 13 = .ok (.iconst 1, 1) := by decide +kernel
theorem dL_takeBack_14 : decode cL_takeBack 14 = .ok (.ireturn, 1) := by decide +kernel
theorem dL_takeBack_15 : decode cL_takeBack 15 = .ok (.astore_n 3, 1) := by decide +kernel
theorem dL_takeBack_16 : decode cL_takeBack 16 = .ok (.iconst 2, 1) := by decide +kernel
theorem dL_takeBack_17 : decode cL_takeBack 17 = .ok (.ireturn, 1) := by decide +kernel
theorem dL_takeBack_18 : decode cL_takeBack 18 = .ok (.iconst 0, 1) := by decide +kernel
theorem dL_takeBack_19 : decode cL_takeBack 19 = .ok (.ireturn, 1) := by decide +kernel
set_option maxRecDepth 20000 in
theorem ggL_printOf_X6_printOf : GoodIn wsL_printOf wsX6_printOf := goodIn_ca (goodIn_r _ [6, 7, 8, 9, 10, 11, 12, 5, 13, 14, 15, 16, 17, 18, 19, 20, 21, 22, 23, 24, 25, 26, 27] (by decide +kernel) (by decide +kernel)) (goodIn_sub (fun _ h => List.mem_cons_of_mem _ (List.mem_append_right _ h)) (by decide +kernel))
set_option maxRecDepth 20000 in
theorem gL_printOf_X6_printOf : GoodIn wsL_printOf (wsV RL 50 RX6 yX6_printOf wsX6_printOf) := goodIn_app (goodIn_of _ (by decide +kernel)) ggL_printOf_X6_printOf
theorem dL_printOf_0 : decode cL_printOf 0 = .ok (.aload_n 2, 1) := by decide +kernel
theorem dL_printOf_1 : decode cL_printOf 1 = .ok (.iconst 0, 1) := by decide +kernel
theorem dL_printOf_2 : decode cL_printOf 2 = .ok (.aload_n 0, 1) := by decide +kernel
theorem dL_printOf_3 : decode cL_printOf 3 = .ok (.iload_n 1, 1) := by decide +kernel
theorem dL_printOf_4 : decode cL_printOf 4 = .ok (.invokevirtual 50, 3) := by decide +kernel
theorem dL_printOf_7 : decode cL_printOf 7 = .ok (.i2l, 1) := by decide +kernel
theorem dL_printOf_8 : decode cL_printOf 8 = .ok (.lastore, 1) := by decide +kernel
theorem dL_printOf_9 : decode cL_printOf 9 = .ok (.goto 6, 3) := by decide +kernel
theorem dL_printOf_12 : decode cL_printOf 12 = .ok (.astore_n 3, 1) := by decide +kernel
theorem dL_printOf_13 : decode cL_printOf 13 = .ok (.iconst 1, 1) := by decide +kernel
theorem dL_printOf_14 : decode cL_printOf 14 = .ok (.ireturn, 1) := by decide +kernel
theorem dL_printOf_15 : decode cL_printOf 15 = .ok (.iconst 0, 1) := by decide +kernel
theorem dL_printOf_16 : decode cL_printOf 16 = .ok (.ireturn, 1) := by decide +kernel
set_option maxRecDepth 20000 in
theorem ggL_collectorOf_X6_collectorOf : GoodIn wsL_collectorOf wsX6_collectorOf := goodIn_ca (goodIn_r _ [6, 7, 8, 9, 10, 11, 5, 12, 13, 14, 15, 16, 17, 18, 19, 20, 21, 22, 23, 24, 25, 26] (by decide +kernel) (by decide +kernel)) (goodIn_sub (fun _ h => List.mem_cons_of_mem _ (List.mem_append_right _ h)) (by decide +kernel))
set_option maxRecDepth 20000 in
theorem gL_collectorOf_X6_collectorOf : GoodIn wsL_collectorOf (wsV RL 53 RX6 yX6_collectorOf wsX6_collectorOf) := goodIn_app (goodIn_of _ (by decide +kernel)) ggL_collectorOf_X6_collectorOf
theorem dL_collectorOf_0 : decode cL_collectorOf 0 = .ok (.aload_n 2, 1) := by decide +kernel
theorem dL_collectorOf_1 : decode cL_collectorOf 1 = .ok (.iconst 0, 1) := by decide +kernel
theorem dL_collectorOf_2 : decode cL_collectorOf 2 = .ok (.aload_n 0, 1) := by decide +kernel
theorem dL_collectorOf_3 : decode cL_collectorOf 3 = .ok (.iload_n 1, 1) := by decide +kernel
theorem dL_collectorOf_4 : decode cL_collectorOf 4 = .ok (.invokevirtual 53, 3) := by decide +kernel
theorem dL_collectorOf_7 : decode cL_collectorOf 7 = .ok (.i2l, 1) := by decide +kernel
theorem dL_collectorOf_8 : decode cL_collectorOf 8 = .ok (.lastore, 1) := by decide +kernel
theorem dL_collectorOf_9 : decode cL_collectorOf 9 = .ok (.goto 6, 3) := by decide +kernel
theorem dL_collectorOf_12 : decode cL_collectorOf 12 = .ok (.astore_n 3, 1) := by decide +kernel
theorem dL_collectorOf_13 : decode cL_collectorOf 13 = .ok (.iconst 1, 1) := by decide +kernel
theorem dL_collectorOf_14 : decode cL_collectorOf 14 = .ok (.ireturn, 1) := by decide +kernel
theorem dL_collectorOf_15 : decode cL_collectorOf 15 = .ok (.iconst 0, 1) := by decide +kernel
theorem dL_collectorOf_16 : decode cL_collectorOf 16 = .ok (.ireturn, 1) := by decide +kernel
set_option maxRecDepth 20000 in
theorem ggL_has_X6_has : GoodIn wsL_has wsX6_has := goodIn_ca (goodIn_r _ [6, 7, 8, 9, 5, 10, 11, 12, 13, 14, 15, 16, 17, 18, 19, 20, 21, 22, 23, 24, 25, 26, 27, 28, 29, 30, 31, 32, 33, 34] (by decide +kernel) (by decide +kernel)) (goodIn_sub (fun _ h => List.mem_cons_of_mem _ (List.mem_append_right _ h)) (by decide +kernel))
set_option maxRecDepth 20000 in
theorem gL_has_X6_has : GoodIn wsL_has (wsV RL 56 RX6 yX6_has wsX6_has) := goodIn_app (goodIn_of _ (by decide +kernel)) ggL_has_X6_has
theorem dL_has_0 : decode cL_has 0 = .ok (.aload_n 3, 1) := by decide +kernel
theorem dL_has_1 : decode cL_has 1 = .ok (.iconst 0, 1) := by decide +kernel
theorem dL_has_2 : decode cL_has 2 = .ok (.aload_n 0, 1) := by decide +kernel
theorem dL_has_3 : decode cL_has 3 = .ok (.iload_n 1, 1) := by decide +kernel
theorem dL_has_4 : decode cL_has 4 = .ok (.iload_n 2, 1) := by decide +kernel
theorem dL_has_5 : decode cL_has 5 = .ok (.invokevirtual 56, 3) := by decide +kernel
theorem dL_has_8 : decode cL_has 8 = .ok (.i2l, 1) := by decide +kernel
theorem dL_has_9 : decode cL_has 9 = .ok (.lastore, 1) := by decide +kernel
theorem dL_has_10 : decode cL_has 10 = .ok (.goto 7, 3) := by decide +kernel
theorem dL_has_13 : decode cL_has 13 = .ok (.astore 4, 2) := by decide +kernel
theorem dL_has_15 : decode cL_has 15 = .ok (.iconst 1, 1) := by decide +kernel
theorem dL_has_16 : decode cL_has 16 = .ok (.ireturn, 1) := by decide +kernel
theorem dL_has_17 : decode cL_has 17 = .ok (.iconst 0, 1) := by decide +kernel
theorem dL_has_18 : decode cL_has 18 = .ok (.ireturn, 1) := by decide +kernel
