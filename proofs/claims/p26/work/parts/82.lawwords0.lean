set_option maxRecDepth 20000 in
theorem wsL_law0_r1_in : ∀ w ∈ wsL_law0_r1, w ∈ lw_tbl := fun w h => (goodIn_p wsL_law0_r1 [29, 32] (by decide +kernel) (by decide +kernel) w h).1
set_option maxRecDepth 20000 in
theorem wsL_law0_r2_in : ∀ w ∈ wsL_law0_r2, w ∈ lw_tbl := fun w h => (goodIn_p wsL_law0_r2 [37, 67] (by decide +kernel) (by decide +kernel) w h).1
set_option maxRecDepth 20000 in
theorem wsL_law0_r3_in : ∀ w ∈ wsL_law0_r3, w ∈ lw_tbl := fun w h => (goodIn_p wsL_law0_r3 [94, 128, 161] (by decide +kernel) (by decide +kernel) w h).1
set_option maxRecDepth 20000 in
theorem wsL_law0_r4_in : ∀ w ∈ wsL_law0_r4, w ∈ lw_tbl := fun w h => (goodIn_p wsL_law0_r4 [172, 233, 392] (by decide +kernel) (by decide +kernel) w h).1
set_option maxRecDepth 20000 in
theorem wsL_law0_r5_in : ∀ w ∈ wsL_law0_r5, w ∈ lw_tbl := fun w h => (goodIn_p wsL_law0_r5 [218, 221, 225, 229, 214] (by decide +kernel) (by decide +kernel) w h).1
set_option maxRecDepth 20000 in
theorem wsL_law0_r6_in : ∀ w ∈ wsL_law0_r6, w ∈ lw_tbl := fun w h => (goodIn_p wsL_law0_r6 [379, 383, 329, 333] (by decide +kernel) (by decide +kernel) w h).1
set_option maxRecDepth 20000 in
theorem wsL_law0_r7_in : ∀ w ∈ wsL_law0_r7, w ∈ lw_tbl := fun w h => (goodIn_p wsL_law0_r7 [337, 340, 352, 355] (by decide +kernel) (by decide +kernel) w h).1
set_option maxRecDepth 20000 in
theorem wsL_law0_r8_in : ∀ w ∈ wsL_law0_r8, w ∈ lw_tbl := fun w h => (goodIn_p wsL_law0_r8 [250, 253, 325, 236] (by decide +kernel) (by decide +kernel) w h).1
set_option maxRecDepth 20000 in
theorem wsL_law0_r9_in : ∀ w ∈ wsL_law0_r9, w ∈ lw_tbl := fun w h => (show GoodIn lw_tbl wsL_law0_r9 from (goodIn_app (goodIn_p (big := lw_tbl) [Cond.methodLink RL 168 yL_acts, Cond.static yL_acts] [] (by decide +kernel) (by decide +kernel)) (goodIn_app (goodIn_1 (List.mem_of_getElem? (i := 504) rfl) rfl) (goodIn_p (big := lw_tbl) [Cond.constant RL 35 (-1000003), Cond.constant RL 120 (65536), Cond.methodLink RL 111 yL_low, Cond.static yL_low, Cond.code yL_low cL_low 2 (some .int), Cond.constant RL 9 (2147483647), Cond.methodLink RL 138 yL_print, Cond.static yL_print, Cond.codeWith yL_print cL_print 4 (some .int) [(0, 6, 7, 16), (0, 6, 11, 33)], Cond.classLink RL 33 "java/lang/IllegalStateException", Cond.methodLink RL 30 yX6_print, Cond.instanceMethod yX6_print, Cond.selects RX6 yX6_print yX6_print, Cond.code yX6_print cX6_print 3 (some .int), Cond.classLink RX6 90 "java/lang/IllegalStateException", Cond.initialized "java/lang/IllegalStateException", Cond.methodLink RX6 84 yX6_needCollector, Cond.static yX6_needCollector, Cond.code yX6_needCollector cX6_needCollector 1 none, Cond.methodLink RX6 100 yX4_append, Cond.instanceMethod yX4_append] [241, 511, 425] (by decide +kernel) (by decide +kernel))))) w h |>.1
