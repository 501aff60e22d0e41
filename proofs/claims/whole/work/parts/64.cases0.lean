set_option maxHeartbeats 4000000 in
set_option maxRecDepth 100000 in
theorem case_setKind (l : Launch) (D : va_G) (a b : Nat → Nat) (c : Nat → ClassId) (o : Nat) (hl0 : l.stackTraces = false) {G : Gt} {sb L : Nat} {xs : Nat → Int32} (KE : OkE l room_1 G cL_law 7 wsL_law RL D (tyW c)) (KS : OkS l room_1 G cL_law 7 wsL_law RL D (tyW c) sb L xs) {m k n i : Nat} (S J : St) (f : Nat → Int64) (J2 : St) (hI : Inv m S) (hm : m ≤ 600) (hi : i + 5 ≤ L) (hL : L ≤ 2560) (hk : k + 10 ≤ 602188) (hn : n + 60 ≤ 7289539) (NX : Next G sb a b o c (m + 1) k n i) : G k n (wL a b o c S J f J2) (lvL sb (a 0) (b 0) o i) 144 [] := by
  have K := KE.ok
  have hV := hI.V hm
  have hO := hI.2.2.1
  unfold wL lvL
  obtain ⟨x, hx_⟩ : ∃ x : Int32, x = xs (i + 1) := ⟨_, rfl⟩
  obtain ⟨y, hy_⟩ : ∃ x : Int32, x = xs (i + 2) := ⟨_, rfl⟩
  obtain ⟨z, hz_⟩ : ∃ x : Int32, x = xs (i + 3) := ⟨_, rfl⟩
  refine r_aload_n K dL_law_144 rfl ?_
  refine r_aload_n K dL_law_145 rfl ?_
  refine r_iload K dL_law_146 rfl ?_
  refine r_iconst K (nI 1) dL_law_148 (by decide) ?_
  refine r_iadd K dL_law_149 ?_
  refine r_sld KS (by omega) hL dL_law_150 ?_
  refine r_top hx_.symm ?_
  refine r_aload_n K dL_law_151 rfl ?_
  refine r_iload K dL_law_152 rfl ?_
  refine r_iconst K (nI 2) dL_law_154 (by decide) ?_
  refine r_iadd K dL_law_155 ?_
  refine r_sld KS (by omega) hL dL_law_156 ?_
  refine r_top hy_.symm ?_
  refine r_aload_n K dL_law_157 rfl ?_
  refine r_iload K dL_law_158 rfl ?_
  refine r_iconst K (nI 3) dL_law_160 (by decide) ?_
  refine r_iadd K dL_law_161 ?_
  refine r_sld KS (by omega) hL dL_law_162 ?_
  refine r_top hz_.symm ?_
  refine r_aload_n K dL_law_163 rfl ?_
  refine r_callW (rest := []) (z := wM b c S J2) KE (c_L_setKind l D a c S J o f hl0 hV x y z) 5 gL_law_L_setKind rfl (by decide +kernel) rfl ⟨⟨Nat.le_of_ble_eq_true rfl, Nat.le_of_ble_eq_true rfl⟩, (by show k + 3 ≤ 602188; omega), (by show n + 18 ≤ 7289539; omega)⟩ rfl (Nat.le_of_ble_eq_true rfl) dL_law_164 ?_
  rintro _ u ⟨rfl, hv⟩
  refine r_istore (lv' := [(0, .ref sb), (1, .ref (a 0)), (2, .ref (b 0)), (3, .ref o), (4, .int (nI i)), (5, .int (nI (thr (inB x 0 15) (inB y 0 9 && inB z 0 3) (true))))]) K dL_law_167 (by decide) rfl ?_
  refine r_aload_n K dL_law_169 rfl ?_
  refine r_aload_n K dL_law_170 rfl ?_
  refine r_iload K dL_law_171 rfl ?_
  refine r_iconst K (nI 1) dL_law_173 (by decide) ?_
  refine r_iadd K dL_law_174 ?_
  refine r_sld KS (by omega) hL dL_law_175 ?_
  refine r_top hx_.symm ?_
  refine r_aload_n K dL_law_176 rfl ?_
  refine r_iload K dL_law_177 rfl ?_
  refine r_iconst K (nI 2) dL_law_179 (by decide) ?_
  refine r_iadd K dL_law_180 ?_
  refine r_sld KS (by omega) hL dL_law_181 ?_
  refine r_top hy_.symm ?_
  refine r_aload_n K dL_law_182 rfl ?_
  refine r_iload K dL_law_183 rfl ?_
  refine r_iconst K (nI 3) dL_law_185 (by decide) ?_
  refine r_iadd K dL_law_186 ?_
  refine r_sld KS (by omega) hL dL_law_187 ?_
  refine r_top hz_.symm ?_
  refine r_callVr (rest := []) (z := (wC a c (if thr (inB x 0 15) (inB y 0 9 && inB z 0 3) (true) = 0 then (up (up S 10 (tn x) (tn y)) 11 (tn x) (tn z)) else S) u.1 ++ lo o c u.2)) K (c_X7_setKind l D b c S J2 hV x y z) 3 gL_law_X7_setKind rfl (by decide +kernel) rfl ⟨⟨Nat.le_of_ble_eq_true rfl, Nat.le_of_ble_eq_true rfl⟩, (by show k + 3 + 0 ≤ 602188; omega), (by show n + 18 + 0 ≤ 7289539; omega)⟩ 0 (wM_g0 _ _ _ _) rfl rfl (Nat.le_of_ble_eq_true rfl) dL_law_188 ?_
  rintro r2 J3 ⟨hJ, hv2⟩
  refine r_istore (lv' := [(0, .ref sb), (1, .ref (a 0)), (2, .ref (b 0)), (3, .ref o), (4, .int (nI i)), (5, .int (nI (thr (inB x 0 15) (inB y 0 9 && inB z 0 3) (true)))), (6, .int r2)]) K dL_law_191 (by decide) rfl ?_
  refine r_aload_n K dL_law_193 rfl ?_
  refine r_callVr (rest := []) (z := (wC a c (if thr (inB x 0 15) (inB y 0 9 && inB z 0 3) (true) = 0 then (up (up S 10 (tn x) (tn y)) 11 (tn x) (tn z)) else S) u.1 ++ lo o c u.2)) (w := wM b c (if thr (inB x 0 15) (inB y 0 9 && inB z 0 3) (true) = 0 then up (up S 10 (tn x) (tn y)) 11 (tn x) (tn z) else S) J3) K (c_X7_thrown l D b c (if thr (inB x 0 15) (inB y 0 9 && inB z 0 3) (true) = 0 then up (up S 10 (tn x) (tn y)) 11 (tn x) (tn z) else S) J3) 0 gL_law_X7_thrown rfl (by decide +kernel) rfl ⟨⟨Nat.le_of_ble_eq_true rfl, Nat.le_of_ble_eq_true rfl⟩, (by show k + 3 + 0 + 0 ≤ 602188; omega), (by show n + 18 + 0 + 0 ≤ 7289539; omega)⟩ 0 (wM_g0 _ _ _ _) rfl rfl (Nat.le_of_ble_eq_true rfl) dL_law_194 ?_
  rintro _ _ rfl
  refine r_top (congrArg nI (hJ)) ?_
  refine r_iload K dL_law_197 rfl ?_
  refine r_ic_eq K 204 dL_law_199 (by decide) (Nat.lt_of_le_of_lt (thr_le3 _ _ _) (by decide)) (Nat.lt_of_le_of_lt (thr_le3 _ _ _) (by decide)) (fun _ => ?_) (fun h => absurd rfl h)
  refine r_iload K dL_law_204 rfl ?_
  refine r_if_ne K 221 dL_law_206 (by decide) (Nat.lt_of_le_of_lt (thr_le3 _ _ _) (by decide)) (fun h0 => ?_) (fun h0 => ?_)
  ·
    refine r_goto K 1592 dL_law_221 (by decide) ?_
    refine r_pick [0, 1, 2, 3, 4] K rfl ?_
    refine r_w (ws' := wL a b o c S u.1 u.2 J3) (by unfold wL; rw [if_neg h0]) ?_
    exact NX _ _ S u.1 u.2 J3 (by show k + 3 + 0 + 0 ≤ k + 10; omega) (by show n + 18 + 0 + 0 ≤ n + 60; omega) (hI.mono (by omega))
  ·
    have h02 := h0
    obtain ⟨hb1, hb2, hb3⟩ := thr_eq0 h0
    refine r_aload_n K dL_law_209 rfl ?_
    refine r_iconst K (nI 0) dL_law_210 (by decide) ?_
    refine r_lald0 K (f := u.2) 42 3 rfl rfl (by decide) dL_law_211 ?_
    refine r_iload K dL_law_212 rfl ?_
    refine r_i2lR K dL_law_214 ?_
    refine r_lcmpR K dL_law_215 ?_
    refine r_top (show lg_cmp (u.2 0) r2.toInt64 = nI 0 from by rw [hv h0, hv2 h02]; exact lcmp_0 _) ?_
    refine r_if_eq K 221 dL_law_216 (by decide) (by decide) (fun _ => ?_) (fun h => absurd rfl h)
    refine r_goto K 1592 dL_law_221 (by decide) ?_
    refine r_pick [0, 1, 2, 3, 4] K rfl ?_
    refine r_w (ws' := wL a b o c (up (up S 10 (tn x) (tn y)) 11 (tn x) (tn z)) u.1 u.2 J3) (by unfold wL; rw [if_pos h0]) ?_
    exact NX _ _ (up (up S 10 (tn x) (tn y)) 11 (tn x) (tn z)) u.1 u.2 J3 (by show k + 3 + 0 + 0 ≤ k + 10; omega) (by show n + 18 + 0 + 0 ≤ n + 60; omega) ((inv_setKind hI (by have := inB_tn (by decide) (Bool.and_eq_true_iff.mp hb2).1; omega) (by have := inB_tn (by decide) (Bool.and_eq_true_iff.mp hb2).2; omega)).mono (by omega))

set_option maxHeartbeats 4000000 in
set_option maxRecDepth 100000 in
theorem case_setFormat (l : Launch) (D : va_G) (a b : Nat → Nat) (c : Nat → ClassId) (o : Nat) (hl0 : l.stackTraces = false) {G : Gt} {sb L : Nat} {xs : Nat → Int32} (KE : OkE l room_1 G cL_law 7 wsL_law RL D (tyW c)) (KS : OkS l room_1 G cL_law 7 wsL_law RL D (tyW c) sb L xs) {m k n i : Nat} (S J : St) (f : Nat → Int64) (J2 : St) (hI : Inv m S) (hm : m ≤ 600) (hi : i + 5 ≤ L) (hL : L ≤ 2560) (hk : k + 10 ≤ 602188) (hn : n + 60 ≤ 7289539) (NX : Next G sb a b o c (m + 1) k n i) : G k n (wL a b o c S J f J2) (lvL sb (a 0) (b 0) o i) 224 [] := by
  have K := KE.ok
  have hV := hI.V hm
  have hO := hI.2.2.1
  unfold wL lvL
  obtain ⟨x, hx_⟩ : ∃ x : Int32, x = xs (i + 1) := ⟨_, rfl⟩
  obtain ⟨y, hy_⟩ : ∃ x : Int32, x = xs (i + 2) := ⟨_, rfl⟩
  refine r_aload_n K dL_law_224 rfl ?_
  refine r_aload_n K dL_law_225 rfl ?_
  refine r_iload K dL_law_226 rfl ?_
  refine r_iconst K (nI 1) dL_law_228 (by decide) ?_
  refine r_iadd K dL_law_229 ?_
  refine r_sld KS (by omega) hL dL_law_230 ?_
  refine r_top hx_.symm ?_
  refine r_aload_n K dL_law_231 rfl ?_
  refine r_iload K dL_law_232 rfl ?_
  refine r_iconst K (nI 2) dL_law_234 (by decide) ?_
  refine r_iadd K dL_law_235 ?_
  refine r_sld KS (by omega) hL dL_law_236 ?_
  refine r_top hy_.symm ?_
  refine r_aload_n K dL_law_237 rfl ?_
  refine r_callW (rest := []) (z := wM b c S J2) KE (c_L_setFormat l D a c S J o f hl0 hV x y) 4 gL_law_L_setFormat rfl (by decide +kernel) rfl ⟨⟨Nat.le_of_ble_eq_true rfl, Nat.le_of_ble_eq_true rfl⟩, (by show k + 2 ≤ 602188; omega), (by show n + 12 ≤ 7289539; omega)⟩ rfl (Nat.le_of_ble_eq_true rfl) dL_law_238 ?_
  rintro _ u ⟨rfl, hv⟩
  refine r_istore (lv' := [(0, .ref sb), (1, .ref (a 0)), (2, .ref (b 0)), (3, .ref o), (4, .int (nI i)), (5, .int (nI (thr (inB x 4 10 && inB y 1 4) (true) (true))))]) K dL_law_241 (by decide) rfl ?_
  refine r_aload_n K dL_law_243 rfl ?_
  refine r_aload_n K dL_law_244 rfl ?_
  refine r_iload K dL_law_245 rfl ?_
  refine r_iconst K (nI 1) dL_law_247 (by decide) ?_
  refine r_iadd K dL_law_248 ?_
  refine r_sld KS (by omega) hL dL_law_249 ?_
  refine r_top hx_.symm ?_
  refine r_aload_n K dL_law_250 rfl ?_
  refine r_iload K dL_law_251 rfl ?_
  refine r_iconst K (nI 2) dL_law_253 (by decide) ?_
  refine r_iadd K dL_law_254 ?_
  refine r_sld KS (by omega) hL dL_law_255 ?_
  refine r_top hy_.symm ?_
  refine r_callVr (rest := []) (z := (wC a c (if thr (inB x 4 10 && inB y 1 4) (true) (true) = 0 then (up (up S 3 1 (tn x)) 3 2 (tn y)) else S) u.1 ++ lo o c u.2)) K (c_X7_setFormat l D b c S J2 hV x y) 2 gL_law_X7_setFormat rfl (by decide +kernel) rfl ⟨⟨Nat.le_of_ble_eq_true rfl, Nat.le_of_ble_eq_true rfl⟩, (by show k + 2 + 0 ≤ 602188; omega), (by show n + 12 + 0 ≤ 7289539; omega)⟩ 0 (wM_g0 _ _ _ _) rfl rfl (Nat.le_of_ble_eq_true rfl) dL_law_256 ?_
  rintro r2 J3 ⟨hJ, hv2⟩
  refine r_istore (lv' := [(0, .ref sb), (1, .ref (a 0)), (2, .ref (b 0)), (3, .ref o), (4, .int (nI i)), (5, .int (nI (thr (inB x 4 10 && inB y 1 4) (true) (true)))), (6, .int r2)]) K dL_law_259 (by decide) rfl ?_
  refine r_aload_n K dL_law_261 rfl ?_
  refine r_callVr (rest := []) (z := (wC a c (if thr (inB x 4 10 && inB y 1 4) (true) (true) = 0 then (up (up S 3 1 (tn x)) 3 2 (tn y)) else S) u.1 ++ lo o c u.2)) (w := wM b c (if thr (inB x 4 10 && inB y 1 4) (true) (true) = 0 then up (up S 3 1 (tn x)) 3 2 (tn y) else S) J3) K (c_X7_thrown l D b c (if thr (inB x 4 10 && inB y 1 4) (true) (true) = 0 then up (up S 3 1 (tn x)) 3 2 (tn y) else S) J3) 0 gL_law_X7_thrown rfl (by decide +kernel) rfl ⟨⟨Nat.le_of_ble_eq_true rfl, Nat.le_of_ble_eq_true rfl⟩, (by show k + 2 + 0 + 0 ≤ 602188; omega), (by show n + 12 + 0 + 0 ≤ 7289539; omega)⟩ 0 (wM_g0 _ _ _ _) rfl rfl (Nat.le_of_ble_eq_true rfl) dL_law_262 ?_
  rintro _ _ rfl
  refine r_top (congrArg nI (hJ)) ?_
  refine r_iload K dL_law_265 rfl ?_
  refine r_ic_eq K 272 dL_law_267 (by decide) (Nat.lt_of_le_of_lt (thr_le3 _ _ _) (by decide)) (Nat.lt_of_le_of_lt (thr_le3 _ _ _) (by decide)) (fun _ => ?_) (fun h => absurd rfl h)
  refine r_iload K dL_law_272 rfl ?_
  refine r_if_ne K 289 dL_law_274 (by decide) (Nat.lt_of_le_of_lt (thr_le3 _ _ _) (by decide)) (fun h0 => ?_) (fun h0 => ?_)
  ·
    refine r_goto K 1592 dL_law_289 (by decide) ?_
    refine r_pick [0, 1, 2, 3, 4] K rfl ?_
    refine r_w (ws' := wL a b o c S u.1 u.2 J3) (by unfold wL; rw [if_neg h0]) ?_
    exact NX _ _ S u.1 u.2 J3 (by show k + 2 + 0 + 0 ≤ k + 10; omega) (by show n + 12 + 0 + 0 ≤ n + 60; omega) (hI.mono (by omega))
  ·
    have h02 := h0
    obtain ⟨hb1, hb2, hb3⟩ := thr_eq0 h0
    refine r_aload_n K dL_law_277 rfl ?_
    refine r_iconst K (nI 0) dL_law_278 (by decide) ?_
    refine r_lald0 K (f := u.2) 42 3 rfl rfl (by decide) dL_law_279 ?_
    refine r_iload K dL_law_280 rfl ?_
    refine r_i2lR K dL_law_282 ?_
    refine r_lcmpR K dL_law_283 ?_
    refine r_top (show lg_cmp (u.2 0) r2.toInt64 = nI 0 from by rw [hv h0, hv2 h02]; exact lcmp_0 _) ?_
    refine r_if_eq K 289 dL_law_284 (by decide) (by decide) (fun _ => ?_) (fun h => absurd rfl h)
    refine r_goto K 1592 dL_law_289 (by decide) ?_
    refine r_pick [0, 1, 2, 3, 4] K rfl ?_
    refine r_w (ws' := wL a b o c (up (up S 3 1 (tn x)) 3 2 (tn y)) u.1 u.2 J3) (by unfold wL; rw [if_pos h0]) ?_
    exact NX _ _ (up (up S 3 1 (tn x)) 3 2 (tn y)) u.1 u.2 J3 (by show k + 2 + 0 + 0 ≤ k + 10; omega) (by show n + 12 + 0 + 0 ≤ n + 60; omega) ((inv_setFormat hI (by have := inB_tn (by decide) (Bool.and_eq_true_iff.mp hb1).1; omega) (by have := inB_tn (by decide) (Bool.and_eq_true_iff.mp hb1).1; omega) (by have := inB_tn (by decide) (Bool.and_eq_true_iff.mp hb1).2; omega)).mono (by omega))

set_option maxHeartbeats 4000000 in
set_option maxRecDepth 100000 in
theorem case_ban (l : Launch) (D : va_G) (a b : Nat → Nat) (c : Nat → ClassId) (o : Nat) (hl0 : l.stackTraces = false) {G : Gt} {sb L : Nat} {xs : Nat → Int32} (KE : OkE l room_1 G cL_law 7 wsL_law RL D (tyW c)) (KS : OkS l room_1 G cL_law 7 wsL_law RL D (tyW c) sb L xs) {m k n i : Nat} (S J : St) (f : Nat → Int64) (J2 : St) (hI : Inv m S) (hm : m ≤ 600) (hi : i + 5 ≤ L) (hL : L ≤ 2560) (hk : k + 10 ≤ 602188) (hn : n + 60 ≤ 7289539) (NX : Next G sb a b o c (m + 1) k n i) : G k n (wL a b o c S J f J2) (lvL sb (a 0) (b 0) o i) 292 [] := by
  have K := KE.ok
  have hV := hI.V hm
  have hO := hI.2.2.1
  unfold wL lvL
  obtain ⟨x, hx_⟩ : ∃ x : Int32, x = xs (i + 1) := ⟨_, rfl⟩
  obtain ⟨zw, hzw_⟩ : ∃ x : Int32, x = xs (i + 2) := ⟨_, rfl⟩
  by_cases hz : zw = 0
  ·
    refine r_aload_n K dL_law_292 rfl ?_
    refine r_aload_n K dL_law_293 rfl ?_
    refine r_iload K dL_law_294 rfl ?_
    refine r_iconst K (nI 1) dL_law_296 (by decide) ?_
    refine r_iadd K dL_law_297 ?_
    refine r_sld KS (by omega) hL dL_law_298 ?_
    refine r_top hx_.symm ?_
    refine r_aload_n K dL_law_299 rfl ?_
    refine r_iload K dL_law_300 rfl ?_
    refine r_iconst K (nI 2) dL_law_302 (by decide) ?_
    refine r_iadd K dL_law_303 ?_
    refine r_sld KS (by omega) hL dL_law_304 ?_
    refine r_top hzw_.symm ?_
    refine r_if_eqR K 312 dL_law_305 (by decide) (fun _ => ?_) (fun h => absurd hz h)
    refine r_iconst K (nI 0) dL_law_312 (by decide) ?_
    refine r_aload_n K dL_law_313 rfl ?_
    refine r_callW (rest := []) (z := wM b c S J2) KE (c_L_ban l D a c S J o f hl0 hV x false) 4 gL_law_L_ban rfl (by decide +kernel) rfl ⟨⟨Nat.le_of_ble_eq_true rfl, Nat.le_of_ble_eq_true rfl⟩, (by show k + 1 ≤ 602188; omega), (by show n + 6 ≤ 7289539; omega)⟩ rfl (Nat.le_of_ble_eq_true rfl) dL_law_314 ?_
    rintro _ u ⟨rfl, hv⟩
    refine r_istore (lv' := [(0, .ref sb), (1, .ref (a 0)), (2, .ref (b 0)), (3, .ref o), (4, .int (nI i)), (5, .int (nI (thr (inB x 0 15) (true) (true))))]) K dL_law_317 (by decide) rfl ?_
    refine r_aload_n K dL_law_319 rfl ?_
    refine r_aload_n K dL_law_320 rfl ?_
    refine r_iload K dL_law_321 rfl ?_
    refine r_iconst K (nI 1) dL_law_323 (by decide) ?_
    refine r_iadd K dL_law_324 ?_
    refine r_sld KS (by omega) hL dL_law_325 ?_
    refine r_top hx_.symm ?_
    refine r_aload_n K dL_law_326 rfl ?_
    refine r_iload K dL_law_327 rfl ?_
    refine r_iconst K (nI 2) dL_law_329 (by decide) ?_
    refine r_iadd K dL_law_330 ?_
    refine r_sld KS (by omega) hL dL_law_331 ?_
    refine r_top hzw_.symm ?_
    refine r_if_eqR K 339 dL_law_332 (by decide) (fun _ => ?_) (fun h => absurd hz h)
    refine r_iconst K (nI 0) dL_law_339 (by decide) ?_
    refine r_callVr (rest := []) (z := (wC a c (if thr (inB x 0 15) (true) (true) = 0 then (up S 12 (tn x) false.toNat) else S) u.1 ++ lo o c u.2)) K (c_X7_ban l D b c S J2 hV x false) 2 gL_law_X7_ban rfl (by decide +kernel) rfl ⟨⟨Nat.le_of_ble_eq_true rfl, Nat.le_of_ble_eq_true rfl⟩, (by show k + 1 + 0 ≤ 602188; omega), (by show n + 6 + 0 ≤ 7289539; omega)⟩ 0 (wM_g0 _ _ _ _) rfl rfl (Nat.le_of_ble_eq_true rfl) dL_law_340 ?_
    rintro r2 J3 ⟨hJ, hv2⟩
    refine r_istore (lv' := [(0, .ref sb), (1, .ref (a 0)), (2, .ref (b 0)), (3, .ref o), (4, .int (nI i)), (5, .int (nI (thr (inB x 0 15) (true) (true)))), (6, .int r2)]) K dL_law_343 (by decide) rfl ?_
    refine r_aload_n K dL_law_345 rfl ?_
    refine r_callVr (rest := []) (z := (wC a c (if thr (inB x 0 15) (true) (true) = 0 then (up S 12 (tn x) false.toNat) else S) u.1 ++ lo o c u.2)) (w := wM b c (if thr (inB x 0 15) (true) (true) = 0 then up S 12 (tn x) false.toNat else S) J3) K (c_X7_thrown l D b c (if thr (inB x 0 15) (true) (true) = 0 then up S 12 (tn x) false.toNat else S) J3) 0 gL_law_X7_thrown rfl (by decide +kernel) rfl ⟨⟨Nat.le_of_ble_eq_true rfl, Nat.le_of_ble_eq_true rfl⟩, (by show k + 1 + 0 + 0 ≤ 602188; omega), (by show n + 6 + 0 + 0 ≤ 7289539; omega)⟩ 0 (wM_g0 _ _ _ _) rfl rfl (Nat.le_of_ble_eq_true rfl) dL_law_346 ?_
    rintro _ _ rfl
    refine r_top (congrArg nI (hJ)) ?_
    refine r_iload K dL_law_349 rfl ?_
    refine r_ic_eq K 356 dL_law_351 (by decide) (Nat.lt_of_le_of_lt (thr_le3 _ _ _) (by decide)) (Nat.lt_of_le_of_lt (thr_le3 _ _ _) (by decide)) (fun _ => ?_) (fun h => absurd rfl h)
    refine r_iload K dL_law_356 rfl ?_
    refine r_if_ne K 373 dL_law_358 (by decide) (Nat.lt_of_le_of_lt (thr_le3 _ _ _) (by decide)) (fun h0 => ?_) (fun h0 => ?_)
    ·
      refine r_goto K 1592 dL_law_373 (by decide) ?_
      refine r_pick [0, 1, 2, 3, 4] K rfl ?_
      refine r_w (ws' := wL a b o c S u.1 u.2 J3) (by unfold wL; rw [if_neg h0]) ?_
      exact NX _ _ S u.1 u.2 J3 (by show k + 1 + 0 + 0 ≤ k + 10; omega) (by show n + 6 + 0 + 0 ≤ n + 60; omega) (hI.mono (by omega))
    ·
      have h02 := h0
      obtain ⟨hb1, hb2, hb3⟩ := thr_eq0 h0
      refine r_aload_n K dL_law_361 rfl ?_
      refine r_iconst K (nI 0) dL_law_362 (by decide) ?_
      refine r_lald0 K (f := u.2) 42 3 rfl rfl (by decide) dL_law_363 ?_
      refine r_iload K dL_law_364 rfl ?_
      refine r_i2lR K dL_law_366 ?_
      refine r_lcmpR K dL_law_367 ?_
      refine r_top (show lg_cmp (u.2 0) r2.toInt64 = nI 0 from by rw [hv h0, hv2 h02]; exact lcmp_0 _) ?_
      refine r_if_eq K 373 dL_law_368 (by decide) (by decide) (fun _ => ?_) (fun h => absurd rfl h)
      refine r_goto K 1592 dL_law_373 (by decide) ?_
      refine r_pick [0, 1, 2, 3, 4] K rfl ?_
      refine r_w (ws' := wL a b o c (up S 12 (tn x) false.toNat) u.1 u.2 J3) (by unfold wL; rw [if_pos h0]) ?_
      exact NX _ _ (up S 12 (tn x) false.toNat) u.1 u.2 J3 (by show k + 1 + 0 + 0 ≤ k + 10; omega) (by show n + 6 + 0 + 0 ≤ n + 60; omega) ((inv_ban hI (by decide)).mono (by omega))
  ·
    refine r_aload_n K dL_law_292 rfl ?_
    refine r_aload_n K dL_law_293 rfl ?_
    refine r_iload K dL_law_294 rfl ?_
    refine r_iconst K (nI 1) dL_law_296 (by decide) ?_
    refine r_iadd K dL_law_297 ?_
    refine r_sld KS (by omega) hL dL_law_298 ?_
    refine r_top hx_.symm ?_
    refine r_aload_n K dL_law_299 rfl ?_
    refine r_iload K dL_law_300 rfl ?_
    refine r_iconst K (nI 2) dL_law_302 (by decide) ?_
    refine r_iadd K dL_law_303 ?_
    refine r_sld KS (by omega) hL dL_law_304 ?_
    refine r_top hzw_.symm ?_
    refine r_if_eqR K 312 dL_law_305 (by decide) (fun h => absurd h hz) (fun _ => ?_)
    refine r_iconst K (nI 1) dL_law_308 (by decide) ?_
    refine r_goto K 313 dL_law_309 (by decide) ?_
    refine r_aload_n K dL_law_313 rfl ?_
    refine r_callW (rest := []) (z := wM b c S J2) KE (c_L_ban l D a c S J o f hl0 hV x true) 4 gL_law_L_ban rfl (by decide +kernel) rfl ⟨⟨Nat.le_of_ble_eq_true rfl, Nat.le_of_ble_eq_true rfl⟩, (by show k + 1 ≤ 602188; omega), (by show n + 6 ≤ 7289539; omega)⟩ rfl (Nat.le_of_ble_eq_true rfl) dL_law_314 ?_
    rintro _ u ⟨rfl, hv⟩
    refine r_istore (lv' := [(0, .ref sb), (1, .ref (a 0)), (2, .ref (b 0)), (3, .ref o), (4, .int (nI i)), (5, .int (nI (thr (inB x 0 15) (true) (true))))]) K dL_law_317 (by decide) rfl ?_
    refine r_aload_n K dL_law_319 rfl ?_
    refine r_aload_n K dL_law_320 rfl ?_
    refine r_iload K dL_law_321 rfl ?_
    refine r_iconst K (nI 1) dL_law_323 (by decide) ?_
    refine r_iadd K dL_law_324 ?_
    refine r_sld KS (by omega) hL dL_law_325 ?_
    refine r_top hx_.symm ?_
    refine r_aload_n K dL_law_326 rfl ?_
    refine r_iload K dL_law_327 rfl ?_
    refine r_iconst K (nI 2) dL_law_329 (by decide) ?_
    refine r_iadd K dL_law_330 ?_
    refine r_sld KS (by omega) hL dL_law_331 ?_
    refine r_top hzw_.symm ?_
    refine r_if_eqR K 339 dL_law_332 (by decide) (fun h => absurd h hz) (fun _ => ?_)
    refine r_iconst K (nI 1) dL_law_335 (by decide) ?_
    refine r_goto K 340 dL_law_336 (by decide) ?_
    refine r_callVr (rest := []) (z := (wC a c (if thr (inB x 0 15) (true) (true) = 0 then (up S 12 (tn x) true.toNat) else S) u.1 ++ lo o c u.2)) K (c_X7_ban l D b c S J2 hV x true) 2 gL_law_X7_ban rfl (by decide +kernel) rfl ⟨⟨Nat.le_of_ble_eq_true rfl, Nat.le_of_ble_eq_true rfl⟩, (by show k + 1 + 0 ≤ 602188; omega), (by show n + 6 + 0 ≤ 7289539; omega)⟩ 0 (wM_g0 _ _ _ _) rfl rfl (Nat.le_of_ble_eq_true rfl) dL_law_340 ?_
    rintro r2 J3 ⟨hJ, hv2⟩
    refine r_istore (lv' := [(0, .ref sb), (1, .ref (a 0)), (2, .ref (b 0)), (3, .ref o), (4, .int (nI i)), (5, .int (nI (thr (inB x 0 15) (true) (true)))), (6, .int r2)]) K dL_law_343 (by decide) rfl ?_
    refine r_aload_n K dL_law_345 rfl ?_
    refine r_callVr (rest := []) (z := (wC a c (if thr (inB x 0 15) (true) (true) = 0 then (up S 12 (tn x) true.toNat) else S) u.1 ++ lo o c u.2)) (w := wM b c (if thr (inB x 0 15) (true) (true) = 0 then up S 12 (tn x) true.toNat else S) J3) K (c_X7_thrown l D b c (if thr (inB x 0 15) (true) (true) = 0 then up S 12 (tn x) true.toNat else S) J3) 0 gL_law_X7_thrown rfl (by decide +kernel) rfl ⟨⟨Nat.le_of_ble_eq_true rfl, Nat.le_of_ble_eq_true rfl⟩, (by show k + 1 + 0 + 0 ≤ 602188; omega), (by show n + 6 + 0 + 0 ≤ 7289539; omega)⟩ 0 (wM_g0 _ _ _ _) rfl rfl (Nat.le_of_ble_eq_true rfl) dL_law_346 ?_
    rintro _ _ rfl
    refine r_top (congrArg nI (hJ)) ?_
    refine r_iload K dL_law_349 rfl ?_
    refine r_ic_eq K 356 dL_law_351 (by decide) (Nat.lt_of_le_of_lt (thr_le3 _ _ _) (by decide)) (Nat.lt_of_le_of_lt (thr_le3 _ _ _) (by decide)) (fun _ => ?_) (fun h => absurd rfl h)
    refine r_iload K dL_law_356 rfl ?_
    refine r_if_ne K 373 dL_law_358 (by decide) (Nat.lt_of_le_of_lt (thr_le3 _ _ _) (by decide)) (fun h0 => ?_) (fun h0 => ?_)
    ·
      refine r_goto K 1592 dL_law_373 (by decide) ?_
      refine r_pick [0, 1, 2, 3, 4] K rfl ?_
      refine r_w (ws' := wL a b o c S u.1 u.2 J3) (by unfold wL; rw [if_neg h0]) ?_
      exact NX _ _ S u.1 u.2 J3 (by show k + 1 + 0 + 0 ≤ k + 10; omega) (by show n + 6 + 0 + 0 ≤ n + 60; omega) (hI.mono (by omega))
    ·
      have h02 := h0
      obtain ⟨hb1, hb2, hb3⟩ := thr_eq0 h0
      refine r_aload_n K dL_law_361 rfl ?_
      refine r_iconst K (nI 0) dL_law_362 (by decide) ?_
      refine r_lald0 K (f := u.2) 42 3 rfl rfl (by decide) dL_law_363 ?_
      refine r_iload K dL_law_364 rfl ?_
      refine r_i2lR K dL_law_366 ?_
      refine r_lcmpR K dL_law_367 ?_
      refine r_top (show lg_cmp (u.2 0) r2.toInt64 = nI 0 from by rw [hv h0, hv2 h02]; exact lcmp_0 _) ?_
      refine r_if_eq K 373 dL_law_368 (by decide) (by decide) (fun _ => ?_) (fun h => absurd rfl h)
      refine r_goto K 1592 dL_law_373 (by decide) ?_
      refine r_pick [0, 1, 2, 3, 4] K rfl ?_
      refine r_w (ws' := wL a b o c (up S 12 (tn x) true.toNat) u.1 u.2 J3) (by unfold wL; rw [if_pos h0]) ?_
      exact NX _ _ (up S 12 (tn x) true.toNat) u.1 u.2 J3 (by show k + 1 + 0 + 0 ≤ k + 10; omega) (by show n + 6 + 0 + 0 ≤ n + 60; omega) ((inv_ban hI (by decide)).mono (by omega))

set_option maxHeartbeats 4000000 in
set_option maxRecDepth 100000 in
theorem case_print (l : Launch) (D : va_G) (a b : Nat → Nat) (c : Nat → ClassId) (o : Nat) (hl0 : l.stackTraces = false) {G : Gt} {sb L : Nat} {xs : Nat → Int32} (KE : OkE l room_1 G cL_law 7 wsL_law RL D (tyW c)) (KS : OkS l room_1 G cL_law 7 wsL_law RL D (tyW c) sb L xs) {m k n i : Nat} (S J : St) (f : Nat → Int64) (J2 : St) (hI : Inv m S) (hm : m ≤ 600) (hi : i + 5 ≤ L) (hL : L ≤ 2560) (hk : k + 10 ≤ 602188) (hn : n + 60 ≤ 7289539) (NX : Next G sb a b o c (m + 1) k n i) : G k n (wL a b o c S J f J2) (lvL sb (a 0) (b 0) o i) 376 [] := by
  have K := KE.ok
  have hV := hI.V hm
  have hO := hI.2.2.1
  unfold wL lvL
  obtain ⟨x, hx_⟩ : ∃ x : Int32, x = xs (i + 1) := ⟨_, rfl⟩
  obtain ⟨y, hy_⟩ : ∃ x : Int32, x = xs (i + 2) := ⟨_, rfl⟩
  refine r_aload_n K dL_law_376 rfl ?_
  refine r_aload_n K dL_law_377 rfl ?_
  refine r_iload K dL_law_378 rfl ?_
  refine r_iconst K (nI 1) dL_law_380 (by decide) ?_
  refine r_iadd K dL_law_381 ?_
  refine r_sld KS (by omega) hL dL_law_382 ?_
  refine r_top hx_.symm ?_
  refine r_aload_n K dL_law_383 rfl ?_
  refine r_iload K dL_law_384 rfl ?_
  refine r_iconst K (nI 2) dL_law_386 (by decide) ?_
  refine r_iadd K dL_law_387 ?_
  refine r_sld KS (by omega) hL dL_law_388 ?_
  refine r_top hy_.symm ?_
  refine r_aload_n K dL_law_389 rfl ?_
  refine r_callW (rest := []) (z := wM b c S J2) KE (c_L_print l D a c S J o f hl0 hV (hI.small hm 13) x y) 4 gL_law_L_print rfl (by decide +kernel) rfl ⟨⟨Nat.le_of_ble_eq_true rfl, Nat.le_of_ble_eq_true rfl⟩, (by show k + 3 ≤ 602188; omega), (by show n + 18 ≤ 7289539; omega)⟩ rfl (Nat.le_of_ble_eq_true rfl) dL_law_390 ?_
  rintro _ u ⟨rfl, hv⟩
  refine r_istore (lv' := [(0, .ref sb), (1, .ref (a 0)), (2, .ref (b 0)), (3, .ref o), (4, .int (nI i)), (5, .int (nI (thr (inB x 0 15 && inB y 0 5) (decide (S 2 0 < 80)) (true))))]) K dL_law_393 (by decide) rfl ?_
  refine r_aload_n K dL_law_395 rfl ?_
  refine r_aload_n K dL_law_396 rfl ?_
  refine r_iload K dL_law_397 rfl ?_
  refine r_iconst K (nI 1) dL_law_399 (by decide) ?_
  refine r_iadd K dL_law_400 ?_
  refine r_sld KS (by omega) hL dL_law_401 ?_
  refine r_top hx_.symm ?_
  refine r_aload_n K dL_law_402 rfl ?_
  refine r_iload K dL_law_403 rfl ?_
  refine r_iconst K (nI 2) dL_law_405 (by decide) ?_
  refine r_iadd K dL_law_406 ?_
  refine r_sld KS (by omega) hL dL_law_407 ?_
  refine r_top hy_.symm ?_
  refine r_callVr (rest := []) (z := (wC a c (if thr (inB x 0 15 && inB y 0 5) (decide (S 2 0 < 80)) (true) = 0 then (up (up (up (up (up S 13 (tn x) (S 13 (tn x) + 1)) 15 (S 2 0) (tn x)) 16 (S 2 0) (S 13 (tn x) + 1)) 17 (S 2 0) (tn y)) 2 0 (S 2 0 + 1)) else S) u.1 ++ lo o c u.2)) K (c_X7_print l D b c S J2 hV x y) 2 gL_law_X7_print rfl (by decide +kernel) rfl ⟨⟨Nat.le_of_ble_eq_true rfl, Nat.le_of_ble_eq_true rfl⟩, (by show k + 3 + 0 ≤ 602188; omega), (by show n + 18 + 0 ≤ 7289539; omega)⟩ 0 (wM_g0 _ _ _ _) rfl rfl (Nat.le_of_ble_eq_true rfl) dL_law_408 ?_
  rintro r2 J3 ⟨hJ, hv2⟩
  refine r_istore (lv' := [(0, .ref sb), (1, .ref (a 0)), (2, .ref (b 0)), (3, .ref o), (4, .int (nI i)), (5, .int (nI (thr (inB x 0 15 && inB y 0 5) (decide (S 2 0 < 80)) (true)))), (6, .int r2)]) K dL_law_411 (by decide) rfl ?_
  refine r_aload_n K dL_law_413 rfl ?_
  refine r_callVr (rest := []) (z := (wC a c (if thr (inB x 0 15 && inB y 0 5) (decide (S 2 0 < 80)) (true) = 0 then (up (up (up (up (up S 13 (tn x) (S 13 (tn x) + 1)) 15 (S 2 0) (tn x)) 16 (S 2 0) (S 13 (tn x) + 1)) 17 (S 2 0) (tn y)) 2 0 (S 2 0 + 1)) else S) u.1 ++ lo o c u.2)) (w := wM b c (if thr (inB x 0 15 && inB y 0 5) (decide (S 2 0 < 80)) (true) = 0 then (up (up (up (up (up S 13 (tn x) (S 13 (tn x) + 1)) 15 (S 2 0) (tn x)) 16 (S 2 0) (S 13 (tn x) + 1)) 17 (S 2 0) (tn y)) 2 0 (S 2 0 + 1)) else S) J3) K (c_X7_thrown l D b c (if thr (inB x 0 15 && inB y 0 5) (decide (S 2 0 < 80)) (true) = 0 then (up (up (up (up (up S 13 (tn x) (S 13 (tn x) + 1)) 15 (S 2 0) (tn x)) 16 (S 2 0) (S 13 (tn x) + 1)) 17 (S 2 0) (tn y)) 2 0 (S 2 0 + 1)) else S) J3) 0 gL_law_X7_thrown rfl (by decide +kernel) rfl ⟨⟨Nat.le_of_ble_eq_true rfl, Nat.le_of_ble_eq_true rfl⟩, (by show k + 3 + 0 + 0 ≤ 602188; omega), (by show n + 18 + 0 + 0 ≤ 7289539; omega)⟩ 0 (wM_g0 _ _ _ _) rfl rfl (Nat.le_of_ble_eq_true rfl) dL_law_414 ?_
  rintro _ _ rfl
  refine r_top (congrArg nI (hJ)) ?_
  refine r_iload K dL_law_417 rfl ?_
  refine r_ic_eq K 424 dL_law_419 (by decide) (Nat.lt_of_le_of_lt (thr_le3 _ _ _) (by decide)) (Nat.lt_of_le_of_lt (thr_le3 _ _ _) (by decide)) (fun _ => ?_) (fun h => absurd rfl h)
  refine r_iload K dL_law_424 rfl ?_
  refine r_if_ne K 441 dL_law_426 (by decide) (Nat.lt_of_le_of_lt (thr_le3 _ _ _) (by decide)) (fun h0 => ?_) (fun h0 => ?_)
  ·
    refine r_goto K 1592 dL_law_441 (by decide) ?_
    refine r_pick [0, 1, 2, 3, 4] K rfl ?_
    refine r_w (ws' := wL a b o c S u.1 u.2 J3) (by unfold wL; rw [if_neg h0]) ?_
    exact NX _ _ S u.1 u.2 J3 (by show k + 3 + 0 + 0 ≤ k + 10; omega) (by show n + 18 + 0 + 0 ≤ n + 60; omega) (hI.mono (by omega))
  ·
    have h02 := h0
    obtain ⟨hb1, hb2, hb3⟩ := thr_eq0 h0
    refine r_aload_n K dL_law_429 rfl ?_
    refine r_iconst K (nI 0) dL_law_430 (by decide) ?_
    refine r_lald0 K (f := u.2) 42 3 rfl rfl (by decide) dL_law_431 ?_
    refine r_iload K dL_law_432 rfl ?_
    refine r_i2lR K dL_law_434 ?_
    refine r_lcmpR K dL_law_435 ?_
    refine r_top (show lg_cmp (u.2 0) r2.toInt64 = nI 0 from by rw [hv h0, hv2 h02]; exact lcmp_0 _) ?_
    refine r_if_eq K 441 dL_law_436 (by decide) (by decide) (fun _ => ?_) (fun h => absurd rfl h)
    refine r_goto K 1592 dL_law_441 (by decide) ?_
    refine r_pick [0, 1, 2, 3, 4] K rfl ?_
    refine r_w (ws' := wL a b o c (up (up (up (up (up S 13 (tn x) (S 13 (tn x) + 1)) 15 (S 2 0) (tn x)) 16 (S 2 0) (S 13 (tn x) + 1)) 17 (S 2 0) (tn y)) 2 0 (S 2 0 + 1)) u.1 u.2 J3) (by unfold wL; rw [if_pos h0]) ?_
    exact NX _ _ (up (up (up (up (up S 13 (tn x) (S 13 (tn x) + 1)) 15 (S 2 0) (tn x)) 16 (S 2 0) (S 13 (tn x) + 1)) 17 (S 2 0) (tn y)) 2 0 (S 2 0 + 1)) u.1 u.2 J3 (by show k + 3 + 0 + 0 ≤ k + 10; omega) (by show n + 18 + 0 + 0 ≤ n + 60; omega) (inv_print hI (by have := inB_tn (by decide) (Bool.and_eq_true_iff.mp hb1).1; omega) (by have := inB_tn (by decide) (Bool.and_eq_true_iff.mp hb1).2; omega) (of_decide_eq_true hb2))

set_option maxHeartbeats 4000000 in
set_option maxRecDepth 100000 in
theorem case_deck (l : Launch) (D : va_G) (a b : Nat → Nat) (c : Nat → ClassId) (o : Nat) (hl0 : l.stackTraces = false) {G : Gt} {sb L : Nat} {xs : Nat → Int32} (KE : OkE l room_1 G cL_law 7 wsL_law RL D (tyW c)) (KS : OkS l room_1 G cL_law 7 wsL_law RL D (tyW c) sb L xs) {m k n i : Nat} (S J : St) (f : Nat → Int64) (J2 : St) (hI : Inv m S) (hm : m ≤ 600) (hi : i + 5 ≤ L) (hL : L ≤ 2560) (hk : k + 10 ≤ 602188) (hn : n + 60 ≤ 7289539) (NX : Next G sb a b o c (m + 1) k n i) : G k n (wL a b o c S J f J2) (lvL sb (a 0) (b 0) o i) 444 [] := by
  have K := KE.ok
  have hV := hI.V hm
  have hO := hI.2.2.1
  unfold wL lvL
  obtain ⟨x, hx_⟩ : ∃ x : Int32, x = xs (i + 1) := ⟨_, rfl⟩
  refine r_aload_n K dL_law_444 rfl ?_
  refine r_aload_n K dL_law_445 rfl ?_
  refine r_iload K dL_law_446 rfl ?_
  refine r_iconst K (nI 1) dL_law_448 (by decide) ?_
  refine r_iadd K dL_law_449 ?_
  refine r_sld KS (by omega) hL dL_law_450 ?_
  refine r_top hx_.symm ?_
  refine r_aload_n K dL_law_451 rfl ?_
  refine r_callW (rest := []) (z := wM b c S J2) KE (c_L_deck l D a c S J o f hl0 hV x) 3 gL_law_L_deck rfl (by decide +kernel) rfl ⟨⟨Nat.le_of_ble_eq_true rfl, Nat.le_of_ble_eq_true rfl⟩, (by show k + 2 ≤ 602188; omega), (by show n + 12 ≤ 7289539; omega)⟩ rfl (Nat.le_of_ble_eq_true rfl) dL_law_452 ?_
  rintro _ u ⟨rfl, hv⟩
  refine r_istore (lv' := [(0, .ref sb), (1, .ref (a 0)), (2, .ref (b 0)), (3, .ref o), (4, .int (nI i)), (5, .int (nI (thr (inB x 0 5) (decide (S 3 0 < 12)) (true))))]) K dL_law_455 (by decide) rfl ?_
  refine r_aload_n K dL_law_457 rfl ?_
  refine r_aload_n K dL_law_458 rfl ?_
  refine r_iload K dL_law_459 rfl ?_
  refine r_iconst K (nI 1) dL_law_461 (by decide) ?_
  refine r_iadd K dL_law_462 ?_
  refine r_sld KS (by omega) hL dL_law_463 ?_
  refine r_top hx_.symm ?_
  refine r_callVr (rest := []) (z := (wC a c (if thr (inB x 0 5) (decide (S 3 0 < 12)) (true) = 0 then (up (up S 18 (S 3 0) (tn x)) 3 0 (S 3 0 + 1)) else S) u.1 ++ lo o c u.2)) K (c_X7_deck l D b c S J2 hV x) 1 gL_law_X7_deck rfl (by decide +kernel) rfl ⟨⟨Nat.le_of_ble_eq_true rfl, Nat.le_of_ble_eq_true rfl⟩, (by show k + 2 + 0 ≤ 602188; omega), (by show n + 12 + 0 ≤ 7289539; omega)⟩ 0 (wM_g0 _ _ _ _) rfl rfl (Nat.le_of_ble_eq_true rfl) dL_law_464 ?_
  rintro r2 J3 ⟨hJ, hv2⟩
  refine r_istore (lv' := [(0, .ref sb), (1, .ref (a 0)), (2, .ref (b 0)), (3, .ref o), (4, .int (nI i)), (5, .int (nI (thr (inB x 0 5) (decide (S 3 0 < 12)) (true)))), (6, .int r2)]) K dL_law_467 (by decide) rfl ?_
  refine r_aload_n K dL_law_469 rfl ?_
  refine r_callVr (rest := []) (z := (wC a c (if thr (inB x 0 5) (decide (S 3 0 < 12)) (true) = 0 then (up (up S 18 (S 3 0) (tn x)) 3 0 (S 3 0 + 1)) else S) u.1 ++ lo o c u.2)) (w := wM b c (if thr (inB x 0 5) (decide (S 3 0 < 12)) (true) = 0 then (up (up S 18 (S 3 0) (tn x)) 3 0 (S 3 0 + 1)) else S) J3) K (c_X7_thrown l D b c (if thr (inB x 0 5) (decide (S 3 0 < 12)) (true) = 0 then (up (up S 18 (S 3 0) (tn x)) 3 0 (S 3 0 + 1)) else S) J3) 0 gL_law_X7_thrown rfl (by decide +kernel) rfl ⟨⟨Nat.le_of_ble_eq_true rfl, Nat.le_of_ble_eq_true rfl⟩, (by show k + 2 + 0 + 0 ≤ 602188; omega), (by show n + 12 + 0 + 0 ≤ 7289539; omega)⟩ 0 (wM_g0 _ _ _ _) rfl rfl (Nat.le_of_ble_eq_true rfl) dL_law_470 ?_
  rintro _ _ rfl
  refine r_top (congrArg nI (hJ)) ?_
  refine r_iload K dL_law_473 rfl ?_
  refine r_ic_eq K 480 dL_law_475 (by decide) (Nat.lt_of_le_of_lt (thr_le3 _ _ _) (by decide)) (Nat.lt_of_le_of_lt (thr_le3 _ _ _) (by decide)) (fun _ => ?_) (fun h => absurd rfl h)
  refine r_iload K dL_law_480 rfl ?_
  refine r_if_ne K 497 dL_law_482 (by decide) (Nat.lt_of_le_of_lt (thr_le3 _ _ _) (by decide)) (fun h0 => ?_) (fun h0 => ?_)
  ·
    refine r_goto K 1592 dL_law_497 (by decide) ?_
    refine r_pick [0, 1, 2, 3, 4] K rfl ?_
    refine r_w (ws' := wL a b o c S u.1 u.2 J3) (by unfold wL; rw [if_neg h0]) ?_
    exact NX _ _ S u.1 u.2 J3 (by show k + 2 + 0 + 0 ≤ k + 10; omega) (by show n + 12 + 0 + 0 ≤ n + 60; omega) (hI.mono (by omega))
  ·
    have h02 := h0
    obtain ⟨hb1, hb2, hb3⟩ := thr_eq0 h0
    refine r_aload_n K dL_law_485 rfl ?_
    refine r_iconst K (nI 0) dL_law_486 (by decide) ?_
    refine r_lald0 K (f := u.2) 42 3 rfl rfl (by decide) dL_law_487 ?_
    refine r_iload K dL_law_488 rfl ?_
    refine r_i2lR K dL_law_490 ?_
    refine r_lcmpR K dL_law_491 ?_
    refine r_top (show lg_cmp (u.2 0) r2.toInt64 = nI 0 from by rw [hv h0, hv2 h02]; exact lcmp_0 _) ?_
    refine r_if_eq K 497 dL_law_492 (by decide) (by decide) (fun _ => ?_) (fun h => absurd rfl h)
    refine r_goto K 1592 dL_law_497 (by decide) ?_
    refine r_pick [0, 1, 2, 3, 4] K rfl ?_
    refine r_w (ws' := wL a b o c (up (up S 18 (S 3 0) (tn x)) 3 0 (S 3 0 + 1)) u.1 u.2 J3) (by unfold wL; rw [if_pos h0]) ?_
    exact NX _ _ (up (up S 18 (S 3 0) (tn x)) 3 0 (S 3 0 + 1)) u.1 u.2 J3 (by show k + 2 + 0 + 0 ≤ k + 10; omega) (by show n + 12 + 0 + 0 ≤ n + 60; omega) ((inv_deck hI (by have := inB_tn (by decide) hb1; omega) (of_decide_eq_true hb2)).mono (by omega))

set_option maxHeartbeats 4000000 in
set_option maxRecDepth 100000 in
theorem case_add (l : Launch) (D : va_G) (a b : Nat → Nat) (c : Nat → ClassId) (o : Nat) (hl0 : l.stackTraces = false) {G : Gt} {sb L : Nat} {xs : Nat → Int32} (KE : OkE l room_1 G cL_law 7 wsL_law RL D (tyW c)) (KS : OkS l room_1 G cL_law 7 wsL_law RL D (tyW c) sb L xs) {m k n i : Nat} (S J : St) (f : Nat → Int64) (J2 : St) (hI : Inv m S) (hm : m ≤ 600) (hi : i + 5 ≤ L) (hL : L ≤ 2560) (hk : k + 10 ≤ 602188) (hn : n + 60 ≤ 7289539) (NX : Next G sb a b o c (m + 1) k n i) : G k n (wL a b o c S J f J2) (lvL sb (a 0) (b 0) o i) 500 [] := by
  have K := KE.ok
  have hV := hI.V hm
  have hO := hI.2.2.1
  unfold wL lvL
  obtain ⟨x, hx_⟩ : ∃ x : Int32, x = xs (i + 1) := ⟨_, rfl⟩
  obtain ⟨y, hy_⟩ : ∃ x : Int32, x = xs (i + 2) := ⟨_, rfl⟩
  refine r_aload_n K dL_law_500 rfl ?_
  refine r_aload_n K dL_law_501 rfl ?_
  refine r_iload K dL_law_502 rfl ?_
  refine r_iconst K (nI 1) dL_law_504 (by decide) ?_
  refine r_iadd K dL_law_505 ?_
  refine r_sld KS (by omega) hL dL_law_506 ?_
  refine r_top hx_.symm ?_
  refine r_aload_n K dL_law_507 rfl ?_
  refine r_iload K dL_law_508 rfl ?_
  refine r_iconst K (nI 2) dL_law_510 (by decide) ?_
  refine r_iadd K dL_law_511 ?_
  refine r_sld KS (by omega) hL dL_law_512 ?_
  refine r_top hy_.symm ?_
  refine r_aload_n K dL_law_513 rfl ?_
  refine r_callW (rest := []) (z := wM b c S J2) KE (c_L_add l D a c S J o f hl0 hV x y) 4 gL_law_L_add rfl (by decide +kernel) rfl ⟨⟨Nat.le_of_ble_eq_true rfl, Nat.le_of_ble_eq_true rfl⟩, (by show k + 3 ≤ 602188; omega), (by show n + 18 ≤ 7289539; omega)⟩ rfl (Nat.le_of_ble_eq_true rfl) dL_law_514 ?_
  rintro _ u ⟨rfl, hv⟩
  refine r_istore (lv' := [(0, .ref sb), (1, .ref (a 0)), (2, .ref (b 0)), (3, .ref o), (4, .int (nI i)), (5, .int (nI (thr (inB x 0 ((S 3 0 : Nat) - 1) && inB y 0 ((S 2 0 : Nat) - 1)) (decide (S 17 (tn y) = S 18 (tn x)) && !holdB S (tn x) (tn y)) (decide (S 19 (tn x) < 10)))))]) K dL_law_517 (by decide) rfl ?_
  refine r_aload_n K dL_law_519 rfl ?_
  refine r_aload_n K dL_law_520 rfl ?_
  refine r_iload K dL_law_521 rfl ?_
  refine r_iconst K (nI 1) dL_law_523 (by decide) ?_
  refine r_iadd K dL_law_524 ?_
  refine r_sld KS (by omega) hL dL_law_525 ?_
  refine r_top hx_.symm ?_
  refine r_aload_n K dL_law_526 rfl ?_
  refine r_iload K dL_law_527 rfl ?_
  refine r_iconst K (nI 2) dL_law_529 (by decide) ?_
  refine r_iadd K dL_law_530 ?_
  refine r_sld KS (by omega) hL dL_law_531 ?_
  refine r_top hy_.symm ?_
  refine r_callVr (rest := []) (z := (wC a c (if thr (inB x 0 ((S 3 0 : Nat) - 1) && inB y 0 ((S 2 0 : Nat) - 1)) (decide (S 17 (tn y) = S 18 (tn x)) && !holdB S (tn x) (tn y)) (decide (S 19 (tn x) < 10)) = 0 then (up (up S (30 + tn x) (S 19 (tn x)) (tn y)) 19 (tn x) (S 19 (tn x) + 1)) else S) u.1 ++ lo o c u.2)) K (c_X7_add l D b c S J2 hV x y) 2 gL_law_X7_add rfl (by decide +kernel) rfl ⟨⟨Nat.le_of_ble_eq_true rfl, Nat.le_of_ble_eq_true rfl⟩, (by show k + 3 + 0 ≤ 602188; omega), (by show n + 18 + 0 ≤ 7289539; omega)⟩ 0 (wM_g0 _ _ _ _) rfl rfl (Nat.le_of_ble_eq_true rfl) dL_law_532 ?_
  rintro r2 J3 ⟨hJ, hv2⟩
  refine r_istore (lv' := [(0, .ref sb), (1, .ref (a 0)), (2, .ref (b 0)), (3, .ref o), (4, .int (nI i)), (5, .int (nI (thr (inB x 0 ((S 3 0 : Nat) - 1) && inB y 0 ((S 2 0 : Nat) - 1)) (decide (S 17 (tn y) = S 18 (tn x)) && !holdB S (tn x) (tn y)) (decide (S 19 (tn x) < 10))))), (6, .int r2)]) K dL_law_535 (by decide) rfl ?_
  refine r_aload_n K dL_law_537 rfl ?_
  refine r_callVr (rest := []) (z := (wC a c (if thr (inB x 0 ((S 3 0 : Nat) - 1) && inB y 0 ((S 2 0 : Nat) - 1)) (decide (S 17 (tn y) = S 18 (tn x)) && !holdB S (tn x) (tn y)) (decide (S 19 (tn x) < 10)) = 0 then (up (up S (30 + tn x) (S 19 (tn x)) (tn y)) 19 (tn x) (S 19 (tn x) + 1)) else S) u.1 ++ lo o c u.2)) (w := wM b c (if thr (inB x 0 ((S 3 0 : Nat) - 1) && inB y 0 ((S 2 0 : Nat) - 1)) ((inB x 0 ((S 3 0 : Nat) - 1) && inB y 0 ((S 2 0 : Nat) - 1)) && (decide (S 17 (tn y) = S 18 (tn x)) && !holdB S (tn x) (tn y))) ((inB x 0 ((S 3 0 : Nat) - 1) && inB y 0 ((S 2 0 : Nat) - 1)) && decide (S 19 (tn x) < 10)) = 0 then (up (up S (30 + tn x) (S 19 (tn x)) (tn y)) 19 (tn x) (S 19 (tn x) + 1)) else S) J3) K (c_X7_thrown l D b c (if thr (inB x 0 ((S 3 0 : Nat) - 1) && inB y 0 ((S 2 0 : Nat) - 1)) ((inB x 0 ((S 3 0 : Nat) - 1) && inB y 0 ((S 2 0 : Nat) - 1)) && (decide (S 17 (tn y) = S 18 (tn x)) && !holdB S (tn x) (tn y))) ((inB x 0 ((S 3 0 : Nat) - 1) && inB y 0 ((S 2 0 : Nat) - 1)) && decide (S 19 (tn x) < 10)) = 0 then (up (up S (30 + tn x) (S 19 (tn x)) (tn y)) 19 (tn x) (S 19 (tn x) + 1)) else S) J3) 0 gL_law_X7_thrown rfl (by decide +kernel) rfl ⟨⟨Nat.le_of_ble_eq_true rfl, Nat.le_of_ble_eq_true rfl⟩, (by show k + 3 + 0 + 0 ≤ 602188; omega), (by show n + 18 + 0 + 0 ≤ 7289539; omega)⟩ 0 (wM_g0 _ _ _ _) rfl rfl (Nat.le_of_ble_eq_true rfl) dL_law_538 ?_
  rintro _ _ rfl
  have hth : thr (inB x 0 ((S 3 0 : Nat) - 1) && inB y 0 ((S 2 0 : Nat) - 1)) ((inB x 0 ((S 3 0 : Nat) - 1) && inB y 0 ((S 2 0 : Nat) - 1)) && (decide (S 17 (tn y) = S 18 (tn x)) && !holdB S (tn x) (tn y))) ((inB x 0 ((S 3 0 : Nat) - 1) && inB y 0 ((S 2 0 : Nat) - 1)) && decide (S 19 (tn x) < 10)) = thr (inB x 0 ((S 3 0 : Nat) - 1) && inB y 0 ((S 2 0 : Nat) - 1)) (decide (S 17 (tn y) = S 18 (tn x)) && !holdB S (tn x) (tn y)) (decide (S 19 (tn x) < 10)) := thr_m1 _ _ _
  refine r_top (congrArg nI (hJ.trans hth)) ?_
  refine r_iload K dL_law_541 rfl ?_
  refine r_ic_eq K 548 dL_law_543 (by decide) (Nat.lt_of_le_of_lt (thr_le3 _ _ _) (by decide)) (Nat.lt_of_le_of_lt (thr_le3 _ _ _) (by decide)) (fun _ => ?_) (fun h => absurd rfl h)
  refine r_iload K dL_law_548 rfl ?_
  refine r_if_ne K 565 dL_law_550 (by decide) (Nat.lt_of_le_of_lt (thr_le3 _ _ _) (by decide)) (fun h0 => ?_) (fun h0 => ?_)
  ·
    refine r_goto K 1592 dL_law_565 (by decide) ?_
    refine r_pick [0, 1, 2, 3, 4] K rfl ?_
    refine r_w (ws' := wL a b o c S u.1 u.2 J3) (by unfold wL; rw [if_neg h0, if_neg (fun q => h0 (hth.symm.trans q))]) ?_
    exact NX _ _ S u.1 u.2 J3 (by show k + 3 + 0 + 0 ≤ k + 10; omega) (by show n + 18 + 0 + 0 ≤ n + 60; omega) (hI.mono (by omega))
  ·
    have h02 := hth.trans h0
    obtain ⟨hb1, hb2, hb3⟩ := thr_eq0 h0
    refine r_aload_n K dL_law_553 rfl ?_
    refine r_iconst K (nI 0) dL_law_554 (by decide) ?_
    refine r_lald0 K (f := u.2) 42 3 rfl rfl (by decide) dL_law_555 ?_
    refine r_iload K dL_law_556 rfl ?_
    refine r_i2lR K dL_law_558 ?_
    refine r_lcmpR K dL_law_559 ?_
    refine r_top (show lg_cmp (u.2 0) r2.toInt64 = nI 0 from by rw [hv h0, hv2 h02]; exact lcmp_0 _) ?_
    refine r_if_eq K 565 dL_law_560 (by decide) (by decide) (fun _ => ?_) (fun h => absurd rfl h)
    refine r_goto K 1592 dL_law_565 (by decide) ?_
    refine r_pick [0, 1, 2, 3, 4] K rfl ?_
    refine r_w (ws' := wL a b o c (up (up S (30 + tn x) (S 19 (tn x)) (tn y)) 19 (tn x) (S 19 (tn x) + 1)) u.1 u.2 J3) (by unfold wL; rw [if_pos h0, if_pos h02]) ?_
    exact NX _ _ (up (up S (30 + tn x) (S 19 (tn x)) (tn y)) 19 (tn x) (S 19 (tn x) + 1)) u.1 u.2 J3 (by show k + 3 + 0 + 0 ≤ k + 10; omega) (by show n + 18 + 0 + 0 ≤ n + 60; omega) ((inv_add hI (d := tn x) (of_decide_eq_true hb3) (by have := inB_tn (by decide) (Bool.and_eq_true_iff.mp hb1).2; omega)).mono (by omega))
