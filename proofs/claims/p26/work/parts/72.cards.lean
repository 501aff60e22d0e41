def rmL_cards : Room := { frames := 9, cells := 1000, slots := 6000, locals := 155 }
set_option maxHeartbeats 4000000 in
set_option maxRecDepth 100000 in
theorem c_L_cards (l : Launch) (D : va_G) (a b e : Nat → Nat) (c : Nat → ClassId) (hl0 : l.stackTraces = false) (S J K2 U : St) {m : Nat} (hI : Inv m S) (hm : m ≤ 600) (hR : Rel S U) : Li l yL_cards wsL_cards rmL_cards D (tyW c) [.ref (a 0), .ref (e 0), .ref (e 3)] (wW a b e c S J S K2 U []) (fun r (_ : St) => r = nI 1) (fun u => wW a b e c S u S K2 U []) := by
  refine Li.ofEZ (lv0 := [(0, .ref (a 0)), (1, .ref (e 0)), (2, .ref (e 3))]) (by decide +kernel) rfl (Nat.le_of_ble_eq_true rfl) rfl (fun G KE hret => ?_)
  have K := KE.ok
  have hV := hI.V hm
  have h25 := hI.2.2.1.lt2
  have hg0 := rel_g0 hR
  have h60 := rel_60 hR
  refine r_bipush K (nI 16) dL_cards_0 (by decide) ?_
  refine r_newZ K (List.mem_of_getElem? (i := 1) rfl) (by decide) ⟨(by show 0 + 1 ≤ 1000; omega), (by show 0 + 16 ≤ 6000; omega)⟩ dL_cards_2 (fun q1 => ?_)
  refine r_w (ws' := wW a b e c S J S K2 U [(q1, .inl (c 0, 16, .inl (ar (fun _ => 0))))]) rfl ?_
  refine r_astore_n (lv' := [(0, .ref (a 0)), (1, .ref (e 0)), (2, .ref (e 3)), (3, .ref q1)]) K dL_cards_4 (by decide) rfl ?_
  refine r_iconst K (nI 0) dL_cards_5 (by decide) ?_
  refine r_istore (lv' := [(0, .ref (a 0)), (1, .ref (e 0)), (2, .ref (e 3)), (3, .ref q1), (4, .int (nI 0))]) K dL_cards_6 (by decide) rfl ?_
  have LA2 : ∀ (z3 : Nat) (i : Nat) (k : Nat) (n : Nat) (J1 : St) (f : Nat → Nat), S 2 0 - i < z3 → (i ≤ S 2 0) → (∀ d, f d = cnt (kdB S d) i) → (k ≤ 1 + 6 * i) → (n ≤ 16 + 36 * i) → G k n (wW a b e c S J1 S K2 U [(q1, .inl (c 0, 16, .inl (ar f)))]) [(0, .ref (a 0)), (1, .ref (e 0)), (2, .ref (e 3)), (3, .ref q1), (4, .int (nI i))] 8 [] := by
    intro z3
    induction z3 with
    | zero => intro i k n J1 f hz hi hf hk hn; exact absurd hz (by omega)
    | succ z3 ih4 =>
      intro i k n J1 f hz hi hf hk hn
      refine r_iload K dL_cards_8 rfl ?_
      refine r_aload_n K dL_cards_10 rfl ?_
      refine r_iconst K (nI 0) dL_cards_11 (by decide) ?_
      refine r_ldZ K 3 (zX_g3 _ _ _ _) (by omega) (by decide) dL_cards_12 ?_
      refine r_top (congrArg nI (show _ = S 2 0 from hg0)) ?_
      refine r_ic_ge K 92 dL_cards_13 (by decide) (by omega) (by omega) (fun h5 => ?_) (fun h5 => ?_)
      ·
        refine r_iconst K (nI 0) dL_cards_92 (by decide) ?_
        refine r_istore (lv' := [(0, .ref (a 0)), (1, .ref (e 0)), (2, .ref (e 3)), (3, .ref q1), (4, .int (nI 0))]) K dL_cards_93 (by decide) rfl ?_
        have ei : i = S 2 0 := by omega
        have hfS : ∀ d, f d = cnt (kdB S d) (S 2 0) := by rw [← ei]; exact hf
        have LB6 : ∀ (z7 : Nat) (kd : Nat) (k2 : Nat) (n2 : Nat) (J2 : St), 16 - kd < z7 → (kd ≤ 16) → (k2 ≤ 400 + 20 * kd) → (n2 ≤ 2400 + 120 * kd) → G k2 n2 (wW a b e c S J2 S K2 U [(q1, .inl (c 0, 16, .inl (ar f)))]) [(0, .ref (a 0)), (1, .ref (e 0)), (2, .ref (e 3)), (3, .ref q1), (4, .int (nI kd))] 95 [] := by
          intro z7
          induction z7 with
          | zero => intro kd k2 n2 J2 hz hd hk2 hn2; exact absurd hz (by omega)
          | succ z7 ih8 =>
            intro kd k2 n2 J2 hz hd hk2 hn2
            refine r_iload K dL_cards_95 rfl ?_
            refine r_bipush K (nI 16) dL_cards_97 (by decide) ?_
            refine r_ic_ge K 211 dL_cards_99 (by decide) (by omega) (by decide) (fun h9 => ?_) (fun h9 => ?_)
            ·
              refine r_aload_n K dL_cards_211 rfl ?_
              refine r_callVO (rest := []) (f := fun _ : Unit => J2) K (c_X6_cards l D a c S J2 hV) 0 gL_cards_X6_cards rfl (by decide +kernel) rfl ⟨⟨Nat.le_of_ble_eq_true rfl, Nat.le_of_ble_eq_true rfl⟩, (by show k2 + 0 ≤ 1000; omega), (by show n2 + 0 ≤ 6000; omega)⟩ rfl rfl (Nat.le_of_ble_eq_true rfl) dL_cards_212 (fun J10 => ?_)
              refine r_aload_n K dL_cards_215 rfl ?_
              refine r_iconst K (nI 0) dL_cards_216 (by decide) ?_
              refine r_ldZ K 3 (zX_g3 _ _ _ _) (by omega) (by decide) dL_cards_217 ?_
              refine r_top (congrArg nI (show _ = S 2 0 from hg0)) ?_
              refine r_ic_ne K 292 dL_cards_218 (by decide) (by omega) (by omega) (fun h11 => by omega) (fun h11 => ?_)
              refine r_aload_n K dL_cards_221 rfl ?_
              refine r_aload_n K dL_cards_222 rfl ?_
              refine r_iconst K (nI 0) dL_cards_223 (by decide) ?_
              refine r_ldZ K 3 (zX_g3 _ _ _ _) (by omega) (by decide) dL_cards_224 ?_
              refine r_top (congrArg nI (show _ = S 2 0 from hg0)) ?_
              refine r_callO (rest := []) KE (x_printOf_1 l D a c S hl0 hV  (nI (S 2 0)) (inB_big (by omega) (Int32.le_refl _))) 2 gL_cards_L_printOf rfl (by decide +kernel) rfl ⟨⟨Nat.le_of_ble_eq_true rfl, Nat.le_of_ble_eq_true rfl⟩, (by show k2 + 1 ≤ 1000; omega), (by show n2 + 6 ≤ 6000; omega)⟩ rfl (Nat.le_of_ble_eq_true rfl) dL_cards_225 (fun J12 => ?_)
              refine r_ldc K (v := -1000001) (List.mem_of_getElem? (i := 2) rfl) dL_cards_228 ?_
              refine r_ic_neR K 292 dL_cards_230 (by decide) (fun h13 => absurd rfl h13) (fun h13 => ?_)
              refine r_aload_n K dL_cards_233 rfl ?_
              refine r_iconst K (-1) dL_cards_234 (by decide) ?_
              refine r_callO (rest := []) KE (x_collectorOf_1 l D a c S hl0 hV  (-1) (inB_neg (by decide))) 2 gL_cards_L_collectorOf rfl (by decide +kernel) rfl ⟨⟨Nat.le_of_ble_eq_true rfl, Nat.le_of_ble_eq_true rfl⟩, (by show k2 + 1 + 1 ≤ 1000; omega), (by show n2 + 6 + 6 ≤ 6000; omega)⟩ rfl (Nat.le_of_ble_eq_true rfl) dL_cards_235 (fun J14 => ?_)
              refine r_ldc K (v := -1000001) (List.mem_of_getElem? (i := 2) rfl) dL_cards_238 ?_
              refine r_ic_neR K 292 dL_cards_240 (by decide) (fun h15 => absurd rfl h15) (fun h15 => ?_)
              refine r_aload_n K dL_cards_243 rfl ?_
              refine r_bipush K (nI 6) dL_cards_244 (by decide) ?_
              refine r_iconst K (nI 0) dL_cards_246 (by decide) ?_
              refine r_callO (rest := []) KE (x_has_1 l D a c S hl0 hV  (nI 6) (nI 0) (and_f1 (by decide))) 3 gL_cards_L_has rfl (by decide +kernel) rfl ⟨⟨Nat.le_of_ble_eq_true rfl, Nat.le_of_ble_eq_true rfl⟩, (by show k2 + 2 + 2 ≤ 1000; omega), (by show n2 + 12 + 12 ≤ 6000; omega)⟩ rfl (Nat.le_of_ble_eq_true rfl) dL_cards_247 (fun J16 => ?_)
              refine r_ldc K (v := -1000001) (List.mem_of_getElem? (i := 2) rfl) dL_cards_250 ?_
              refine r_ic_neR K 292 dL_cards_252 (by decide) (fun h17 => absurd rfl h17) (fun h17 => ?_)
              refine r_aload_n K dL_cards_255 rfl ?_
              refine r_iconst K (nI 0) dL_cards_256 (by decide) ?_
              refine r_bipush K (nI 16) dL_cards_257 (by decide) ?_
              refine r_callO (rest := []) KE (x_has_1 l D a c S hl0 hV  (nI 0) (nI 16) (and_f2 (by decide))) 3 gL_cards_L_has rfl (by decide +kernel) rfl ⟨⟨Nat.le_of_ble_eq_true rfl, Nat.le_of_ble_eq_true rfl⟩, (by show k2 + 4 + 2 ≤ 1000; omega), (by show n2 + 24 + 12 ≤ 6000; omega)⟩ rfl (Nat.le_of_ble_eq_true rfl) dL_cards_259 (fun J18 => ?_)
              refine r_ldc K (v := -1000001) (List.mem_of_getElem? (i := 2) rfl) dL_cards_262 ?_
              refine r_ic_neR K 292 dL_cards_264 (by decide) (fun h19 => absurd rfl h19) (fun h19 => ?_)
              refine r_aload_n K dL_cards_267 rfl ?_
              refine r_bipush K (nI 16) dL_cards_268 (by decide) ?_
              refine r_callO (rest := []) KE (x_wins_1 l D a c S hl0 hV  (nI 16) (by decide)) 2 gL_cards_L_wins rfl (by decide +kernel) rfl ⟨⟨Nat.le_of_ble_eq_true rfl, Nat.le_of_ble_eq_true rfl⟩, (by show k2 + 6 + 1 ≤ 1000; omega), (by show n2 + 36 + 6 ≤ 6000; omega)⟩ rfl (Nat.le_of_ble_eq_true rfl) dL_cards_270 (fun J20 => ?_)
              refine r_ldc K (v := -1000001) (List.mem_of_getElem? (i := 2) rfl) dL_cards_273 ?_
              refine r_ic_neR K 292 dL_cards_275 (by decide) (fun h21 => absurd rfl h21) (fun h21 => ?_)
              refine r_aload_n K dL_cards_278 rfl ?_
              refine r_iconst K (-1) dL_cards_279 (by decide) ?_
              refine r_callO (rest := []) KE (x_price_1 l D a c S hl0 hV  (-1) (inB_neg (by decide))) 2 gL_cards_L_price rfl (by decide +kernel) rfl ⟨⟨Nat.le_of_ble_eq_true rfl, Nat.le_of_ble_eq_true rfl⟩, (by show k2 + 7 + 1 ≤ 1000; omega), (by show n2 + 42 + 6 ≤ 6000; omega)⟩ rfl (Nat.le_of_ble_eq_true rfl) dL_cards_280 (fun J22 => ?_)
              refine r_ldc K (v := -1000001) (List.mem_of_getElem? (i := 2) rfl) dL_cards_283 ?_
              refine r_ic_neR K 292 dL_cards_285 (by decide) (fun h23 => absurd rfl h23) (fun h23 => ?_)
              refine r_iconst K (nI 1) dL_cards_288 (by decide) ?_
              refine r_goto K 293 dL_cards_289 (by decide) ?_
              exact hret _ _ _ _ _ 1 J22 _ dL_cards_293 (by decide) rfl (wW_app a b e c S J22 S K2 U _) (by show k2 + 8 ≤ 1000; omega) (by show n2 + 48 ≤ 6000; omega)
            ·
              refine r_iconst K (nI 0) dL_cards_102 (by decide) ?_
              refine r_istore (lv' := [(0, .ref (a 0)), (1, .ref (e 0)), (2, .ref (e 3)), (3, .ref q1), (4, .int (nI kd)), (5, .int (nI 0))]) K dL_cards_103 (by decide) rfl ?_
              refine r_iconst K (nI 0) dL_cards_105 (by decide) ?_
              refine r_istore (lv' := [(0, .ref (a 0)), (1, .ref (e 0)), (2, .ref (e 3)), (3, .ref q1), (4, .int (nI kd)), (5, .int (nI 0)), (6, .int (nI 0))]) K dL_cards_106 (by decide) rfl ?_
              have LC24 : ∀ (z25 : Nat) (q : Nat) (k3 : Nat) (n3 : Nat) (J3 : St), 6 - q < z25 → (q ≤ 6) → (k3 ≤ 400 + 20 * kd + 2 * q) → (n3 ≤ 2400 + 120 * kd + 12 * q) → G k3 n3 (wW a b e c S J3 S K2 U [(q1, .inl (c 0, 16, .inl (ar f)))]) [(0, .ref (a 0)), (1, .ref (e 0)), (2, .ref (e 3)), (3, .ref q1), (4, .int (nI kd)), (5, .int (nI (sumN (hsK S kd) q))), (6, .int (nI q))] 108 [] := by
                intro z25
                induction z25 with
                | zero => intro q k3 n3 J3 hz hq hk3 hn3; exact absurd hz (by omega)
                | succ z25 ih26 =>
                  intro q k3 n3 J3 hz hq hk3 hn3
                  refine r_iload K dL_cards_108 rfl ?_
                  refine r_bipush K (nI 6) dL_cards_110 (by decide) ?_
                  refine r_ic_ge K 134 dL_cards_112 (by decide) (by omega) (by decide) (fun h27 => ?_) (fun h27 => ?_)
                  ·
                    have hd2 : kd < 16 := by omega
                    have eq6 : q = 6 := by omega
                    have hsum := rel_sum hR hd2
                    have h13b := V_b hV 13 kd
                    have h14b := V_b hV 14 kd
                    have hfk : f kd = S 13 kd := by rw [hfS, rel_cnt hR hd2]
                    refine r_aload_n K dL_cards_134 rfl ?_
                    refine r_iload K dL_cards_135 rfl ?_
                    refine r_ldZ K 0 (zX_g0 _ _ _ _) (by omega) (by decide) dL_cards_137 ?_
                    refine r_top (congrArg nI (show _ = S 13 kd from rel_p hR hd2)) ?_
                    refine r_if_ne K 145 dL_cards_138 (by decide) (by omega) (fun h28 => ?_) (fun h28 => ?_)
                    ·
                      refine r_bipush K (nI 100) dL_cards_145 (by decide) ?_
                      refine r_aload_n K dL_cards_147 rfl ?_
                      refine r_iload K dL_cards_148 rfl ?_
                      refine r_callO (rest := [.int (nI 100)]) KE (w_wins_0 l D a c S hl0 hV  kd (by omega)) 2 gL_cards_L_wins rfl (by decide +kernel) rfl ⟨⟨Nat.le_of_ble_eq_true rfl, Nat.le_of_ble_eq_true rfl⟩, (by show k3 + 1 ≤ 1000; omega), (by show n3 + 6 ≤ 6000; omega)⟩ rfl (Nat.le_of_ble_eq_true rfl) dL_cards_150 (fun J29 => ?_)
                      refine r_iconst K (nI 1) dL_cards_153 (by decide) ?_
                      refine r_iadd K dL_cards_154 ?_
                      refine r_imul K dL_cards_155 ?_
                      refine r_aload_n K dL_cards_156 rfl ?_
                      refine r_iload K dL_cards_157 rfl ?_
                      refine r_ldZ K 0 (zX_g0 _ _ _ _) (by omega) (by decide) dL_cards_159 ?_
                      refine r_top (congrArg nI (show _ = S 13 kd from rel_p hR hd2)) ?_
                      refine r_idiv K dL_cards_160 (by omega) (by omega) (by omega) ?_
                      have hprc : prc S kd = ((100 * (S 14 kd + 1)) / S 13 kd) := prc_1 (by omega)
                      have hprb : prc S kd < 1000000000 := by rw [hprc]; exact Nat.lt_of_le_of_lt (Nat.div_le_self _ _) (by omega)
                      refine r_istore (lv' := [(0, .ref (a 0)), (1, .ref (e 0)), (2, .ref (e 3)), (3, .ref q1), (4, .int (nI kd)), (5, .int (nI (sumN (hsK S kd) q))), (6, .int (nI ((100 * (S 14 kd + 1)) / S 13 kd)))]) K dL_cards_161 (by decide) rfl ?_
                      refine r_iload K dL_cards_163 rfl ?_
                      refine r_top (congrArg nI (show _ = S 13 kd from (by rw [eq6]; exact hsum))) ?_
                      refine r_aload_n K dL_cards_165 rfl ?_
                      refine r_iload K dL_cards_166 rfl ?_
                      refine r_ldZ K 0 (zX_g0 _ _ _ _) (by omega) (by decide) dL_cards_168 ?_
                      refine r_top (congrArg nI (show _ = S 13 kd from rel_p hR hd2)) ?_
                      refine r_ic_ne K 203 dL_cards_169 (by decide) (by omega) (by omega) (fun h30 => by omega) (fun h30 => ?_)
                      refine r_aload_n K dL_cards_172 rfl ?_
                      refine r_iload K dL_cards_173 rfl ?_
                      refine r_ldZ (g := f) K 4 rfl (by omega) (by decide) dL_cards_175 ?_
                      refine r_top (congrArg nI (show _ = S 13 kd from hfk)) ?_
                      refine r_aload_n K dL_cards_176 rfl ?_
                      refine r_iload K dL_cards_177 rfl ?_
                      refine r_ldZ K 0 (zX_g0 _ _ _ _) (by omega) (by decide) dL_cards_179 ?_
                      refine r_top (congrArg nI (show _ = S 13 kd from rel_p hR hd2)) ?_
                      refine r_ic_ne K 203 dL_cards_180 (by decide) (by omega) (by omega) (fun h31 => by omega) (fun h31 => ?_)
                      refine r_aload_n K dL_cards_183 rfl ?_
                      refine r_iload K dL_cards_184 rfl ?_
                      refine r_callO (rest := []) KE (w_price_0 l D a c S hl0 hV  kd (by omega)) 2 gL_cards_L_price rfl (by decide +kernel) rfl ⟨⟨Nat.le_of_ble_eq_true rfl, Nat.le_of_ble_eq_true rfl⟩, (by show k3 + 1 + 1 ≤ 1000; omega), (by show n3 + 6 + 6 ≤ 6000; omega)⟩ rfl (Nat.le_of_ble_eq_true rfl) dL_cards_186 (fun J32 => ?_)
                      refine r_iload K dL_cards_189 rfl ?_
                      refine r_ic_ne K 203 dL_cards_191 (by decide) (by omega) (by omega) (fun h33 => by omega) (fun h33 => ?_)
                      refine r_aload_n K dL_cards_194 rfl ?_
                      refine r_iload K dL_cards_195 rfl ?_
                      refine r_callO (rest := []) KE (w_wins_0 l D a c S hl0 hV  kd (by omega)) 2 gL_cards_L_wins rfl (by decide +kernel) rfl ⟨⟨Nat.le_of_ble_eq_true rfl, Nat.le_of_ble_eq_true rfl⟩, (by show k3 + 2 + 1 ≤ 1000; omega), (by show n3 + 12 + 6 ≤ 6000; omega)⟩ rfl (Nat.le_of_ble_eq_true rfl) dL_cards_197 (fun J34 => ?_)
                      refine r_if_ge K 205 dL_cards_200 (by decide) (by omega) (fun h35 => ?_) (fun h35 => by omega)
                      refine r_iinc (lv' := [(0, .ref (a 0)), (1, .ref (e 0)), (2, .ref (e 3)), (3, .ref q1), (4, .int (nI (kd + 1))), (5, .int (nI (sumN (hsK S kd) q))), (6, .int (nI ((100 * (S 14 kd + 1)) / S 13 kd)))]) K dL_cards_205 rfl (nI_1 _) (by decide) rfl ?_
                      refine r_goto K 95 dL_cards_208 (by decide) ?_
                      refine r_pick [0, 1, 2, 3, 4] K rfl ?_
                      exact ih8 (kd + 1) _ _ _ (by omega) (by omega) (by show k3 + 3 ≤ _; omega) (by show n3 + 18 ≤ _; omega)
                    ·
                      refine r_iconst K (nI 0) dL_cards_141 (by decide) ?_
                      refine r_goto K 161 dL_cards_142 (by decide) ?_
                      have hprc : prc S kd = 0 := prc_0 (by omega)
                      have hprb : prc S kd < 1000000000 := by rw [hprc]; omega
                      refine r_istore (lv' := [(0, .ref (a 0)), (1, .ref (e 0)), (2, .ref (e 3)), (3, .ref q1), (4, .int (nI kd)), (5, .int (nI (sumN (hsK S kd) q))), (6, .int (nI 0))]) K dL_cards_161 (by decide) rfl ?_
                      refine r_iload K dL_cards_163 rfl ?_
                      refine r_top (congrArg nI (show _ = S 13 kd from (by rw [eq6]; exact hsum))) ?_
                      refine r_aload_n K dL_cards_165 rfl ?_
                      refine r_iload K dL_cards_166 rfl ?_
                      refine r_ldZ K 0 (zX_g0 _ _ _ _) (by omega) (by decide) dL_cards_168 ?_
                      refine r_top (congrArg nI (show _ = S 13 kd from rel_p hR hd2)) ?_
                      refine r_ic_ne K 203 dL_cards_169 (by decide) (by omega) (by omega) (fun h36 => by omega) (fun h36 => ?_)
                      refine r_aload_n K dL_cards_172 rfl ?_
                      refine r_iload K dL_cards_173 rfl ?_
                      refine r_ldZ (g := f) K 4 rfl (by omega) (by decide) dL_cards_175 ?_
                      refine r_top (congrArg nI (show _ = S 13 kd from hfk)) ?_
                      refine r_aload_n K dL_cards_176 rfl ?_
                      refine r_iload K dL_cards_177 rfl ?_
                      refine r_ldZ K 0 (zX_g0 _ _ _ _) (by omega) (by decide) dL_cards_179 ?_
                      refine r_top (congrArg nI (show _ = S 13 kd from rel_p hR hd2)) ?_
                      refine r_ic_ne K 203 dL_cards_180 (by decide) (by omega) (by omega) (fun h37 => by omega) (fun h37 => ?_)
                      refine r_aload_n K dL_cards_183 rfl ?_
                      refine r_iload K dL_cards_184 rfl ?_
                      refine r_callO (rest := []) KE (w_price_0 l D a c S hl0 hV  kd (by omega)) 2 gL_cards_L_price rfl (by decide +kernel) rfl ⟨⟨Nat.le_of_ble_eq_true rfl, Nat.le_of_ble_eq_true rfl⟩, (by show k3 + 1 ≤ 1000; omega), (by show n3 + 6 ≤ 6000; omega)⟩ rfl (Nat.le_of_ble_eq_true rfl) dL_cards_186 (fun J38 => ?_)
                      refine r_iload K dL_cards_189 rfl ?_
                      refine r_ic_ne K 203 dL_cards_191 (by decide) (by omega) (by decide) (fun h39 => by omega) (fun h39 => ?_)
                      refine r_aload_n K dL_cards_194 rfl ?_
                      refine r_iload K dL_cards_195 rfl ?_
                      refine r_callO (rest := []) KE (w_wins_0 l D a c S hl0 hV  kd (by omega)) 2 gL_cards_L_wins rfl (by decide +kernel) rfl ⟨⟨Nat.le_of_ble_eq_true rfl, Nat.le_of_ble_eq_true rfl⟩, (by show k3 + 1 + 1 ≤ 1000; omega), (by show n3 + 6 + 6 ≤ 6000; omega)⟩ rfl (Nat.le_of_ble_eq_true rfl) dL_cards_197 (fun J40 => ?_)
                      refine r_if_ge K 205 dL_cards_200 (by decide) (by omega) (fun h41 => ?_) (fun h41 => by omega)
                      refine r_iinc (lv' := [(0, .ref (a 0)), (1, .ref (e 0)), (2, .ref (e 3)), (3, .ref q1), (4, .int (nI (kd + 1))), (5, .int (nI (sumN (hsK S kd) q))), (6, .int (nI 0))]) K dL_cards_205 rfl (nI_1 _) (by decide) rfl ?_
                      refine r_goto K 95 dL_cards_208 (by decide) ?_
                      refine r_pick [0, 1, 2, 3, 4] K rfl ?_
                      exact ih8 (kd + 1) _ _ _ (by omega) (by omega) (by show k3 + 2 ≤ _; omega) (by show n3 + 12 ≤ _; omega)
                  ·
                    refine r_iload K dL_cards_115 rfl ?_
                    refine r_aload_n K dL_cards_117 rfl ?_
                    refine r_iload K dL_cards_118 rfl ?_
                    refine r_iload K dL_cards_120 rfl ?_
                    refine r_callO (rest := [.int (nI (sumN (hsK S kd) q))]) KE (w_has_0 l D a c S hl0 hV  q kd (by omega) (by omega)) 3 gL_cards_L_has rfl (by decide +kernel) rfl ⟨⟨Nat.le_of_ble_eq_true rfl, Nat.le_of_ble_eq_true rfl⟩, (by show k3 + 2 ≤ 1000; omega), (by show n3 + 12 ≤ 6000; omega)⟩ rfl (Nat.le_of_ble_eq_true rfl) dL_cards_122 (fun J42 => ?_)
                    refine r_iadd K dL_cards_125 ?_
                    refine r_istore (lv' := [(0, .ref (a 0)), (1, .ref (e 0)), (2, .ref (e 3)), (3, .ref q1), (4, .int (nI kd)), (5, .int (nI (sumN (hsK S kd) q + hasN S q kd))), (6, .int (nI q))]) K dL_cards_126 (by decide) rfl ?_
                    refine r_iinc (lv' := [(0, .ref (a 0)), (1, .ref (e 0)), (2, .ref (e 3)), (3, .ref q1), (4, .int (nI kd)), (5, .int (nI (sumN (hsK S kd) q + hasN S q kd))), (6, .int (nI (q + 1)))]) K dL_cards_128 rfl (nI_1 _) (by decide) rfl ?_
                    refine r_goto K 108 dL_cards_131 (by decide) ?_
                    exact ih26 (q + 1) _ _ _ (by omega) (by omega) (by show k3 + 2 ≤ _; omega) (by show n3 + 12 ≤ _; omega)
              exact LC24 7 0 _ _ _ (by omega) (by omega) (by show k2 ≤ _; omega) (by show n2 ≤ _; omega)
        exact LB6 17 0 _ _ _ (by omega) (by omega) (by show k ≤ _; omega) (by show n ≤ _; omega)
      ·
        have hi2 : i < S 2 0 := by omega
        have h16 := rel_no_le hR hi2
        have h15 := V_kind hV i
        have h17 := rel_col hR hi2
        have hfi : f (S 15 i) ≤ 60 := by rw [hf]; exact Nat.le_trans (cnt_le _ _) (by omega)
        refine r_aload_n K dL_cards_16 rfl ?_
        refine r_iload K dL_cards_17 rfl ?_
        refine r_callO (rest := []) KE (w_printOf_0 l D a c S hl0 hV  i (by omega)) 2 gL_cards_L_printOf rfl (by decide +kernel) rfl ⟨⟨Nat.le_of_ble_eq_true rfl, Nat.le_of_ble_eq_true rfl⟩, (by show k + 1 ≤ 1000; omega), (by show n + 6 ≤ 6000; omega)⟩ rfl (Nat.le_of_ble_eq_true rfl) dL_cards_19 (fun J43 => ?_)
        refine r_bipush K (nI 100) dL_cards_22 (by decide) ?_
        refine r_idiv K dL_cards_24 (by omega) (by omega) (by omega) ?_
        refine r_top (congrArg nI (show _ = S 15 i from (by omega))) ?_
        refine r_istore (lv' := [(0, .ref (a 0)), (1, .ref (e 0)), (2, .ref (e 3)), (3, .ref q1), (4, .int (nI i)), (5, .int (nI (S 15 i)))]) K dL_cards_25 (by decide) rfl ?_
        refine r_iload K dL_cards_27 rfl ?_
        refine r_if_lt K 58 dL_cards_29 (by decide) (by omega) (fun h44 => by omega) (fun h44 => ?_)
        refine r_iload K dL_cards_32 rfl ?_
        refine r_bipush K (nI 15) dL_cards_34 (by decide) ?_
        refine r_ic_gt K 58 dL_cards_36 (by decide) (by omega) (by decide) (fun h45 => by omega) (fun h45 => ?_)
        refine r_aload_n K dL_cards_39 rfl ?_
        refine r_iload K dL_cards_40 rfl ?_
        refine r_callO (rest := []) KE (w_collectorOf_0 l D a c S hl0 hV  i (by omega)) 2 gL_cards_L_collectorOf rfl (by decide +kernel) rfl ⟨⟨Nat.le_of_ble_eq_true rfl, Nat.le_of_ble_eq_true rfl⟩, (by show k + 1 + 1 ≤ 1000; omega), (by show n + 6 + 6 ≤ 6000; omega)⟩ rfl (Nat.le_of_ble_eq_true rfl) dL_cards_42 (fun J46 => ?_)
        refine r_if_lt K 58 dL_cards_45 (by decide) (by omega) (fun h47 => by omega) (fun h47 => ?_)
        refine r_aload_n K dL_cards_48 rfl ?_
        refine r_iload K dL_cards_49 rfl ?_
        refine r_callO (rest := []) KE (w_collectorOf_0 l D a c S hl0 hV  i (by omega)) 2 gL_cards_L_collectorOf rfl (by decide +kernel) rfl ⟨⟨Nat.le_of_ble_eq_true rfl, Nat.le_of_ble_eq_true rfl⟩, (by show k + 2 + 1 ≤ 1000; omega), (by show n + 12 + 6 ≤ 6000; omega)⟩ rfl (Nat.le_of_ble_eq_true rfl) dL_cards_51 (fun J48 => ?_)
        refine r_iconst K (nI 5) dL_cards_54 (by decide) ?_
        refine r_ic_le K 60 dL_cards_55 (by decide) (by omega) (by decide) (fun h49 => ?_) (fun h49 => by omega)
        refine r_aload_n K dL_cards_60 rfl ?_
        refine r_iload K dL_cards_61 rfl ?_
        refine r_dup2 K dL_cards_63 rfl rfl ?_
        refine r_ldZ (g := f) K 4 rfl (by omega) (by decide) dL_cards_64 ?_
        refine r_iconst K (nI 1) dL_cards_65 (by decide) ?_
        refine r_iadd K dL_cards_66 ?_
        refine r_stZ (g := f) (x' := [(q1, .inl (c 0, 16, .inl (ar (upf f (S 15 i) (f (S 15 i) + 1)))))]) K 4 rfl (by omega) (by decide) dL_cards_67 rfl ?_
        obtain ⟨f50, hf50⟩ : ∃ X : Nat → Nat, X = upf f (S 15 i) (f (S 15 i) + 1) := ⟨_, rfl⟩
        rw [← hf50]
        have hst := seen_step hf
        rw [← hf50] at hst
        have hs1 : f50 (S 15 i) = S 16 i := by rw [hst, rel_no hR hi2]
        refine r_aload_n K dL_cards_68 rfl ?_
        refine r_iload K dL_cards_69 rfl ?_
        refine r_callO (rest := []) KE (w_printOf_0 l D a c S hl0 hV  i (by omega)) 2 gL_cards_L_printOf rfl (by decide +kernel) rfl ⟨⟨Nat.le_of_ble_eq_true rfl, Nat.le_of_ble_eq_true rfl⟩, (by show k + 3 + 1 ≤ 1000; omega), (by show n + 18 + 6 ≤ 6000; omega)⟩ rfl (Nat.le_of_ble_eq_true rfl) dL_cards_71 (fun J51 => ?_)
        refine r_bipush K (nI 100) dL_cards_74 (by decide) ?_
        refine r_irem K dL_cards_76 (by omega) (by omega) (by omega) ?_
        refine r_top (congrArg nI (show _ = S 16 i from (by omega))) ?_
        refine r_aload_n K dL_cards_77 rfl ?_
        refine r_iload K dL_cards_78 rfl ?_
        refine r_ldZ (g := f50) K 4 rfl (by omega) (by decide) dL_cards_80 ?_
        refine r_ic_eq K 86 dL_cards_81 (by decide) (by omega) (by omega) (fun h52 => ?_) (fun h52 => by omega)
        refine r_iinc (lv' := [(0, .ref (a 0)), (1, .ref (e 0)), (2, .ref (e 3)), (3, .ref q1), (4, .int (nI (i + 1))), (5, .int (nI (S 15 i)))]) K dL_cards_86 rfl (nI_1 _) (by decide) rfl ?_
        refine r_goto K 8 dL_cards_89 (by decide) ?_
        refine r_pick [0, 1, 2, 3, 4] K rfl ?_
        exact ih4 (i + 1) _ _ _ _ (by omega) (by omega) hst (by show k + 4 ≤ _; omega) (by show n + 24 ≤ _; omega)
  exact LA2 (S 2 0 + 1) 0 _ _ _ _ (by omega) (Nat.zero_le _) (fun d => rfl) (by show 1 ≤ _; omega) (by show 16 ≤ _; omega)
