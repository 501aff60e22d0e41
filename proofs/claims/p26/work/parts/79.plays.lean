def rmL_plays : Room := { frames := 9, cells := 800, slots := 5000, locals := 161 }
set_option maxHeartbeats 4000000 in
set_option maxRecDepth 100000 in
theorem c_L_plays (l : Launch) (D : va_G) (a b e : Nat → Nat) (c : Nat → ClassId) (hl0 : l.stackTraces = false) (S J K2 U : St) {m : Nat} (hI : Inv m S) (hm : m < 600) (hR : Rel S U) (h2 : 2 ≤ S 3 0) (xx yy : Int32) : Li l yL_plays wsL_plays rmL_plays D (tyW c) [.ref (a 0), .ref (b 0), .ref (e 1), .ref (e 3), .int xx, .int yy] (wW a b e c S J S K2 U []) (fun r (u : St × St × St) => r = nI 1 ∧ Inv (m + 1) u.1 ∧ Rel u.1 U) (fun u : St × St × St => wW a b e c u.1 u.2.1 u.1 u.2.2 U []) := by
  refine Li.ofEZ (lv0 := [(0, .ref (a 0)), (1, .ref (b 0)), (2, .ref (e 1)), (3, .ref (e 3)), (4, .int xx), (5, .int yy)]) (by decide +kernel) rfl (Nat.le_of_ble_eq_true rfl) rfl (fun G KE hret => ?_)
  have K := KE.ok
  have hV := hI.V (by omega)
  have h14 := hI.small (show m ≤ 600 by omega) 14
  have hg1 := rel_g1 hR
  have hg3 := rel_g3 hR
  have h60 := rel_60 hR
  have hd12 := V_decks hV
  have hfs := V_fsize hV
  refine r_iload K dL_plays_0 rfl ?_
  refine r_iconst K (nI 5) dL_plays_2 (by decide) ?_
  refine r_ishrR K dL_plays_3 ?_
  refine r_aload_n K dL_plays_4 rfl ?_
  refine r_iconst K (nI 1) dL_plays_5 (by decide) ?_
  refine r_ldZ K 3 (zX_g3 _ _ _ _) (by omega) (by decide) dL_plays_6 ?_
  refine r_top (congrArg nI (show _ = S 3 0 from hg1)) ?_
  refine r_callS0 (rest := []) K (c_L_low l D c (xx >>> (nI 5 &&& 31)) (S 3 0) (by omega) (by omega)) 2 gL_plays_L_low rfl (by decide +kernel) rfl ⟨⟨Nat.le_of_ble_eq_true rfl, Nat.le_of_ble_eq_true rfl⟩, (by show 0 + 0 ≤ 800; omega), (by show 0 + 0 ≤ 5000; omega)⟩ rfl (Nat.le_of_ble_eq_true rfl) dL_plays_7 ?_
  rintro _ _ ⟨k1, hk1, rfl⟩
  obtain ⟨A, hA⟩ : ∃ z, z = k1 := ⟨_, rfl⟩
  refine r_top (congrArg nI hA.symm) ?_
  have bA : A < S 3 0 := by omega
  refine r_istore (lv' := [(0, .ref (a 0)), (1, .ref (b 0)), (2, .ref (e 1)), (3, .ref (e 3)), (4, .int xx), (5, .int yy), (6, .int (nI A))]) K dL_plays_10 (by decide) rfl ?_
  refine r_iload K dL_plays_12 rfl ?_
  refine r_bipush K (nI 9) dL_plays_14 (by decide) ?_
  refine r_ishrR K dL_plays_16 ?_
  refine r_aload_n K dL_plays_17 rfl ?_
  refine r_iconst K (nI 1) dL_plays_18 (by decide) ?_
  refine r_ldZ K 3 (zX_g3 _ _ _ _) (by omega) (by decide) dL_plays_19 ?_
  refine r_top (congrArg nI (show _ = S 3 0 from hg1)) ?_
  refine r_callS0 (rest := []) K (c_L_low l D c (xx >>> (nI 9 &&& 31)) (S 3 0) (by omega) (by omega)) 2 gL_plays_L_low rfl (by decide +kernel) rfl ⟨⟨Nat.le_of_ble_eq_true rfl, Nat.le_of_ble_eq_true rfl⟩, (by show 0 + 0 ≤ 800; omega), (by show 0 + 0 ≤ 5000; omega)⟩ rfl (Nat.le_of_ble_eq_true rfl) dL_plays_20 ?_
  rintro _ _ ⟨k2, hk2, rfl⟩
  obtain ⟨B, hB⟩ : ∃ z, z = k2 := ⟨_, rfl⟩
  refine r_top (congrArg nI hB.symm) ?_
  have bB : B < S 3 0 := by omega
  refine r_istore (lv' := [(0, .ref (a 0)), (1, .ref (b 0)), (2, .ref (e 1)), (3, .ref (e 3)), (4, .int xx), (5, .int yy), (6, .int (nI A)), (7, .int (nI B))]) K dL_plays_23 (by decide) rfl ?_
  refine r_iload K dL_plays_25 rfl ?_
  refine r_ldc K (v := nI 2147483647) (List.mem_of_getElem? (i := 1) rfl) dL_plays_27 ?_
  refine r_iandR K dL_plays_29 ?_
  obtain ⟨sd3, hsd3, esd3⟩ := low31 yy
  refine r_top (show _ = nI sd3 from esd3) ?_
  obtain ⟨q1, hq1⟩ : ∃ z, z = sd3 := ⟨_, rfl⟩
  have bq1 : q1 < 2147483648 := by omega
  refine r_top (congrArg nI (show _ = q1 from hq1.symm)) ?_
  refine r_istore (lv' := [(0, .ref (a 0)), (1, .ref (b 0)), (2, .ref (e 1)), (3, .ref (e 3)), (4, .int xx), (5, .int yy), (6, .int (nI A)), (7, .int (nI B)), (8, .int (nI q1))]) K dL_plays_30 (by decide) rfl ?_
  refine r_iload K dL_plays_32 rfl ?_
  refine r_bipush K (nI 7) dL_plays_34 (by decide) ?_
  refine r_imulR K dL_plays_36 ?_
  refine r_iload K dL_plays_37 rfl ?_
  refine r_iaddR K dL_plays_39 ?_
  refine r_ldc K (v := nI 100000) (List.mem_of_getElem? (i := 2) rfl) dL_plays_40 ?_
  refine r_callS0 (rest := []) K (c_L_low l D c ((yy * (nI 7)) + xx) 100000 (by omega) (by omega)) 2 gL_plays_L_low rfl (by decide +kernel) rfl ⟨⟨Nat.le_of_ble_eq_true rfl, Nat.le_of_ble_eq_true rfl⟩, (by show 0 + 0 ≤ 800; omega), (by show 0 + 0 ≤ 5000; omega)⟩ rfl (Nat.le_of_ble_eq_true rfl) dL_plays_42 ?_
  rintro _ _ ⟨k4, hk4, rfl⟩
  obtain ⟨q2, hq2⟩ : ∃ z, z = k4 := ⟨_, rfl⟩
  refine r_top (congrArg nI hq2.symm) ?_
  have bq2 : q2 < 2147483648 := by omega
  refine r_istore (lv' := [(0, .ref (a 0)), (1, .ref (b 0)), (2, .ref (e 1)), (3, .ref (e 3)), (4, .int xx), (5, .int yy), (6, .int (nI A)), (7, .int (nI B)), (8, .int (nI q1)), (9, .int (nI q2))]) K dL_plays_45 (by decide) rfl ?_
  have b18a := V_b hV 18 A
  have b18b := V_b hV 18 B
  have HM5 : ∀ (k1 : Nat) (n1 : Nat), (k1 ≤ 0) → (n1 ≤ 0) → G k1 n1 (wW a b e c S J S K2 U []) [(0, .ref (a 0)), (1, .ref (b 0)), (2, .ref (e 1)), (3, .ref (e 3)), (4, .int xx), (5, .int yy), (6, .int (nI A)), (7, .int (nI B)), (8, .int (nI q1)), (9, .int (nI q2))] 67 [.int (nI ((decide (S 18 A = S 18 B)).toNat))] := by
    intro k1 n1 hk1 hn1
    refine r_istore (lv' := [(0, .ref (a 0)), (1, .ref (b 0)), (2, .ref (e 1)), (3, .ref (e 3)), (4, .int xx), (5, .int yy), (6, .int (nI A)), (7, .int (nI B)), (8, .int (nI q1)), (9, .int (nI q2)), (10, .int (nI ((decide (S 18 A = S 18 B)).toNat)))]) K dL_plays_67 (by decide) rfl ?_
    have HM6 : ∀ (k2 : Nat) (n2 : Nat) (J2 : St), (k2 ≤ 2) → (n2 ≤ 12) → G k2 n2 (wW a b e c S J2 S K2 U []) [(0, .ref (a 0)), (1, .ref (b 0)), (2, .ref (e 1)), (3, .ref (e 3)), (4, .int xx), (5, .int yy), (6, .int (nI A)), (7, .int (nI B)), (8, .int (nI q1)), (9, .int (nI q2)), (10, .int (nI ((decide (S 18 A = S 18 B)).toNat)))] 94 [.int (nI ((alw S A && alw S B).toNat))] := by
      intro k2 n2 J2 hk2 hn2
      refine r_istore (lv' := [(0, .ref (a 0)), (1, .ref (b 0)), (2, .ref (e 1)), (3, .ref (e 3)), (4, .int xx), (5, .int yy), (6, .int (nI A)), (7, .int (nI B)), (8, .int (nI q1)), (9, .int (nI q2)), (10, .int (nI ((decide (S 18 A = S 18 B)).toNat))), (11, .int (nI ((alw S A && alw S B).toNat)))]) K dL_plays_94 (by decide) rfl ?_
      refine r_bipush K (nI 16) dL_plays_96 (by decide) ?_
      refine r_newZ K (List.mem_of_getElem? (i := 3) rfl) (by decide) ⟨(by show k2 + 1 ≤ 800; omega), (by show n2 + 16 ≤ 5000; omega)⟩ dL_plays_98 (fun q7 => ?_)
      refine r_w (ws' := wW a b e c S J2 S K2 U [(q7, .inl (c 0, 16, .inl (ar (fun _ => 0))))]) rfl ?_
      refine r_astore (lv' := [(0, .ref (a 0)), (1, .ref (b 0)), (2, .ref (e 1)), (3, .ref (e 3)), (4, .int xx), (5, .int yy), (6, .int (nI A)), (7, .int (nI B)), (8, .int (nI q1)), (9, .int (nI q2)), (10, .int (nI ((decide (S 18 A = S 18 B)).toNat))), (11, .int (nI ((alw S A && alw S B).toNat))), (12, .ref q7)]) K dL_plays_100 (by decide) rfl ?_
      refine r_iconst K (nI 0) dL_plays_102 (by decide) ?_
      refine r_istore (lv' := [(0, .ref (a 0)), (1, .ref (b 0)), (2, .ref (e 1)), (3, .ref (e 3)), (4, .int xx), (5, .int yy), (6, .int (nI A)), (7, .int (nI B)), (8, .int (nI q1)), (9, .int (nI q2)), (10, .int (nI ((decide (S 18 A = S 18 B)).toNat))), (11, .int (nI ((alw S A && alw S B).toNat))), (12, .ref q7), (13, .int (nI 0))]) K dL_plays_103 (by decide) rfl ?_
      have LA8 : ∀ (z9 : Nat) (i : Nat) (k3 : Nat) (n3 : Nat) (J3 : St) (f : Nat → Nat), 16 - i < z9 → (i ≤ 16) → (∀ p, p < i → f p = S 14 p) → (k3 ≤ 5 + i) → (n3 ≤ 30 + 6 * i) → G k3 n3 (wW a b e c S J3 S K2 U [(q7, .inl (c 0, 16, .inl (ar f)))]) [(0, .ref (a 0)), (1, .ref (b 0)), (2, .ref (e 1)), (3, .ref (e 3)), (4, .int xx), (5, .int yy), (6, .int (nI A)), (7, .int (nI B)), (8, .int (nI q1)), (9, .int (nI q2)), (10, .int (nI ((decide (S 18 A = S 18 B)).toNat))), (11, .int (nI ((alw S A && alw S B).toNat))), (12, .ref q7), (13, .int (nI i))] 105 [] := by
        intro z9
        induction z9 with
        | zero => intro i k3 n3 J3 f hz hi hf hk3 hn3; exact absurd hz (by omega)
        | succ z9 ih10 =>
          intro i k3 n3 J3 f hz hi hf hk3 hn3
          refine r_iload K dL_plays_105 rfl ?_
          refine r_bipush K (nI 16) dL_plays_107 (by decide) ?_
          refine r_ic_ge K 129 dL_plays_109 (by decide) (by omega) (by decide) (fun hq_11 => ?_) (fun hq_11 => ?_)
          ·
            have ei : i = 16 := by omega
            rw [ei] at hf
            by_cases hal : S 18 A = S 18 B
            ·
              refine r_lv (lv' := [(0, .ref (a 0)), (1, .ref (b 0)), (2, .ref (e 1)), (3, .ref (e 3)), (4, .int xx), (5, .int yy), (6, .int (nI A)), (7, .int (nI B)), (8, .int (nI q1)), (9, .int (nI q2)), (10, .int (nI 1)), (11, .int (nI ((alw S A && alw S B).toNat))), (12, .ref q7), (13, .int (nI i))]) (by rw [decide_eq_true hal]; rfl) ?_
              refine r_aload_n K dL_plays_129 rfl ?_
              refine r_iload K dL_plays_130 rfl ?_
              refine r_iload K dL_plays_132 rfl ?_
              refine r_iload K dL_plays_134 rfl ?_
              refine r_iload K dL_plays_136 rfl ?_
              refine r_callO (rest := []) KE (w_play_2 l D a c S hl0 hV h14 A B q1 q2 (by omega) (by omega) (by omega) (by omega) (and_f2 (and_f2 (decide_eq_false (fun q => q hal))))) 5 gL_plays_L_play rfl (by decide +kernel) rfl ⟨⟨Nat.le_of_ble_eq_true rfl, Nat.le_of_ble_eq_true rfl⟩, (by show k3 + 7 ≤ 800; omega), (by show n3 + 42 ≤ 5000; omega)⟩ rfl (Nat.le_of_ble_eq_true rfl) dL_plays_138 (fun J12 => ?_)
              refine r_istore (lv' := [(0, .ref (a 0)), (1, .ref (b 0)), (2, .ref (e 1)), (3, .ref (e 3)), (4, .int xx), (5, .int yy), (6, .int (nI A)), (7, .int (nI B)), (8, .int (nI q1)), (9, .int (nI q2)), (10, .int (nI 1)), (11, .int (nI ((alw S A && alw S B).toNat))), (12, .ref q7), (13, .int (-1000002))]) K dL_plays_141 (by decide) rfl ?_
              refine r_iload K dL_plays_143 rfl ?_
              refine r_if_eq K 163 dL_plays_145 (by decide) (by decide) (fun hq_14 => absurd hq_14 (by decide)) (fun hq_14 => ?_)
              refine r_iload K dL_plays_148 rfl ?_
              refine r_ldc K (v := -1000002) (List.mem_of_getElem? (i := 4) rfl) dL_plays_150 ?_
              refine r_ic_neR K 159 dL_plays_152 (by decide) (fun hq_15 => absurd rfl hq_15) (fun hq_15 => ?_)
              refine r_iconst K (nI 1) dL_plays_155 (by decide) ?_
              refine r_goto K 209 dL_plays_156 (by decide) ?_
              refine r_istore (lv' := [(0, .ref (a 0)), (1, .ref (b 0)), (2, .ref (e 1)), (3, .ref (e 3)), (4, .int xx), (5, .int yy), (6, .int (nI A)), (7, .int (nI B)), (8, .int (nI q1)), (9, .int (nI q2)), (10, .int (nI 1)), (11, .int (nI ((alw S A && alw S B).toNat))), (12, .ref q7), (13, .int (-1000002)), (14, .int (nI 1))]) K dL_plays_209 (by decide) rfl ?_
              refine r_iload K dL_plays_211 rfl ?_
              refine r_if_eq K 284 dL_plays_213 (by decide) (by decide) (fun hq_17 => absurd hq_17 (by decide)) (fun hq_17 => ?_)
              refine r_aload_n K dL_plays_216 rfl ?_
              refine r_iload K dL_plays_217 rfl ?_
              refine r_iload K dL_plays_219 rfl ?_
              refine r_iload K dL_plays_221 rfl ?_
              refine r_iload K dL_plays_223 rfl ?_
              refine r_callT (rest := []) KE (w_play_2 l D b c S hl0 hV h14 B A q2 q1 (by omega) (by omega) (by omega) (by omega) (and_f2 (and_f2 (decide_eq_false (fun q => q hal.symm))))) 5 gL_plays_L_play rfl (by decide +kernel) rfl ⟨⟨Nat.le_of_ble_eq_true rfl, Nat.le_of_ble_eq_true rfl⟩, (by show k3 + 7 + 7 ≤ 800; omega), (by show n3 + 42 + 42 ≤ 5000; omega)⟩ rfl (Nat.le_of_ble_eq_true rfl) dL_plays_225 (fun J18 => ?_)
              refine r_iload K dL_plays_228 rfl ?_
              refine r_sipush K (-1000) dL_plays_230 (by decide) ?_
              refine r_ic_geR K 241 dL_plays_233 (by decide) (fun hq_19 => absurd hq_19 (by decide)) (fun hq_19 => ?_)
              refine r_iload K dL_plays_236 rfl ?_
              refine r_goto K 244 dL_plays_238 (by decide) ?_
              refine r_ic_neR K 284 dL_plays_244 (by decide) (fun hq_20 => absurd rfl hq_20) (fun hq_20 => ?_)
              refine r_aload_n K dL_plays_247 rfl ?_
              refine r_iload K dL_plays_248 rfl ?_
              refine r_iload K dL_plays_250 rfl ?_
              refine r_iconst K (-1) dL_plays_252 (by decide) ?_
              refine r_iload K dL_plays_253 rfl ?_
              refine r_callO (rest := []) KE (x_play_2 l D a c S hl0 hV h14 (nI A) (nI B) (-1) (nI q2) (and_t (inB_nI (by omega) (by omega) (by omega)) (inB_nI (by omega) (by omega) (by omega))) (and_f1 (by decide))) 5 gL_plays_L_play rfl (by decide +kernel) rfl ⟨⟨Nat.le_of_ble_eq_true rfl, Nat.le_of_ble_eq_true rfl⟩, (by show k3 + 14 + 7 ≤ 800; omega), (by show n3 + 84 + 42 ≤ 5000; omega)⟩ rfl (Nat.le_of_ble_eq_true rfl) dL_plays_255 (fun J21 => ?_)
              refine r_ldc K (v := -1000002) (List.mem_of_getElem? (i := 4) rfl) dL_plays_258 ?_
              refine r_ic_neR K 284 dL_plays_260 (by decide) (fun hq_22 => absurd rfl hq_22) (fun hq_22 => ?_)
              refine r_aload_n K dL_plays_263 rfl ?_
              refine r_iload K dL_plays_264 rfl ?_
              refine r_aload_n K dL_plays_266 rfl ?_
              refine r_iconst K (nI 1) dL_plays_267 (by decide) ?_
              refine r_ldZ K 3 (zX_g3 _ _ _ _) (by omega) (by decide) dL_plays_268 ?_
              refine r_top (congrArg nI (show _ = S 3 0 from hg1)) ?_
              refine r_iconst K (-1) dL_plays_269 (by decide) ?_
              refine r_iload K dL_plays_270 rfl ?_
              refine r_callO (rest := []) KE (x_play_1 l D a c S hl0 hV h14 (nI A) (nI (S 3 0)) (-1) (nI q2) (and_f2 (by exact inB_big (by omega) (Int32.le_refl _)))) 5 gL_plays_L_play rfl (by decide +kernel) rfl ⟨⟨Nat.le_of_ble_eq_true rfl, Nat.le_of_ble_eq_true rfl⟩, (by show k3 + 21 + 7 ≤ 800; omega), (by show n3 + 126 + 42 ≤ 5000; omega)⟩ rfl (Nat.le_of_ble_eq_true rfl) dL_plays_272 (fun J23 => ?_)
              refine r_ldc K (v := -1000001) (List.mem_of_getElem? (i := 6) rfl) dL_plays_275 ?_
              refine r_ic_neR K 284 dL_plays_277 (by decide) (fun hq_24 => absurd rfl hq_24) (fun hq_24 => ?_)
              refine r_iconst K (nI 1) dL_plays_280 (by decide) ?_
              refine r_goto K 285 dL_plays_281 (by decide) ?_
              refine r_istore (lv' := [(0, .ref (a 0)), (1, .ref (b 0)), (2, .ref (e 1)), (3, .ref (e 3)), (4, .int xx), (5, .int yy), (6, .int (nI A)), (7, .int (nI B)), (8, .int (nI q1)), (9, .int (nI q2)), (10, .int (nI 1)), (11, .int (nI ((alw S A && alw S B).toNat))), (12, .ref q7), (13, .int (-1000002)), (14, .int (nI 1))]) K dL_plays_285 (by decide) rfl ?_
              refine r_iload K dL_plays_287 rfl ?_
              refine r_if_eq K 300 dL_plays_289 (by decide) (by decide) (fun hq_26 => absurd hq_26 (by decide)) (fun hq_26 => ?_)
              refine r_iload K dL_plays_292 rfl ?_
              refine r_sipush K (-1000) dL_plays_294 (by decide) ?_
              refine r_ic_geR K 303 dL_plays_297 (by decide) (fun hq_27 => absurd hq_27 (by decide)) (fun hq_27 => ?_)
              refine r_iload K dL_plays_300 rfl ?_
              exact hret _ _ _ _ _ 1 (S, J23, J18) _ dL_plays_302 (by decide) ⟨rfl, hI.mono (by omega), hR⟩ (wW_app a b e c S J23 S J18 U _) (by show k3 + 28 ≤ 800; omega) (by show n3 + 168 ≤ 5000; omega)
            ·
              refine r_lv (lv' := [(0, .ref (a 0)), (1, .ref (b 0)), (2, .ref (e 1)), (3, .ref (e 3)), (4, .int xx), (5, .int yy), (6, .int (nI A)), (7, .int (nI B)), (8, .int (nI q1)), (9, .int (nI q2)), (10, .int (nI 0)), (11, .int (nI ((alw S A && alw S B).toNat))), (12, .ref q7), (13, .int (nI i))]) (by rw [decide_eq_false hal]; rfl) ?_
              by_cases hcan : (alw S A && alw S B) = true
              ·
                refine r_lv (lv' := [(0, .ref (a 0)), (1, .ref (b 0)), (2, .ref (e 1)), (3, .ref (e 3)), (4, .int xx), (5, .int yy), (6, .int (nI A)), (7, .int (nI B)), (8, .int (nI q1)), (9, .int (nI q2)), (10, .int (nI 0)), (11, .int (nI 1)), (12, .ref q7), (13, .int (nI i))]) (by rw [hcan]; rfl) ?_
                obtain ⟨hcA, hcB⟩ := Bool.and_eq_true_iff.mp hcan
                refine r_aload_n K dL_plays_129 rfl ?_
                refine r_iload K dL_plays_130 rfl ?_
                refine r_iload K dL_plays_132 rfl ?_
                refine r_iload K dL_plays_134 rfl ?_
                refine r_iload K dL_plays_136 rfl ?_
                refine r_callO (rest := []) KE (w_play_0 l D a c S hl0 hV h14 A B q1 q2 (by omega) (by omega) (by omega) (by omega) hal hcA hcB) 5 gL_plays_L_play rfl (by decide +kernel) rfl ⟨⟨Nat.le_of_ble_eq_true rfl, Nat.le_of_ble_eq_true rfl⟩, (by show k3 + 7 ≤ 800; omega), (by show n3 + 42 ≤ 5000; omega)⟩ rfl (Nat.le_of_ble_eq_true rfl) dL_plays_138 (fun J28 => ?_)
                obtain ⟨ga, hga⟩ : ∃ z, z = (gmF S A B q1 q2).1 := ⟨_, rfl⟩
                obtain ⟨gc, hgc⟩ : ∃ z, z = (gmF S A B q1 q2).2.2.1 := ⟨_, rfl⟩
                have hgl := gmF_le S A B q1 q2
                rw [← hga, ← hgc] at hgl
                obtain ⟨S1, hS1⟩ : ∃ X : St, X = wonS S A B ga gc := ⟨_, rfl⟩
                obtain ⟨dd, hdd⟩ : ∃ z : Int32, z = nI ga - nI gc := ⟨_, rfl⟩
                have hI1 : Inv (m + 1) S1 := by rw [hS1]; exact inv_won hI A B ga gc
                have hV1 := hI1.V (by omega)
                have h141 := hI1.small (show m + 1 ≤ 600 by omega) 14
                have e1 : ∀ f, f ≠ 14 → S1 f = S f := fun f hf => by rw [hS1]; exact won_ne hf
                have hR1 : Rel S1 U := hR.cong e1
                have e3 : S1 3 0 = S 3 0 := by rw [e1 3 (by decide)]
                have e31 : S1 3 1 = S 3 1 := by rw [e1 3 (by decide)]
                have hdz := dm_z (show ga ≤ 20 by omega) (show gc ≤ 20 by omega)
                rw [← hdd] at hdz
                have hdk := dm_k (show ga ≤ 20 by omega) (show gc ≤ 20 by omega)
                rw [← hdd] at hdk
                refine r_w (ws' := wW a b e c S1 J28 S K2 U [(q7, .inl (c 0, 16, .inl (ar f)))]) (by rw [hS1, hga, hgc]) ?_
                refine r_top (show _ = dd from by rw [hdd, hga, hgc]) ?_
                refine r_istore (lv' := [(0, .ref (a 0)), (1, .ref (b 0)), (2, .ref (e 1)), (3, .ref (e 3)), (4, .int xx), (5, .int yy), (6, .int (nI A)), (7, .int (nI B)), (8, .int (nI q1)), (9, .int (nI q2)), (10, .int (nI 0)), (11, .int (nI 1)), (12, .ref q7), (13, .int dd)]) K dL_plays_141 (by decide) rfl ?_
                refine r_iload K dL_plays_143 rfl ?_
                refine r_if_eq K 163 dL_plays_145 (by decide) (by decide) (fun hq_30 => ?_) (fun hq_30 => absurd hq_30 (by decide))
                refine r_iload K dL_plays_163 rfl ?_
                refine r_if_eq K 197 dL_plays_165 (by decide) (by decide) (fun hq_32 => absurd hq_32 (by decide)) (fun hq_32 => ?_)
                refine r_iload K dL_plays_168 rfl ?_
                refine r_bipush K (-2) dL_plays_170 (by decide) ?_
                refine r_aload_n K dL_plays_172 rfl ?_
                refine r_iconst K (nI 3) dL_plays_173 (by decide) ?_
                refine r_ldZ K 3 (zX_g3 _ _ _ _) (by omega) (by decide) dL_plays_174 ?_
                refine r_top (congrArg nI (show _ = S 3 1 from hg3)) ?_
                refine r_imulR K dL_plays_175 ?_
                refine r_ic_ltR K 193 dL_plays_176 (by decide) (fun hq_33 => absurd hq_33 (by rw [hdd]; exact dm_lo hgl.1 hgl.2 (by omega))) (fun hq_33 => ?_)
                refine r_iload K dL_plays_179 rfl ?_
                refine r_iconst K (nI 2) dL_plays_181 (by decide) ?_
                refine r_aload_n K dL_plays_182 rfl ?_
                refine r_iconst K (nI 3) dL_plays_183 (by decide) ?_
                refine r_ldZ K 3 (zX_g3 _ _ _ _) (by omega) (by decide) dL_plays_184 ?_
                refine r_top (congrArg nI (show _ = S 3 1 from hg3)) ?_
                refine r_imul K dL_plays_185 ?_
                refine r_ic_gtR K 193 dL_plays_186 (by decide) (fun hq_34 => absurd hq_34 (by rw [hdd]; exact dm_hi hgl.1 hgl.2 (by omega))) (fun hq_34 => ?_)
                refine r_iconst K (nI 1) dL_plays_189 (by decide) ?_
                refine r_goto K 209 dL_plays_190 (by decide) ?_
                refine r_istore (lv' := [(0, .ref (a 0)), (1, .ref (b 0)), (2, .ref (e 1)), (3, .ref (e 3)), (4, .int xx), (5, .int yy), (6, .int (nI A)), (7, .int (nI B)), (8, .int (nI q1)), (9, .int (nI q2)), (10, .int (nI 0)), (11, .int (nI 1)), (12, .ref q7), (13, .int dd), (14, .int (nI 1))]) K dL_plays_209 (by decide) rfl ?_
                refine r_iload K dL_plays_211 rfl ?_
                refine r_if_eq K 284 dL_plays_213 (by decide) (by decide) (fun hq_36 => absurd hq_36 (by decide)) (fun hq_36 => ?_)
                refine r_aload_n K dL_plays_216 rfl ?_
                refine r_iload K dL_plays_217 rfl ?_
                refine r_iload K dL_plays_219 rfl ?_
                refine r_iload K dL_plays_221 rfl ?_
                refine r_iload K dL_plays_223 rfl ?_
                refine r_callT (rest := []) KE (w_play_0 l D b c S hl0 hV h14 B A q2 q1 (by omega) (by omega) (by omega) (by omega) (fun q => hal q.symm) hcB hcA) 5 gL_plays_L_play rfl (by decide +kernel) rfl ⟨⟨Nat.le_of_ble_eq_true rfl, Nat.le_of_ble_eq_true rfl⟩, (by show k3 + 7 + 7 ≤ 800; omega), (by show n3 + 42 + 42 ≤ 5000; omega)⟩ rfl (Nat.le_of_ble_eq_true rfl) dL_plays_225 (fun J37 => ?_)
                have hsw := gmF_sw S A B q1 q2
                refine r_w (ws' := wW a b e c S1 J28 S1 J37 U [(q7, .inl (c 0, 16, .inl (ar f)))]) (by rw [hsw.1, hsw.2, wonS_sw, hS1, hga, hgc]) ?_
                refine r_top (show _ = nI gc - nI ga from by rw [hsw.1, hsw.2, hga, hgc]) ?_
                refine r_iload K dL_plays_228 rfl ?_
                refine r_sipush K (-1000) dL_plays_230 (by decide) ?_
                refine r_ic_geR K 241 dL_plays_233 (by decide) (fun hq_38 => ?_) (fun hq_38 => absurd hdk hq_38)
                refine r_iload K dL_plays_241 rfl ?_
                refine r_inegR K dL_plays_243 ?_
                refine r_ic_neR K 284 dL_plays_244 (by decide) (fun hq_39 => absurd (by rw [hdd, Int32.neg_sub]) hq_39) (fun hq_39 => ?_)
                refine r_aload_n K dL_plays_247 rfl ?_
                refine r_iload K dL_plays_248 rfl ?_
                refine r_iload K dL_plays_250 rfl ?_
                refine r_iconst K (-1) dL_plays_252 (by decide) ?_
                refine r_iload K dL_plays_253 rfl ?_
                refine r_callO (rest := []) KE (x_play_2 l D a c S1 hl0 hV1 h141 (nI A) (nI B) (-1) (nI q2) (and_t (inB_nI (by omega) (by omega) (by omega)) (inB_nI (by omega) (by omega) (by omega))) (and_f1 (by decide))) 5 gL_plays_L_play rfl (by decide +kernel) rfl ⟨⟨Nat.le_of_ble_eq_true rfl, Nat.le_of_ble_eq_true rfl⟩, (by show k3 + 14 + 7 ≤ 800; omega), (by show n3 + 84 + 42 ≤ 5000; omega)⟩ rfl (Nat.le_of_ble_eq_true rfl) dL_plays_255 (fun J40 => ?_)
                refine r_ldc K (v := -1000002) (List.mem_of_getElem? (i := 4) rfl) dL_plays_258 ?_
                refine r_ic_neR K 284 dL_plays_260 (by decide) (fun hq_41 => absurd rfl hq_41) (fun hq_41 => ?_)
                refine r_aload_n K dL_plays_263 rfl ?_
                refine r_iload K dL_plays_264 rfl ?_
                refine r_aload_n K dL_plays_266 rfl ?_
                refine r_iconst K (nI 1) dL_plays_267 (by decide) ?_
                refine r_ldZ K 3 (zX_g3 _ _ _ _) (by omega) (by decide) dL_plays_268 ?_
                refine r_top (congrArg nI (show _ = S 3 0 from hg1)) ?_
                refine r_iconst K (-1) dL_plays_269 (by decide) ?_
                refine r_iload K dL_plays_270 rfl ?_
                refine r_callO (rest := []) KE (x_play_1 l D a c S1 hl0 hV1 h141 (nI A) (nI (S 3 0)) (-1) (nI q2) (and_f2 (by rw [e3]; exact inB_big (by omega) (Int32.le_refl _)))) 5 gL_plays_L_play rfl (by decide +kernel) rfl ⟨⟨Nat.le_of_ble_eq_true rfl, Nat.le_of_ble_eq_true rfl⟩, (by show k3 + 21 + 7 ≤ 800; omega), (by show n3 + 126 + 42 ≤ 5000; omega)⟩ rfl (Nat.le_of_ble_eq_true rfl) dL_plays_272 (fun J42 => ?_)
                refine r_ldc K (v := -1000001) (List.mem_of_getElem? (i := 6) rfl) dL_plays_275 ?_
                refine r_ic_neR K 284 dL_plays_277 (by decide) (fun hq_43 => absurd rfl hq_43) (fun hq_43 => ?_)
                refine r_iconst K (nI 1) dL_plays_280 (by decide) ?_
                refine r_goto K 285 dL_plays_281 (by decide) ?_
                refine r_istore (lv' := [(0, .ref (a 0)), (1, .ref (b 0)), (2, .ref (e 1)), (3, .ref (e 3)), (4, .int xx), (5, .int yy), (6, .int (nI A)), (7, .int (nI B)), (8, .int (nI q1)), (9, .int (nI q2)), (10, .int (nI 0)), (11, .int (nI 1)), (12, .ref q7), (13, .int dd), (14, .int (nI 1))]) K dL_plays_285 (by decide) rfl ?_
                refine r_iload K dL_plays_287 rfl ?_
                refine r_if_eq K 300 dL_plays_289 (by decide) (by decide) (fun hq_45 => absurd hq_45 (by decide)) (fun hq_45 => ?_)
                refine r_iload K dL_plays_292 rfl ?_
                refine r_sipush K (-1000) dL_plays_294 (by decide) ?_
                refine r_ic_geR K 303 dL_plays_297 (by decide) (fun hq_46 => ?_) (fun hq_46 => absurd hdk hq_46)
                obtain ⟨wd, hwd⟩ : ∃ z, z = if gc < ga then A else B := ⟨_, rfl⟩
                have hle := sub_le (show ga < 2 ^ 30 by omega) (show gc < 2 ^ 30 by omega)
                rw [← hdd] at hle
                have bwd : wd < S 3 0 := by rw [hwd]; split <;> assumption
                have hcw : alw S wd = true := by rw [hwd]; split <;> assumption
                have hsw9 := alw_sz hcw
                have e19 : S1 19 wd = S 3 1 := by rw [e1 19 (by decide)]; exact hsw9
                have HM47 : ∀ (k4 : Nat) (n4 : Nat) (J4 : St) (K4 : St), (k4 ≤ 60) → (n4 ≤ 360) → G k4 n4 (wW a b e c S1 J4 S1 K4 U [(q7, .inl (c 0, 16, .inl (ar f)))]) [(0, .ref (a 0)), (1, .ref (b 0)), (2, .ref (e 1)), (3, .ref (e 3)), (4, .int xx), (5, .int yy), (6, .int (nI A)), (7, .int (nI B)), (8, .int (nI q1)), (9, .int (nI q2)), (10, .int (nI 0)), (11, .int (nI 1)), (12, .ref q7), (13, .int dd), (14, .int (nI 1))] 315 [.int (nI wd)] := by
                  intro k4 n4 J4 K4 hk4 hn4
                  refine r_istore (lv' := [(0, .ref (a 0)), (1, .ref (b 0)), (2, .ref (e 1)), (3, .ref (e 3)), (4, .int xx), (5, .int yy), (6, .int (nI A)), (7, .int (nI B)), (8, .int (nI q1)), (9, .int (nI q2)), (10, .int (nI 0)), (11, .int (nI 1)), (12, .ref q7), (13, .int dd), (14, .int (nI 1)), (15, .int (nI wd))]) K dL_plays_315 (by decide) rfl ?_
                  refine r_iconst K (nI 0) dL_plays_317 (by decide) ?_
                  refine r_istore (lv' := [(0, .ref (a 0)), (1, .ref (b 0)), (2, .ref (e 1)), (3, .ref (e 3)), (4, .int xx), (5, .int yy), (6, .int (nI A)), (7, .int (nI B)), (8, .int (nI q1)), (9, .int (nI q2)), (10, .int (nI 0)), (11, .int (nI 1)), (12, .ref q7), (13, .int dd), (14, .int (nI 1)), (15, .int (nI wd)), (16, .int (nI 0))]) K dL_plays_318 (by decide) rfl ?_
                  have LB48 : ∀ (z49 : Nat) (u : Nat) (k5 : Nat) (n5 : Nat) (J5 : St) (K5 : St), 16 - u < z49 → (u ≤ 16) → (k5 ≤ 60 + 42 * u) → (n5 ≤ 360 + 252 * u) → G k5 n5 (wW a b e c S1 J5 S1 K5 U [(q7, .inl (c 0, 16, .inl (ar f)))]) [(0, .ref (a 0)), (1, .ref (b 0)), (2, .ref (e 1)), (3, .ref (e 3)), (4, .int xx), (5, .int yy), (6, .int (nI A)), (7, .int (nI B)), (8, .int (nI q1)), (9, .int (nI q2)), (10, .int (nI 0)), (11, .int (nI 1)), (12, .ref q7), (13, .int dd), (14, .int (nI 1)), (15, .int (nI wd)), (16, .int (nI u))] 320 [] := by
                    intro z49
                    induction z49 with
                    | zero => intro u k5 n5 J5 K5 hz hu hk5 hn5; exact absurd hz (by omega)
                    | succ z49 ih50 =>
                      intro u k5 n5 J5 K5 hz hu hk5 hn5
                      refine r_iload K dL_plays_320 rfl ?_
                      refine r_bipush K (nI 16) dL_plays_322 (by decide) ?_
                      refine r_ic_ge K 433 dL_plays_324 (by decide) (by omega) (by decide) (fun hq_51 => ?_) (fun hq_51 => ?_)
                      ·
                        refine r_iload K dL_plays_433 rfl ?_
                        exact hret _ _ _ _ _ 1 (S1, J5, K5) _ dL_plays_435 (by decide) ⟨rfl, hI1, hR1⟩ (wW_app a b e c S1 J5 S1 K5 U _) (by show k5 ≤ 800; omega) (by show n5 ≤ 5000; omega)
                      ·
                        refine r_iconst K (nI 0) dL_plays_327 (by decide) ?_
                        refine r_istore (lv' := [(0, .ref (a 0)), (1, .ref (b 0)), (2, .ref (e 1)), (3, .ref (e 3)), (4, .int xx), (5, .int yy), (6, .int (nI A)), (7, .int (nI B)), (8, .int (nI q1)), (9, .int (nI q2)), (10, .int (nI 0)), (11, .int (nI 1)), (12, .ref q7), (13, .int dd), (14, .int (nI 1)), (15, .int (nI wd)), (16, .int (nI u)), (17, .int (nI 0))]) K dL_plays_328 (by decide) rfl ?_
                        refine r_iconst K (nI 0) dL_plays_330 (by decide) ?_
                        refine r_istore (lv' := [(0, .ref (a 0)), (1, .ref (b 0)), (2, .ref (e 1)), (3, .ref (e 3)), (4, .int xx), (5, .int yy), (6, .int (nI A)), (7, .int (nI B)), (8, .int (nI q1)), (9, .int (nI q2)), (10, .int (nI 0)), (11, .int (nI 1)), (12, .ref q7), (13, .int dd), (14, .int (nI 1)), (15, .int (nI wd)), (16, .int (nI u)), (17, .int (nI 0)), (18, .int (nI 0))]) K dL_plays_331 (by decide) rfl ?_
                        have hu2 : u < 16 := by omega
                        have LC52 : ∀ (z53 : Nat) (v : Nat) (k6 : Nat) (n6 : Nat) (J6 : St), 11 - v < z53 → (v ≤ S 3 1) → (dd = 0 → v = 0) → (k6 ≤ 60 + 42 * u + 4 * v) → (n6 ≤ 360 + 252 * u + 24 * v) → G k6 n6 (wW a b e c S1 J6 S1 K5 U [(q7, .inl (c 0, 16, .inl (ar f)))]) [(0, .ref (a 0)), (1, .ref (b 0)), (2, .ref (e 1)), (3, .ref (e 3)), (4, .int xx), (5, .int yy), (6, .int (nI A)), (7, .int (nI B)), (8, .int (nI q1)), (9, .int (nI q2)), (10, .int (nI 0)), (11, .int (nI 1)), (12, .ref q7), (13, .int dd), (14, .int (nI 1)), (15, .int (nI wd)), (16, .int (nI u)), (17, .int (nI (mrN S1 wd u v))), (18, .int (nI v))] 333 [] := by
                          intro z53
                          induction z53 with
                          | zero => intro v k6 n6 J6 hz hv hv0 hk6 hn6; exact absurd hz (by omega)
                          | succ z53 ih54 =>
                            intro v k6 n6 J6 hz hv hv0 hk6 hn6
                            refine r_iload K dL_plays_333 rfl ?_
                            refine r_aload_n K dL_plays_335 rfl ?_
                            refine r_iconst K (nI 3) dL_plays_336 (by decide) ?_
                            refine r_ldZ K 3 (zX_g3 _ _ _ _) (by omega) (by decide) dL_plays_337 ?_
                            refine r_top (congrArg nI (show _ = S 3 1 from hg3)) ?_
                            refine r_ic_ge K 381 dL_plays_338 (by decide) (by omega) (by omega) (fun hq_55 => ?_) (fun hq_55 => ?_)
                            ·
                              have hne : dd ≠ 0 := fun q => by have := hv0 q; omega
                              have ev : v = S1 19 wd := by omega
                              have hmr : S1 14 u = S 14 u + mrN S1 wd u v := by rw [ev, mr_all, mo_cong (e1 15 (by decide)) (e1 19 (by decide)) (e1 (30 + wd) (by omega)), hS1]; exact won_14 (fun q => hne (hdz.mpr q)) hwd hu2
                              have b14 := V_b hV1 14 u
                              refine r_iload K dL_plays_381 rfl ?_
                              refine r_if_eq K 424 dL_plays_383 (by decide) (by decide) (fun hq_57 => absurd hq_57 (by decide)) (fun hq_57 => ?_)
                              refine r_aload_n K dL_plays_386 rfl ?_
                              refine r_iload K dL_plays_387 rfl ?_
                              refine r_callO (rest := []) KE (w_wins_0 l D a c S1 hl0 hV1  u (by omega)) 2 gL_plays_L_wins rfl (by decide +kernel) rfl ⟨⟨Nat.le_of_ble_eq_true rfl, Nat.le_of_ble_eq_true rfl⟩, (by show k6 + 1 ≤ 800; omega), (by show n6 + 6 ≤ 5000; omega)⟩ rfl (Nat.le_of_ble_eq_true rfl) dL_plays_389 (fun J58 => ?_)
                              refine r_aload K dL_plays_392 rfl ?_
                              refine r_iload K dL_plays_394 rfl ?_
                              refine r_ldZ (g := f) K 4 rfl (by omega) (by decide) dL_plays_396 ?_
                              refine r_top (congrArg nI (show _ = S 14 u from hf _ (by omega))) ?_
                              refine r_iload K dL_plays_397 rfl ?_
                              refine r_iadd K dL_plays_399 ?_
                              refine r_ic_ne K 424 dL_plays_400 (by decide) (by omega) (by omega) (fun hq_59 => by omega) (fun hq_59 => ?_)
                              refine r_aload_n K dL_plays_403 rfl ?_
                              refine r_iload K dL_plays_404 rfl ?_
                              refine r_callT (rest := []) KE (w_wins_0 l D b c S1 hl0 hV1  u (by omega)) 2 gL_plays_L_wins rfl (by decide +kernel) rfl ⟨⟨Nat.le_of_ble_eq_true rfl, Nat.le_of_ble_eq_true rfl⟩, (by show k6 + 1 + 1 ≤ 800; omega), (by show n6 + 6 + 6 ≤ 5000; omega)⟩ rfl (Nat.le_of_ble_eq_true rfl) dL_plays_406 (fun J60 => ?_)
                              refine r_aload K dL_plays_409 rfl ?_
                              refine r_iload K dL_plays_411 rfl ?_
                              refine r_ldZ (g := f) K 4 rfl (by omega) (by decide) dL_plays_413 ?_
                              refine r_top (congrArg nI (show _ = S 14 u from hf _ (by omega))) ?_
                              refine r_iload K dL_plays_414 rfl ?_
                              refine r_iadd K dL_plays_416 ?_
                              refine r_ic_ne K 424 dL_plays_417 (by decide) (by omega) (by omega) (fun hq_61 => by omega) (fun hq_61 => ?_)
                              refine r_iconst K (nI 1) dL_plays_420 (by decide) ?_
                              refine r_goto K 425 dL_plays_421 (by decide) ?_
                              refine r_istore (lv' := [(0, .ref (a 0)), (1, .ref (b 0)), (2, .ref (e 1)), (3, .ref (e 3)), (4, .int xx), (5, .int yy), (6, .int (nI A)), (7, .int (nI B)), (8, .int (nI q1)), (9, .int (nI q2)), (10, .int (nI 0)), (11, .int (nI 1)), (12, .ref q7), (13, .int dd), (14, .int (nI 1)), (15, .int (nI wd)), (16, .int (nI u)), (17, .int (nI (mrN S1 wd u v))), (18, .int (nI v))]) K dL_plays_425 (by decide) rfl ?_
                              refine r_iinc (lv' := [(0, .ref (a 0)), (1, .ref (b 0)), (2, .ref (e 1)), (3, .ref (e 3)), (4, .int xx), (5, .int yy), (6, .int (nI A)), (7, .int (nI B)), (8, .int (nI q1)), (9, .int (nI q2)), (10, .int (nI 0)), (11, .int (nI 1)), (12, .ref q7), (13, .int dd), (14, .int (nI 1)), (15, .int (nI wd)), (16, .int (nI (u + 1))), (17, .int (nI (mrN S1 wd u v))), (18, .int (nI v))]) K dL_plays_427 rfl (nI_1 _) (by decide) rfl ?_
                              refine r_goto K 320 dL_plays_430 (by decide) ?_
                              refine r_pick [0, 1, 2, 3, 4, 5, 6, 7, 8, 9, 10, 11, 12, 13, 14, 15, 16] K rfl ?_
                              exact ih50 (u + 1) _ _ _ _ (by omega) (by omega) (by show k6 + 2 ≤ _; omega) (by show n6 + 12 ≤ _; omega)
                            ·
                              refine r_iload K dL_plays_341 rfl ?_
                              refine r_if_eqR K 381 dL_plays_343 (by decide) (fun hq_62 => ?_) (fun hq_62 => ?_)
                              ·
                                have hmr : S1 14 u = S 14 u + mrN S1 wd u v := by rw [hv0 hq_62, hS1, ← hdz.mp hq_62, won_same]; rfl
                                have b14 := V_b hV1 14 u
                                refine r_iload K dL_plays_381 rfl ?_
                                refine r_if_eq K 424 dL_plays_383 (by decide) (by decide) (fun hq_64 => absurd hq_64 (by decide)) (fun hq_64 => ?_)
                                refine r_aload_n K dL_plays_386 rfl ?_
                                refine r_iload K dL_plays_387 rfl ?_
                                refine r_callO (rest := []) KE (w_wins_0 l D a c S1 hl0 hV1  u (by omega)) 2 gL_plays_L_wins rfl (by decide +kernel) rfl ⟨⟨Nat.le_of_ble_eq_true rfl, Nat.le_of_ble_eq_true rfl⟩, (by show k6 + 1 ≤ 800; omega), (by show n6 + 6 ≤ 5000; omega)⟩ rfl (Nat.le_of_ble_eq_true rfl) dL_plays_389 (fun J65 => ?_)
                                refine r_aload K dL_plays_392 rfl ?_
                                refine r_iload K dL_plays_394 rfl ?_
                                refine r_ldZ (g := f) K 4 rfl (by omega) (by decide) dL_plays_396 ?_
                                refine r_top (congrArg nI (show _ = S 14 u from hf _ (by omega))) ?_
                                refine r_iload K dL_plays_397 rfl ?_
                                refine r_iadd K dL_plays_399 ?_
                                refine r_ic_ne K 424 dL_plays_400 (by decide) (by omega) (by omega) (fun hq_66 => by omega) (fun hq_66 => ?_)
                                refine r_aload_n K dL_plays_403 rfl ?_
                                refine r_iload K dL_plays_404 rfl ?_
                                refine r_callT (rest := []) KE (w_wins_0 l D b c S1 hl0 hV1  u (by omega)) 2 gL_plays_L_wins rfl (by decide +kernel) rfl ⟨⟨Nat.le_of_ble_eq_true rfl, Nat.le_of_ble_eq_true rfl⟩, (by show k6 + 1 + 1 ≤ 800; omega), (by show n6 + 6 + 6 ≤ 5000; omega)⟩ rfl (Nat.le_of_ble_eq_true rfl) dL_plays_406 (fun J67 => ?_)
                                refine r_aload K dL_plays_409 rfl ?_
                                refine r_iload K dL_plays_411 rfl ?_
                                refine r_ldZ (g := f) K 4 rfl (by omega) (by decide) dL_plays_413 ?_
                                refine r_top (congrArg nI (show _ = S 14 u from hf _ (by omega))) ?_
                                refine r_iload K dL_plays_414 rfl ?_
                                refine r_iadd K dL_plays_416 ?_
                                refine r_ic_ne K 424 dL_plays_417 (by decide) (by omega) (by omega) (fun hq_68 => by omega) (fun hq_68 => ?_)
                                refine r_iconst K (nI 1) dL_plays_420 (by decide) ?_
                                refine r_goto K 425 dL_plays_421 (by decide) ?_
                                refine r_istore (lv' := [(0, .ref (a 0)), (1, .ref (b 0)), (2, .ref (e 1)), (3, .ref (e 3)), (4, .int xx), (5, .int yy), (6, .int (nI A)), (7, .int (nI B)), (8, .int (nI q1)), (9, .int (nI q2)), (10, .int (nI 0)), (11, .int (nI 1)), (12, .ref q7), (13, .int dd), (14, .int (nI 1)), (15, .int (nI wd)), (16, .int (nI u)), (17, .int (nI (mrN S1 wd u v))), (18, .int (nI v))]) K dL_plays_425 (by decide) rfl ?_
                                refine r_iinc (lv' := [(0, .ref (a 0)), (1, .ref (b 0)), (2, .ref (e 1)), (3, .ref (e 3)), (4, .int xx), (5, .int yy), (6, .int (nI A)), (7, .int (nI B)), (8, .int (nI q1)), (9, .int (nI q2)), (10, .int (nI 0)), (11, .int (nI 1)), (12, .ref q7), (13, .int dd), (14, .int (nI 1)), (15, .int (nI wd)), (16, .int (nI (u + 1))), (17, .int (nI (mrN S1 wd u v))), (18, .int (nI v))]) K dL_plays_427 rfl (nI_1 _) (by decide) rfl ?_
                                refine r_goto K 320 dL_plays_430 (by decide) ?_
                                refine r_pick [0, 1, 2, 3, 4, 5, 6, 7, 8, 9, 10, 11, 12, 13, 14, 15, 16] K rfl ?_
                                exact ih50 (u + 1) _ _ _ _ (by omega) (by omega) (by show k6 + 2 ≤ _; omega) (by show n6 + 12 ≤ _; omega)
                              ·
                                have hv2 : v < S1 19 wd := by omega
                                have hcd := rel_shuf hR1 (d := wd) (s := 0) (by omega) hv2
                                have h16 := rel_no_le hR1 hcd
                                have h15 := V_kind hV1 (shuf S1 wd 0 v)
                                refine r_aload_n K dL_plays_346 rfl ?_
                                refine r_aload_n K dL_plays_347 rfl ?_
                                refine r_iload K dL_plays_348 rfl ?_
                                refine r_iconst K (nI 0) dL_plays_350 (by decide) ?_
                                refine r_iload K dL_plays_351 rfl ?_
                                refine r_callO (rest := [.ref (a 0)]) KE (w_shuffled_0 l D a c S1 hl0 hV1  wd 0 v (by omega) (by omega) (by omega)) 4 gL_plays_L_shuffled rfl (by decide +kernel) rfl ⟨⟨Nat.le_of_ble_eq_true rfl, Nat.le_of_ble_eq_true rfl⟩, (by show k6 + 3 ≤ 800; omega), (by show n6 + 18 ≤ 5000; omega)⟩ rfl (Nat.le_of_ble_eq_true rfl) dL_plays_353 (fun J69 => ?_)
                                refine r_callO (rest := []) KE (w_printOf_0 l D a c S1 hl0 hV1  (shuf S1 wd 0 v) (by omega)) 2 gL_plays_L_printOf rfl (by decide +kernel) rfl ⟨⟨Nat.le_of_ble_eq_true rfl, Nat.le_of_ble_eq_true rfl⟩, (by show k6 + 3 + 1 ≤ 800; omega), (by show n6 + 18 + 6 ≤ 5000; omega)⟩ rfl (Nat.le_of_ble_eq_true rfl) dL_plays_356 (fun J70 => ?_)
                                refine r_bipush K (nI 100) dL_plays_359 (by decide) ?_
                                refine r_idiv K dL_plays_361 (by omega) (by omega) (by omega) ?_
                                refine r_top (congrArg nI (show _ = S1 15 (shuf S1 wd 0 v) from (by omega))) ?_
                                refine r_iload K dL_plays_362 rfl ?_
                                refine r_ic_ne K 371 dL_plays_364 (by decide) (by omega) (by omega) (fun hq_71 => ?_) (fun hq_71 => ?_)
                                ·
                                  refine r_iload K dL_plays_371 rfl ?_
                                  refine r_top (congrArg nI (show _ = mrN S1 wd u (v + 1) from (mr_n hq_71).symm)) ?_
                                  refine r_istore (lv' := [(0, .ref (a 0)), (1, .ref (b 0)), (2, .ref (e 1)), (3, .ref (e 3)), (4, .int xx), (5, .int yy), (6, .int (nI A)), (7, .int (nI B)), (8, .int (nI q1)), (9, .int (nI q2)), (10, .int (nI 0)), (11, .int (nI 1)), (12, .ref q7), (13, .int dd), (14, .int (nI 1)), (15, .int (nI wd)), (16, .int (nI u)), (17, .int (nI (mrN S1 wd u (v + 1)))), (18, .int (nI v))]) K dL_plays_373 (by decide) rfl ?_
                                  refine r_iinc (lv' := [(0, .ref (a 0)), (1, .ref (b 0)), (2, .ref (e 1)), (3, .ref (e 3)), (4, .int xx), (5, .int yy), (6, .int (nI A)), (7, .int (nI B)), (8, .int (nI q1)), (9, .int (nI q2)), (10, .int (nI 0)), (11, .int (nI 1)), (12, .ref q7), (13, .int dd), (14, .int (nI 1)), (15, .int (nI wd)), (16, .int (nI u)), (17, .int (nI (mrN S1 wd u (v + 1)))), (18, .int (nI (v + 1)))]) K dL_plays_375 rfl (nI_1 _) (by decide) rfl ?_
                                  refine r_goto K 333 dL_plays_378 (by decide) ?_
                                  exact ih54 (v + 1) _ _ _ (by omega) (by omega) (fun q => absurd q hq_62) (by show k6 + 4 ≤ _; omega) (by show n6 + 24 ≤ _; omega)
                                ·
                                  refine r_iconst K (nI 1) dL_plays_367 (by decide) ?_
                                  refine r_top (congrArg nI (show _ = mrN S1 wd u (v + 1) from (mr_y hq_71).symm)) ?_
                                  refine r_goto K 373 dL_plays_368 (by decide) ?_
                                  refine r_istore (lv' := [(0, .ref (a 0)), (1, .ref (b 0)), (2, .ref (e 1)), (3, .ref (e 3)), (4, .int xx), (5, .int yy), (6, .int (nI A)), (7, .int (nI B)), (8, .int (nI q1)), (9, .int (nI q2)), (10, .int (nI 0)), (11, .int (nI 1)), (12, .ref q7), (13, .int dd), (14, .int (nI 1)), (15, .int (nI wd)), (16, .int (nI u)), (17, .int (nI (mrN S1 wd u (v + 1)))), (18, .int (nI v))]) K dL_plays_373 (by decide) rfl ?_
                                  refine r_iinc (lv' := [(0, .ref (a 0)), (1, .ref (b 0)), (2, .ref (e 1)), (3, .ref (e 3)), (4, .int xx), (5, .int yy), (6, .int (nI A)), (7, .int (nI B)), (8, .int (nI q1)), (9, .int (nI q2)), (10, .int (nI 0)), (11, .int (nI 1)), (12, .ref q7), (13, .int dd), (14, .int (nI 1)), (15, .int (nI wd)), (16, .int (nI u)), (17, .int (nI (mrN S1 wd u (v + 1)))), (18, .int (nI (v + 1)))]) K dL_plays_375 rfl (nI_1 _) (by decide) rfl ?_
                                  refine r_goto K 333 dL_plays_378 (by decide) ?_
                                  exact ih54 (v + 1) _ _ _ (by omega) (by omega) (fun q => absurd q hq_62) (by show k6 + 4 ≤ _; omega) (by show n6 + 24 ≤ _; omega)
                        exact LC52 12 0 _ _ _ (by omega) (Nat.zero_le _) (fun _ => rfl) (by show k5 ≤ _; omega) (by show n5 ≤ _; omega)
                  exact LB48 17 0 _ _ _ _ (by omega) (Nat.zero_le _) (by show k4 ≤ _; omega) (by show n4 ≤ _; omega)
                refine r_iload K dL_plays_303 rfl ?_
                refine r_if_leR K 313 dL_plays_305 (by decide) (fun hq_72 => ?_) (fun hq_72 => ?_)
                ·
                  refine r_iload K dL_plays_313 rfl ?_
                  refine r_top (congrArg nI (show _ = wd from (by rw [hwd, if_neg (Nat.not_lt.mpr (hle.mp hq_72))]))) ?_
                  exact HM47 _ _ _ _ (by show k3 + 28 ≤ _; omega) (by show n3 + 168 ≤ _; omega)
                ·
                  refine r_iload K dL_plays_308 rfl ?_
                  refine r_top (congrArg nI (show _ = wd from (by rw [hwd, if_pos (Nat.lt_of_not_le (fun q => hq_72 (hle.mpr q)))]))) ?_
                  refine r_goto K 315 dL_plays_310 (by decide) ?_
                  exact HM47 _ _ _ _ (by show k3 + 28 ≤ _; omega) (by show n3 + 168 ≤ _; omega)
              ·
                have hcan : (alw S A && alw S B) = false := by cases hz : (alw S A && alw S B) <;> simp_all
                refine r_lv (lv' := [(0, .ref (a 0)), (1, .ref (b 0)), (2, .ref (e 1)), (3, .ref (e 3)), (4, .int xx), (5, .int yy), (6, .int (nI A)), (7, .int (nI B)), (8, .int (nI q1)), (9, .int (nI q2)), (10, .int (nI 0)), (11, .int (nI 0)), (12, .ref q7), (13, .int (nI i))]) (by rw [hcan]; rfl) ?_
                refine r_aload_n K dL_plays_129 rfl ?_
                refine r_iload K dL_plays_130 rfl ?_
                refine r_iload K dL_plays_132 rfl ?_
                refine r_iload K dL_plays_134 rfl ?_
                refine r_iload K dL_plays_136 rfl ?_
                refine r_callO (rest := []) KE (w_play_3 l D a c S hl0 hV h14 A B q1 q2 (by omega) (by omega) (by omega) (by omega) hal hcan) 5 gL_plays_L_play rfl (by decide +kernel) rfl ⟨⟨Nat.le_of_ble_eq_true rfl, Nat.le_of_ble_eq_true rfl⟩, (by show k3 + 7 ≤ 800; omega), (by show n3 + 42 ≤ 5000; omega)⟩ rfl (Nat.le_of_ble_eq_true rfl) dL_plays_138 (fun J73 => ?_)
                refine r_istore (lv' := [(0, .ref (a 0)), (1, .ref (b 0)), (2, .ref (e 1)), (3, .ref (e 3)), (4, .int xx), (5, .int yy), (6, .int (nI A)), (7, .int (nI B)), (8, .int (nI q1)), (9, .int (nI q2)), (10, .int (nI 0)), (11, .int (nI 0)), (12, .ref q7), (13, .int (-1000003))]) K dL_plays_141 (by decide) rfl ?_
                refine r_iload K dL_plays_143 rfl ?_
                refine r_if_eq K 163 dL_plays_145 (by decide) (by decide) (fun hq_75 => ?_) (fun hq_75 => absurd hq_75 (by decide))
                refine r_iload K dL_plays_163 rfl ?_
                refine r_if_eq K 197 dL_plays_165 (by decide) (by decide) (fun hq_77 => ?_) (fun hq_77 => absurd hq_77 (by decide))
                refine r_iload K dL_plays_197 rfl ?_
                refine r_ldc K (v := -1000003) (List.mem_of_getElem? (i := 5) rfl) dL_plays_199 ?_
                refine r_ic_neR K 208 dL_plays_201 (by decide) (fun hq_78 => absurd rfl hq_78) (fun hq_78 => ?_)
                refine r_iconst K (nI 1) dL_plays_204 (by decide) ?_
                refine r_goto K 209 dL_plays_205 (by decide) ?_
                refine r_istore (lv' := [(0, .ref (a 0)), (1, .ref (b 0)), (2, .ref (e 1)), (3, .ref (e 3)), (4, .int xx), (5, .int yy), (6, .int (nI A)), (7, .int (nI B)), (8, .int (nI q1)), (9, .int (nI q2)), (10, .int (nI 0)), (11, .int (nI 0)), (12, .ref q7), (13, .int (-1000003)), (14, .int (nI 1))]) K dL_plays_209 (by decide) rfl ?_
                refine r_iload K dL_plays_211 rfl ?_
                refine r_if_eq K 284 dL_plays_213 (by decide) (by decide) (fun hq_80 => absurd hq_80 (by decide)) (fun hq_80 => ?_)
                refine r_aload_n K dL_plays_216 rfl ?_
                refine r_iload K dL_plays_217 rfl ?_
                refine r_iload K dL_plays_219 rfl ?_
                refine r_iload K dL_plays_221 rfl ?_
                refine r_iload K dL_plays_223 rfl ?_
                refine r_callT (rest := []) KE (w_play_3 l D b c S hl0 hV h14 B A q2 q1 (by omega) (by omega) (by omega) (by omega) (fun q => hal q.symm) (by rw [Bool.and_comm]; exact hcan)) 5 gL_plays_L_play rfl (by decide +kernel) rfl ⟨⟨Nat.le_of_ble_eq_true rfl, Nat.le_of_ble_eq_true rfl⟩, (by show k3 + 7 + 7 ≤ 800; omega), (by show n3 + 42 + 42 ≤ 5000; omega)⟩ rfl (Nat.le_of_ble_eq_true rfl) dL_plays_225 (fun J81 => ?_)
                refine r_iload K dL_plays_228 rfl ?_
                refine r_sipush K (-1000) dL_plays_230 (by decide) ?_
                refine r_ic_geR K 241 dL_plays_233 (by decide) (fun hq_82 => absurd hq_82 (by decide)) (fun hq_82 => ?_)
                refine r_iload K dL_plays_236 rfl ?_
                refine r_goto K 244 dL_plays_238 (by decide) ?_
                refine r_ic_neR K 284 dL_plays_244 (by decide) (fun hq_83 => absurd rfl hq_83) (fun hq_83 => ?_)
                refine r_aload_n K dL_plays_247 rfl ?_
                refine r_iload K dL_plays_248 rfl ?_
                refine r_iload K dL_plays_250 rfl ?_
                refine r_iconst K (-1) dL_plays_252 (by decide) ?_
                refine r_iload K dL_plays_253 rfl ?_
                refine r_callO (rest := []) KE (x_play_2 l D a c S hl0 hV h14 (nI A) (nI B) (-1) (nI q2) (and_t (inB_nI (by omega) (by omega) (by omega)) (inB_nI (by omega) (by omega) (by omega))) (and_f1 (by decide))) 5 gL_plays_L_play rfl (by decide +kernel) rfl ⟨⟨Nat.le_of_ble_eq_true rfl, Nat.le_of_ble_eq_true rfl⟩, (by show k3 + 14 + 7 ≤ 800; omega), (by show n3 + 84 + 42 ≤ 5000; omega)⟩ rfl (Nat.le_of_ble_eq_true rfl) dL_plays_255 (fun J84 => ?_)
                refine r_ldc K (v := -1000002) (List.mem_of_getElem? (i := 4) rfl) dL_plays_258 ?_
                refine r_ic_neR K 284 dL_plays_260 (by decide) (fun hq_85 => absurd rfl hq_85) (fun hq_85 => ?_)
                refine r_aload_n K dL_plays_263 rfl ?_
                refine r_iload K dL_plays_264 rfl ?_
                refine r_aload_n K dL_plays_266 rfl ?_
                refine r_iconst K (nI 1) dL_plays_267 (by decide) ?_
                refine r_ldZ K 3 (zX_g3 _ _ _ _) (by omega) (by decide) dL_plays_268 ?_
                refine r_top (congrArg nI (show _ = S 3 0 from hg1)) ?_
                refine r_iconst K (-1) dL_plays_269 (by decide) ?_
                refine r_iload K dL_plays_270 rfl ?_
                refine r_callO (rest := []) KE (x_play_1 l D a c S hl0 hV h14 (nI A) (nI (S 3 0)) (-1) (nI q2) (and_f2 (by exact inB_big (by omega) (Int32.le_refl _)))) 5 gL_plays_L_play rfl (by decide +kernel) rfl ⟨⟨Nat.le_of_ble_eq_true rfl, Nat.le_of_ble_eq_true rfl⟩, (by show k3 + 21 + 7 ≤ 800; omega), (by show n3 + 126 + 42 ≤ 5000; omega)⟩ rfl (Nat.le_of_ble_eq_true rfl) dL_plays_272 (fun J86 => ?_)
                refine r_ldc K (v := -1000001) (List.mem_of_getElem? (i := 6) rfl) dL_plays_275 ?_
                refine r_ic_neR K 284 dL_plays_277 (by decide) (fun hq_87 => absurd rfl hq_87) (fun hq_87 => ?_)
                refine r_iconst K (nI 1) dL_plays_280 (by decide) ?_
                refine r_goto K 285 dL_plays_281 (by decide) ?_
                refine r_istore (lv' := [(0, .ref (a 0)), (1, .ref (b 0)), (2, .ref (e 1)), (3, .ref (e 3)), (4, .int xx), (5, .int yy), (6, .int (nI A)), (7, .int (nI B)), (8, .int (nI q1)), (9, .int (nI q2)), (10, .int (nI 0)), (11, .int (nI 0)), (12, .ref q7), (13, .int (-1000003)), (14, .int (nI 1))]) K dL_plays_285 (by decide) rfl ?_
                refine r_iload K dL_plays_287 rfl ?_
                refine r_if_eq K 300 dL_plays_289 (by decide) (by decide) (fun hq_89 => absurd hq_89 (by decide)) (fun hq_89 => ?_)
                refine r_iload K dL_plays_292 rfl ?_
                refine r_sipush K (-1000) dL_plays_294 (by decide) ?_
                refine r_ic_geR K 303 dL_plays_297 (by decide) (fun hq_90 => absurd hq_90 (by decide)) (fun hq_90 => ?_)
                refine r_iload K dL_plays_300 rfl ?_
                exact hret _ _ _ _ _ 1 (S, J86, J81) _ dL_plays_302 (by decide) ⟨rfl, hI.mono (by omega), hR⟩ (wW_app a b e c S J86 S J81 U _) (by show k3 + 28 ≤ 800; omega) (by show n3 + 168 ≤ 5000; omega)
          ·
            refine r_aload K dL_plays_112 rfl ?_
            refine r_iload K dL_plays_114 rfl ?_
            refine r_aload_n K dL_plays_116 rfl ?_
            refine r_iload K dL_plays_117 rfl ?_
            refine r_callO (rest := [.int (nI i), .ref q7]) KE (w_wins_0 l D a c S hl0 hV  i (by omega)) 2 gL_plays_L_wins rfl (by decide +kernel) rfl ⟨⟨Nat.le_of_ble_eq_true rfl, Nat.le_of_ble_eq_true rfl⟩, (by show k3 + 1 ≤ 800; omega), (by show n3 + 6 ≤ 5000; omega)⟩ rfl (Nat.le_of_ble_eq_true rfl) dL_plays_119 (fun J91 => ?_)
            refine r_stZ (g := f) (x' := [(q7, .inl (c 0, 16, .inl (ar (upf f i (S 14 i)))))]) K 4 rfl (by omega) (by decide) dL_plays_122 rfl ?_
            obtain ⟨f92, hf92⟩ : ∃ X : Nat → Nat, X = upf f i (S 14 i) := ⟨_, rfl⟩
            rw [← hf92]
            refine r_iinc (lv' := [(0, .ref (a 0)), (1, .ref (b 0)), (2, .ref (e 1)), (3, .ref (e 3)), (4, .int xx), (5, .int yy), (6, .int (nI A)), (7, .int (nI B)), (8, .int (nI q1)), (9, .int (nI q2)), (10, .int (nI ((decide (S 18 A = S 18 B)).toNat))), (11, .int (nI ((alw S A && alw S B).toNat))), (12, .ref q7), (13, .int (nI (i + 1)))]) K dL_plays_123 rfl (nI_1 _) (by decide) rfl ?_
            refine r_goto K 105 dL_plays_126 (by decide) ?_
            exact ih10 (i + 1) _ _ _ _ (by omega) (by omega) (by rw [hf92]; exact row_step hf) (by show k3 + 1 ≤ _; omega) (by show n3 + 6 ≤ _; omega)
      exact LA8 17 0 _ _ _ _ (by omega) (Nat.zero_le _) (fun p hp => absurd hp (Nat.not_lt_zero p)) (by show k2 + 1 ≤ _; omega) (by show n2 + 16 ≤ _; omega)
    refine r_aload_n K dL_plays_69 rfl ?_
    refine r_iload K dL_plays_70 rfl ?_
    refine r_callO (rest := []) KE (w_isAllowed_0 l D a c S hl0 hV  A (by omega)) 2 gL_plays_L_isAllowed rfl (by decide +kernel) rfl ⟨⟨Nat.le_of_ble_eq_true rfl, Nat.le_of_ble_eq_true rfl⟩, (by show k1 + 1 ≤ 800; omega), (by show n1 + 6 ≤ 5000; omega)⟩ rfl (Nat.le_of_ble_eq_true rfl) dL_plays_72 (fun J93 => ?_)
    refine r_iconst K (nI 1) dL_plays_75 (by decide) ?_
    by_cases ha1 : alw S A = true
    ·
      refine r_ic_ne K 93 dL_plays_76 (by decide) (Nat.lt_trans (toNat_lt2 _) (by decide)) (by decide) (fun hq_94 => absurd (by rw [ha1]; rfl) hq_94) (fun hq_94 => ?_)
      refine r_aload_n K dL_plays_79 rfl ?_
      refine r_iload K dL_plays_80 rfl ?_
      refine r_callO (rest := []) KE (w_isAllowed_0 l D a c S hl0 hV  B (by omega)) 2 gL_plays_L_isAllowed rfl (by decide +kernel) rfl ⟨⟨Nat.le_of_ble_eq_true rfl, Nat.le_of_ble_eq_true rfl⟩, (by show k1 + 1 + 1 ≤ 800; omega), (by show n1 + 6 + 6 ≤ 5000; omega)⟩ rfl (Nat.le_of_ble_eq_true rfl) dL_plays_82 (fun J95 => ?_)
      refine r_iconst K (nI 1) dL_plays_85 (by decide) ?_
      by_cases ha2 : alw S B = true
      ·
        refine r_ic_ne K 93 dL_plays_86 (by decide) (Nat.lt_trans (toNat_lt2 _) (by decide)) (by decide) (fun hq_96 => absurd (by rw [ha2]; rfl) hq_96) (fun hq_96 => ?_)
        refine r_iconst K (nI 1) dL_plays_89 (by decide) ?_
        refine r_top (congrArg nI (show _ = (alw S A && alw S B).toNat from (by rw [ha1, ha2]; rfl))) ?_
        refine r_goto K 94 dL_plays_90 (by decide) ?_
        exact HM6 _ _ _ (by show k1 + 2 ≤ _; omega) (by show n1 + 12 ≤ _; omega)
      ·
        have ha2 : (alw S B) = false := by cases hz : alw S B <;> simp_all
        refine r_ic_ne K 93 dL_plays_86 (by decide) (Nat.lt_trans (toNat_lt2 _) (by decide)) (by decide) (fun hq_97 => ?_) (fun hq_97 => absurd hq_97 (by rw [ha2]; decide))
        refine r_iconst K (nI 0) dL_plays_93 (by decide) ?_
        refine r_top (congrArg nI (show _ = (alw S A && alw S B).toNat from (by rw [ha2, Bool.and_false]; rfl))) ?_
        exact HM6 _ _ _ (by show k1 + 2 ≤ _; omega) (by show n1 + 12 ≤ _; omega)
    ·
      have ha1 : (alw S A) = false := by cases hz : alw S A <;> simp_all
      refine r_ic_ne K 93 dL_plays_76 (by decide) (Nat.lt_trans (toNat_lt2 _) (by decide)) (by decide) (fun hq_98 => ?_) (fun hq_98 => absurd hq_98 (by rw [ha1]; decide))
      refine r_iconst K (nI 0) dL_plays_93 (by decide) ?_
      refine r_top (congrArg nI (show _ = (alw S A && alw S B).toNat from (by rw [ha1]; rfl))) ?_
      exact HM6 _ _ _ (by show k1 + 1 ≤ _; omega) (by show n1 + 6 ≤ _; omega)
  refine r_aload_n K dL_plays_47 rfl ?_
  refine r_iconst K (nI 2) dL_plays_48 (by decide) ?_
  refine r_iload K dL_plays_49 rfl ?_
  refine r_imul K dL_plays_51 ?_
  refine r_ldZ K 1 (zX_g1 _ _ _ _) (by omega) (by decide) dL_plays_52 ?_
  refine r_top (congrArg nI (show _ = S 18 A from rel_ow hR (by omega) bA)) ?_
  refine r_aload_n K dL_plays_53 rfl ?_
  refine r_iconst K (nI 2) dL_plays_54 (by decide) ?_
  refine r_iload K dL_plays_55 rfl ?_
  refine r_imul K dL_plays_57 ?_
  refine r_ldZ K 1 (zX_g1 _ _ _ _) (by omega) (by decide) dL_plays_58 ?_
  refine r_top (congrArg nI (show _ = S 18 B from rel_ow hR (by omega) bB)) ?_
  refine r_ic_ne K 66 dL_plays_59 (by decide) (by omega) (by omega) (fun hq_99 => ?_) (fun hq_99 => ?_)
  ·
    refine r_iconst K (nI 0) dL_plays_66 (by decide) ?_
    refine r_top (congrArg nI (show _ = (decide (S 18 A = S 18 B)).toNat from (by rw [decide_eq_false hq_99]; rfl))) ?_
    exact HM5 _ _ (by show 0 ≤ _; omega) (by show 0 ≤ _; omega)
  ·
    refine r_iconst K (nI 1) dL_plays_62 (by decide) ?_
    refine r_top (congrArg nI (show _ = (decide (S 18 A = S 18 B)).toNat from (by rw [decide_eq_true hq_99]; rfl))) ?_
    refine r_goto K 67 dL_plays_63 (by decide) ?_
    exact HM5 _ _ (by show 0 ≤ _; omega) (by show 0 ≤ _; omega)
