section LAWSPEC
def U0 : St := up (up (fun _ _ => 0) 3 3 4) 3 4 2
theorem len_0 : lenO (frl S0) = 0 := rfl
theorem fmt_0 : up (up S0 3 1 4) 3 2 2 = S0 := by
  have e1 : up S0 3 1 4 = S0 := up_same2 rfl
  rw [e1]
  exact up_same2 rfl
theorem rel_0 : Rel S0 U0 := by
  refine ⟨⟨rfl, rfl, rfl, rfl, rfl⟩, Nat.zero_le _, fun d hd => ⟨?_, ?_, ?_⟩, fun j hj => absurd hj (Nat.not_lt_zero j), fun d hd => ⟨?_, fun _ => ?_, fun q => absurd q (Nat.not_lt_zero d)⟩, fun d p hd hp => ?_, fun d p q hd hp hq => ?_, fun o ho => absurd ho (Nat.not_lt_zero o)⟩
  · rfl
  · rfl
  · rfl
  · rfl
  · rfl
  · exact absurd hp (Nat.not_lt_zero p)
  · exact absurd hq (Nat.not_lt_zero q)
end LAWSPEC
theorem q_c18 : Cond.constant RL 18 (-1000001) ∈ wsL_law := by decide +kernel
set_option maxHeartbeats 4000000 in
set_option maxRecDepth 100000 in
theorem law_body (l : Launch) (D : va_G) (a b e : Nat → Nat) (c : Nat → ClassId) (hl0 : l.stackTraces = false) {G : Gt} {sb L : Nat} {xs : Nat → Int32} (KE : OkE l room_1 G cL_law 11 wsL_law RL D (tyW c)) (KS : OkS l room_1 G cL_law 11 wsL_law RL D (tyW c) sb L xs) (hL : L ≤ 260)
    (hend : ∀ (k n : Nat) (ws : va_W) (lv : List (Nat × Value)), k ≤ 600104 → n ≤ 7301314 → G k n ws lv 229 [.int (nI 1)]) (k0 n0 : Nat) (hk0 : k0 ≤ 100) (hn0 : n0 ≤ 2000) : G k0 n0 (wW a b e c S0 Z0 S0 Z0 (fun _ _ => 0) []) [(0, .ref sb), (1, .ref (a 0)), (2, .ref (b 0)), (3, .ref (e 0)), (4, .ref (e 1)), (5, .ref (e 2)), (6, .ref (e 3))] 38 [] := by
  have K := KE.ok
  refine r_aload K dL_law_38 rfl ?_
  refine r_iconst K (nI 3) dL_law_40 (by decide) ?_
  refine r_iconst K (nI 4) dL_law_41 (by decide) ?_
  refine r_stZ (U' := up (fun _ _ => 0) 3 3 4) K 3 (zX_g3 _ _ _ _) (by omega) (by decide) dL_law_42 (zX_s3 _ _ _ _ _ _) ?_
  refine r_aload K dL_law_43 rfl ?_
  refine r_iconst K (nI 4) dL_law_45 (by decide) ?_
  refine r_iconst K (nI 2) dL_law_46 (by decide) ?_
  refine r_stZ (U' := up (up (fun _ _ => 0) 3 3 4) 3 4 2) K 3 (zX_g3 _ _ _ _) (by omega) (by decide) dL_law_47 (zX_s3 _ _ _ _ _ _) ?_
  refine r_w (ws' := wW a b e c S0 Z0 S0 Z0 U0 []) rfl ?_
  have hI0 := inv_0
  have hV0 := hI0.V (by omega)
  have h250 := hI0.2.2.1.lt2
  refine r_aload_n K dL_law_48 rfl ?_
  refine r_callVO (rest := []) (f := fun _ : Unit => Z0) K (c_X6_cards l D a c S0 Z0 hV0) 0 gL_law_X6_cards rfl (by decide +kernel) rfl ⟨⟨Nat.le_of_ble_eq_true rfl, Nat.le_of_ble_eq_true rfl⟩, (by show k0 + 0 ≤ 600104; omega), (by show n0 + 0 ≤ 7301314; omega)⟩ rfl rfl (Nat.le_of_ble_eq_true rfl) dL_law_49 (fun J3 => ?_)
  refine r_top (congrArg nI (show _ = 0 from rfl)) ?_
  refine r_if_ne K 102 dL_law_52 (by decide) (by decide) (fun hq_5 => absurd hq_5 (by decide)) (fun hq_5 => ?_)
  refine r_aload_n K dL_law_55 rfl ?_
  refine r_iconst K (nI 0) dL_law_56 (by decide) ?_
  refine r_callO (rest := []) KE (w_ring_0 l D a c S0 hl0 hV0  0 (by omega)) 2 gL_law_L_ring rfl (by decide +kernel) rfl ⟨⟨Nat.le_of_ble_eq_true rfl, Nat.le_of_ble_eq_true rfl⟩, (by show k0 + 1 ≤ 600104; omega), (by show n0 + 6 ≤ 7301314; omega)⟩ rfl (Nat.le_of_ble_eq_true rfl) dL_law_57 (fun J6 => ?_)
  refine r_top (show _ = (-1 : Int32) from rg_out (by rw [len_0]; exact Nat.le_refl 0)) ?_
  refine r_iconst K (-1) dL_law_60 (by decide) ?_
  refine r_ic_neR K 102 dL_law_61 (by decide) (fun hq_7 => absurd rfl hq_7) (fun hq_7 => ?_)
  refine r_aload_n K dL_law_64 rfl ?_
  refine r_callVO (rest := []) (f := fun u : St => u) K (c_X6_trade l D a c S0 J6 hV0) 0 gL_law_X6_trade rfl (by decide +kernel) rfl ⟨⟨Nat.le_of_ble_eq_true rfl, Nat.le_of_ble_eq_true rfl⟩, (by show k0 + 1 + 0 ≤ 600104; omega), (by show n0 + 6 + 0 ≤ 7301314; omega)⟩ rfl rfl (Nat.le_of_ble_eq_true rfl) dL_law_65 (fun J8 => ?_)
  refine r_w (ws' := wW a b e c S0 J8 S0 Z0 U0 []) (by rw [len_0]; rfl) ?_
  refine r_top (congrArg nI (show _ = 0 from len_0)) ?_
  refine r_if_ne K 102 dL_law_68 (by decide) (by decide) (fun hq_10 => absurd hq_10 (by decide)) (fun hq_10 => ?_)
  refine r_aload_n K dL_law_71 rfl ?_
  refine r_iconst K (nI 0) dL_law_72 (by decide) ?_
  refine r_callO (rest := []) KE (x_isAllowed_1 l D a c S0 hl0 hV0  (nI 0) (inB_big (n := S0 3 0) (by decide) (Int32.le_refl _))) 2 gL_law_L_isAllowed rfl (by decide +kernel) rfl ⟨⟨Nat.le_of_ble_eq_true rfl, Nat.le_of_ble_eq_true rfl⟩, (by show k0 + 1 + 1 ≤ 600104; omega), (by show n0 + 6 + 6 ≤ 7301314; omega)⟩ rfl (Nat.le_of_ble_eq_true rfl) dL_law_73 (fun J11 => ?_)
  refine r_ldc K (v := -1000001) q_c18 dL_law_76 ?_
  refine r_ic_neR K 102 dL_law_78 (by decide) (fun hq_12 => absurd rfl hq_12) (fun hq_12 => ?_)
  refine r_aload_n K dL_law_81 rfl ?_
  refine r_iconst K (nI 3) dL_law_82 (by decide) ?_
  refine r_callO (rest := []) KE (w_price_0 l D a c S0 hl0 hV0  3 (by omega)) 2 gL_law_L_price rfl (by decide +kernel) rfl ⟨⟨Nat.le_of_ble_eq_true rfl, Nat.le_of_ble_eq_true rfl⟩, (by show k0 + 2 + 1 ≤ 600104; omega), (by show n0 + 12 + 6 ≤ 7301314; omega)⟩ rfl (Nat.le_of_ble_eq_true rfl) dL_law_83 (fun J13 => ?_)
  refine r_top (congrArg nI (show _ = 0 from rfl)) ?_
  refine r_if_ne K 102 dL_law_86 (by decide) (by decide) (fun hq_15 => absurd hq_15 (by decide)) (fun hq_15 => ?_)
  refine r_aload_n K dL_law_89 rfl ?_
  refine r_iconst K (nI 4) dL_law_90 (by decide) ?_
  refine r_iconst K (nI 2) dL_law_91 (by decide) ?_
  refine r_callO (rest := []) KE (w_setFormat_0 l D a c S0 hl0 hV0  4 2 (by omega) (by omega)) 3 gL_law_L_setFormat rfl (by decide +kernel) rfl ⟨⟨Nat.le_of_ble_eq_true rfl, Nat.le_of_ble_eq_true rfl⟩, (by show k0 + 3 + 2 ≤ 600104; omega), (by show n0 + 18 + 12 ≤ 7301314; omega)⟩ rfl (Nat.le_of_ble_eq_true rfl) dL_law_92 (fun J16 => ?_)
  refine r_w (ws' := wW a b e c S0 J16 S0 Z0 U0 []) (by rw [fmt_0]) ?_
  refine r_top (congrArg nI (show _ = 0 from rfl)) ?_
  refine r_if_ne K 102 dL_law_95 (by decide) (by decide) (fun hq_18 => absurd hq_18 (by decide)) (fun hq_18 => ?_)
  refine r_iconst K (nI 1) dL_law_98 (by decide) ?_
  refine r_goto K 103 dL_law_99 (by decide) ?_
  refine r_istore (lv' := [(0, .ref sb), (1, .ref (a 0)), (2, .ref (b 0)), (3, .ref (e 0)), (4, .ref (e 1)), (5, .ref (e 2)), (6, .ref (e 3)), (7, .int (nI 1))]) K dL_law_103 (by decide) rfl ?_
  refine r_iconst K (nI 0) dL_law_105 (by decide) ?_
  refine r_istore (lv' := [(0, .ref sb), (1, .ref (a 0)), (2, .ref (b 0)), (3, .ref (e 0)), (4, .ref (e 1)), (5, .ref (e 2)), (6, .ref (e 3)), (7, .int (nI 1)), (8, .int (nI 0))]) K dL_law_106 (by decide) rfl ?_
  have LA19 : ∀ (z20 : Nat) (i : Nat) (k1 : Nat) (n1 : Nat) (S : St) (J : St) (K2 : St) (U : St), 150 - i < z20 → (i ≤ 150) → (Inv i S) → (Rel S U) → (k1 ≤ 200 + 3800 * i) → (n1 ≤ 3000 + 23000 * i) → G k1 n1 (wW a b e c S J S K2 U []) [(0, .ref sb), (1, .ref (a 0)), (2, .ref (b 0)), (3, .ref (e 0)), (4, .ref (e 1)), (5, .ref (e 2)), (6, .ref (e 3)), (7, .int (nI 1)), (8, .int (nI i))] 108 [] := by
    intro z20
    induction z20 with
    | zero => intro i k1 n1 S J K2 U hz hi hI hR hk1 hn1; exact absurd hz (by omega)
    | succ z20 ih21 =>
      intro i k1 n1 S J K2 U hz hi hI hR hk1 hn1
      refine r_iload K dL_law_108 rfl ?_
      refine r_sipush K (nI 150) dL_law_110 (by decide) ?_
      refine r_ic_ge K 227 dL_law_113 (by decide) (by omega) (by decide) (fun hq_22 => ?_) (fun hq_22 => ?_)
      ·
        refine r_iload K dL_law_227 rfl ?_
        exact hend _ _ _ _ (by show k1 ≤ 600104; omega) (by show n1 ≤ 7301314; omega)
      ·
        refine r_iload K dL_law_116 rfl ?_
        refine r_if_eq K 227 dL_law_118 (by decide) (by decide) (fun hq_24 => absurd hq_24 (by decide)) (fun hq_24 => ?_)
        refine r_aload_n K dL_law_121 rfl ?_
        refine r_iconst K (nI 2) dL_law_122 (by decide) ?_
        refine r_iload K dL_law_123 rfl ?_
        refine r_imul K dL_law_125 ?_
        refine r_callSt (rest := []) KS (c_L_at l D c sb L xs hL (2 * i) (by omega)) 2 gL_law_L_at rfl (by decide +kernel) rfl ⟨⟨Nat.le_of_ble_eq_true rfl, Nat.le_of_ble_eq_true rfl⟩, (by show k1 + 0 ≤ 600104; omega), (by show n1 + 0 ≤ 7301314; omega)⟩ rfl (Nat.le_of_ble_eq_true rfl) dL_law_126 (fun x25 _ => ?_)
        refine r_istore (lv' := [(0, .ref sb), (1, .ref (a 0)), (2, .ref (b 0)), (3, .ref (e 0)), (4, .ref (e 1)), (5, .ref (e 2)), (6, .ref (e 3)), (7, .int (nI 1)), (8, .int (nI i)), (9, .int x25)]) K dL_law_129 (by decide) rfl ?_
        refine r_aload_n K dL_law_131 rfl ?_
        refine r_iconst K (nI 2) dL_law_132 (by decide) ?_
        refine r_iload K dL_law_133 rfl ?_
        refine r_imul K dL_law_135 ?_
        refine r_iconst K (nI 1) dL_law_136 (by decide) ?_
        refine r_iadd K dL_law_137 ?_
        refine r_callSt (rest := []) KS (c_L_at l D c sb L xs hL ((2 * i) + 1) (by omega)) 2 gL_law_L_at rfl (by decide +kernel) rfl ⟨⟨Nat.le_of_ble_eq_true rfl, Nat.le_of_ble_eq_true rfl⟩, (by show k1 + 0 ≤ 600104; omega), (by show n1 + 0 ≤ 7301314; omega)⟩ rfl (Nat.le_of_ble_eq_true rfl) dL_law_138 (fun x26 _ => ?_)
        refine r_istore (lv' := [(0, .ref sb), (1, .ref (a 0)), (2, .ref (b 0)), (3, .ref (e 0)), (4, .ref (e 1)), (5, .ref (e 2)), (6, .ref (e 3)), (7, .int (nI 1)), (8, .int (nI i)), (9, .int x25), (10, .int x26)]) K dL_law_141 (by decide) rfl ?_
        refine r_aload_n K dL_law_143 rfl ?_
        refine r_aload_n K dL_law_144 rfl ?_
        refine r_aload_n K dL_law_145 rfl ?_
        refine r_aload K dL_law_146 rfl ?_
        refine r_aload K dL_law_148 rfl ?_
        refine r_aload K dL_law_150 rfl ?_
        refine r_iload K dL_law_152 rfl ?_
        refine r_iload K dL_law_154 rfl ?_
        refine r_callE (rest := []) KE (c_L_acts l D a b e c hl0 S J K2 U hI (by omega) hR x25 x26) 8 gL_law_L_acts rfl (by decide +kernel) rfl ⟨⟨Nat.le_of_ble_eq_true rfl, Nat.le_of_ble_eq_true rfl⟩, (by show k1 + 2400 ≤ 600104; omega), (by show n1 + 14400 ≤ 7301314; omega)⟩ rfl (Nat.le_of_ble_eq_true rfl) dL_law_156 ?_
        rintro _ ⟨S9, J9, K9, U9⟩ ⟨rfl, hI9, hR9⟩
        refine r_w (ws' := wW a b e c S9 J9 S9 K9 U9 []) rfl ?_
        refine r_istore (lv' := [(0, .ref sb), (1, .ref (a 0)), (2, .ref (b 0)), (3, .ref (e 0)), (4, .ref (e 1)), (5, .ref (e 2)), (6, .ref (e 3)), (7, .int (nI 1)), (8, .int (nI i)), (9, .int x25), (10, .int x26)]) K dL_law_159 (by decide) rfl ?_
        have hg19 : U9 3 1 = S9 3 0 := rel_g1 hR9
        have hd9 : S9 3 0 ≤ 12 := V_decks (hI9.V (by omega))
        refine r_iload K dL_law_161 rfl ?_
        refine r_if_eq K 221 dL_law_163 (by decide) (by decide) (fun hq_28 => absurd hq_28 (by decide)) (fun hq_28 => ?_)
        refine r_iload K dL_law_166 rfl ?_
        refine r_iconst K (nI 5) dL_law_168 (by decide) ?_
        refine r_irem K dL_law_169 (by omega) (by omega) (by omega) ?_
        refine r_iconst K (nI 4) dL_law_170 (by decide) ?_
        refine r_ic_ne K 221 dL_law_171 (by decide) (by omega) (by decide) (fun hq_29 => ?_) (fun hq_29 => ?_)
        ·
          refine r_iinc (lv' := [(0, .ref sb), (1, .ref (a 0)), (2, .ref (b 0)), (3, .ref (e 0)), (4, .ref (e 1)), (5, .ref (e 2)), (6, .ref (e 3)), (7, .int (nI 1)), (8, .int (nI (i + 1))), (9, .int x25), (10, .int x26)]) K dL_law_221 rfl (nI_1 _) (by decide) rfl ?_
          refine r_goto K 108 dL_law_224 (by decide) ?_
          refine r_pick [0, 1, 2, 3, 4, 5, 6, 7, 8] K rfl ?_
          exact ih21 (i + 1) _ _ _ _ _ _ (by omega) (by omega) hI9 hR9 (by show k1 + 2400 ≤ _; omega) (by show n1 + 14400 ≤ _; omega)
        ·
          refine r_aload_n K dL_law_174 rfl ?_
          refine r_aload_n K dL_law_175 rfl ?_
          refine r_aload K dL_law_176 rfl ?_
          refine r_callE (rest := []) KE (c_L_cards l D a b e c hl0 S9 J9 K9 U9 hI9 (by omega) hR9) 3 gL_law_L_cards rfl (by decide +kernel) rfl ⟨⟨Nat.le_of_ble_eq_true rfl, Nat.le_of_ble_eq_true rfl⟩, (by show k1 + 2400 + 1000 ≤ 600104; omega), (by show n1 + 14400 + 6000 ≤ 7301314; omega)⟩ rfl (Nat.le_of_ble_eq_true rfl) dL_law_178 ?_
          rintro _ J30 rfl
          refine r_if_eq K 218 dL_law_181 (by decide) (by decide) (fun hq_32 => absurd hq_32 (by decide)) (fun hq_32 => ?_)
          refine r_aload K dL_law_184 rfl ?_
          refine r_iconst K (nI 1) dL_law_186 (by decide) ?_
          refine r_ldZ K 3 (zX_g3 _ _ _ _) (by omega) (by decide) dL_law_187 ?_
          refine r_top (congrArg nI (show _ = S9 3 0 from hg19)) ?_
          refine r_if_eq K 214 dL_law_188 (by decide) (by omega) (fun hq_33 => ?_) (fun hq_33 => ?_)
          ·
            refine r_iconst K (nI 1) dL_law_214 (by decide) ?_
            refine r_goto K 219 dL_law_215 (by decide) ?_
            refine r_istore (lv' := [(0, .ref sb), (1, .ref (a 0)), (2, .ref (b 0)), (3, .ref (e 0)), (4, .ref (e 1)), (5, .ref (e 2)), (6, .ref (e 3)), (7, .int (nI 1)), (8, .int (nI i)), (9, .int x25), (10, .int x26)]) K dL_law_219 (by decide) rfl ?_
            refine r_iinc (lv' := [(0, .ref sb), (1, .ref (a 0)), (2, .ref (b 0)), (3, .ref (e 0)), (4, .ref (e 1)), (5, .ref (e 2)), (6, .ref (e 3)), (7, .int (nI 1)), (8, .int (nI (i + 1))), (9, .int x25), (10, .int x26)]) K dL_law_221 rfl (nI_1 _) (by decide) rfl ?_
            refine r_goto K 108 dL_law_224 (by decide) ?_
            refine r_pick [0, 1, 2, 3, 4, 5, 6, 7, 8] K rfl ?_
            exact ih21 (i + 1) _ _ _ _ _ _ (by omega) (by omega) hI9 hR9 (by show k1 + 3400 ≤ _; omega) (by show n1 + 20400 ≤ _; omega)
          ·
            refine r_aload_n K dL_law_191 rfl ?_
            refine r_aload_n K dL_law_192 rfl ?_
            refine r_aload K dL_law_193 rfl ?_
            refine r_aload K dL_law_195 rfl ?_
            refine r_iload K dL_law_197 rfl ?_
            refine r_aload K dL_law_199 rfl ?_
            refine r_iconst K (nI 1) dL_law_201 (by decide) ?_
            refine r_ldZ K 3 (zX_g3 _ _ _ _) (by omega) (by decide) dL_law_202 ?_
            refine r_top (congrArg nI (show _ = S9 3 0 from hg19)) ?_
            refine r_callS0 (rest := [.ref (e 3), .ref (e 1), .ref (e 0), .ref (a 0)]) K (c_L_low l D c x25 (S9 3 0) (by omega) (by omega)) 2 gL_law_L_low rfl (by decide +kernel) rfl ⟨⟨Nat.le_of_ble_eq_true rfl, Nat.le_of_ble_eq_true rfl⟩, (by show k1 + 3400 + 0 ≤ 600104; omega), (by show n1 + 20400 + 0 ≤ 7301314; omega)⟩ rfl (Nat.le_of_ble_eq_true rfl) dL_law_203 ?_
            rintro _ _ ⟨k34, hk34, rfl⟩
            refine r_iload K dL_law_206 rfl ?_
            refine r_callE (rest := []) KE (c_L_isDeckSo l D a b e c hl0 S9 J30 K9 U9 hI9 (by omega) hR9 k34 (by omega) x26) 6 gL_law_L_isDeckSo rfl (by decide +kernel) rfl ⟨⟨Nat.le_of_ble_eq_true rfl, Nat.le_of_ble_eq_true rfl⟩, (by show k1 + 3400 + 300 ≤ 600104; omega), (by show n1 + 20400 + 2000 ≤ 7301314; omega)⟩ rfl (Nat.le_of_ble_eq_true rfl) dL_law_208 ?_
            rintro _ J35 rfl
            refine r_if_eq K 218 dL_law_211 (by decide) (by decide) (fun hq_37 => absurd hq_37 (by decide)) (fun hq_37 => ?_)
            refine r_iconst K (nI 1) dL_law_214 (by decide) ?_
            refine r_goto K 219 dL_law_215 (by decide) ?_
            refine r_istore (lv' := [(0, .ref sb), (1, .ref (a 0)), (2, .ref (b 0)), (3, .ref (e 0)), (4, .ref (e 1)), (5, .ref (e 2)), (6, .ref (e 3)), (7, .int (nI 1)), (8, .int (nI i)), (9, .int x25), (10, .int x26)]) K dL_law_219 (by decide) rfl ?_
            refine r_iinc (lv' := [(0, .ref sb), (1, .ref (a 0)), (2, .ref (b 0)), (3, .ref (e 0)), (4, .ref (e 1)), (5, .ref (e 2)), (6, .ref (e 3)), (7, .int (nI 1)), (8, .int (nI (i + 1))), (9, .int x25), (10, .int x26)]) K dL_law_221 rfl (nI_1 _) (by decide) rfl ?_
            refine r_goto K 108 dL_law_224 (by decide) ?_
            refine r_pick [0, 1, 2, 3, 4, 5, 6, 7, 8] K rfl ?_
            exact ih21 (i + 1) _ _ _ _ _ _ (by omega) (by omega) hI9 hR9 (by show k1 + 3700 ≤ _; omega) (by show n1 + 22400 ≤ _; omega)
  exact LA19 151 0 _ _ _ _ _ _ (by omega) (Nat.zero_le _) inv_0 rel_0 (by show k0 + 5 ≤ _; omega) (by show n0 + 30 ≤ _; omega)
