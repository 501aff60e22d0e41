section ACTSPEC
def lvB (S : St) (x : Nat) : Nat → Bool := fun o => decide (S 25 o ≠ 0) && decide (S 21 o = x)
theorem lv_t {S : St} {x j : Nat} (h : anyB (lvB S x) j = true) : anyB (lvB S x) (j + 1) = true := by rw [anyB_succ, h]; rfl
theorem lv_y {S : St} {x j : Nat} (h1 : S 25 j ≠ 0) (h2 : S 21 j = x) : anyB (lvB S x) (j + 1) = true := by rw [anyB_succ, show lvB S x j = true from liveB_y h1 h2, Bool.or_true]
theorem lv_n1 {S : St} {x j : Nat} (h : anyB (lvB S x) j = false) (h2 : S 21 j ≠ x) : anyB (lvB S x) (j + 1) = false := by rw [anyB_succ, h, show lvB S x j = false from liveB_2 h2]; rfl
theorem lv_n2 {S : St} {x j : Nat} (h : anyB (lvB S x) j = false) (h2 : S 25 j = 0) : anyB (lvB S x) (j + 1) = false := by rw [anyB_succ, h, show lvB S x j = false from liveB_1 h2]; rfl
theorem kind_again (S : St) (k v w : Nat) : up (up (up (up S 10 k v) 11 k w) 10 k v) 11 k w = up (up S 10 k v) 11 k w := by
  have e1 : up (up (up S 10 k v) 11 k w) 10 k v = up (up S 10 k v) 11 k w := up_same2 (by rw [up_ne (by decide), up_same])
  rw [e1]
  exact up_same2 up_same
end ACTSPEC

def rmL_acts : Room := { frames := 14, cells := 2400, slots := 14400, locals := 420 }
set_option maxHeartbeats 4000000 in
set_option maxRecDepth 100000 in
theorem c_L_acts (l : Launch) (D : va_G) (a b e : Nat → Nat) (c : Nat → ClassId) (hl0 : l.stackTraces = false) (S J K2 U : St) {m : Nat} (hI : Inv m S) (hm : m < 500) (hR : Rel S U) (xx yy : Int32) : Li l yL_acts wsL_acts rmL_acts D (tyW c) [.ref (a 0), .ref (b 0), .ref (e 0), .ref (e 1), .ref (e 2), .ref (e 3), .int xx, .int yy] (wW a b e c S J S K2 U []) (fun r (u : St × St × St × St) => r = nI 1 ∧ Inv (m + 1) u.1 ∧ Rel u.1 u.2.2.2) (fun u : St × St × St × St => wW a b e c u.1 u.2.1 u.1 u.2.2.1 u.2.2.2 []) := by
  refine Li.ofEZ (lv0 := [(0, .ref (a 0)), (1, .ref (b 0)), (2, .ref (e 0)), (3, .ref (e 1)), (4, .ref (e 2)), (5, .ref (e 3)), (6, .int xx), (7, .int yy)]) (by decide +kernel) rfl (Nat.le_of_ble_eq_true rfl) rfl (fun G KE hret => ?_)
  have K := KE.ok
  have hV := hI.V (by omega)
  have h25 := hI.2.2.1.lt2
  have h013 := hI.small (show m ≤ 600 by omega) 13
  have h014 := hI.small (show m ≤ 600 by omega) 14
  have hg0 := rel_g0 hR
  have hg1 := rel_g1 hR
  have hg2 := rel_g2 hR
  have hg3 := rel_g3 hR
  have hg4 := rel_g4 hR
  have h60 := rel_60 hR
  have hd12 := V_decks hV
  have ho40 := V_offers hV
  refine r_iload K dL_acts_0 rfl ?_
  refine r_bipush K (nI 26) dL_acts_2 (by decide) ?_
  refine r_callS0 (rest := []) K (c_L_low l D c xx 26 (by omega) (by omega)) 2 gL_acts_L_low rfl (by decide +kernel) rfl ⟨⟨Nat.le_of_ble_eq_true rfl, Nat.le_of_ble_eq_true rfl⟩, (by show 0 + 0 ≤ 2400; omega), (by show 0 + 0 ≤ 14400; omega)⟩ rfl (Nat.le_of_ble_eq_true rfl) dL_acts_4 ?_
  rintro _ _ ⟨k1, hk1, rfl⟩
  obtain ⟨kn, hkn⟩ : ∃ z, z = k1 := ⟨_, rfl⟩
  refine r_top (congrArg nI hkn.symm) ?_
  have bkn : kn < 26 := by omega
  refine r_istore (lv' := [(0, .ref (a 0)), (1, .ref (b 0)), (2, .ref (e 0)), (3, .ref (e 1)), (4, .ref (e 2)), (5, .ref (e 3)), (6, .int xx), (7, .int yy), (8, .int (nI kn))]) K dL_acts_7 (by decide) rfl ?_
  refine r_iload K dL_acts_9 rfl ?_
  refine r_iconst K (nI 5) dL_acts_11 (by decide) ?_
  refine r_callS0 (rest := []) K (c_L_low l D c yy 5 (by omega) (by omega)) 2 gL_acts_L_low rfl (by decide +kernel) rfl ⟨⟨Nat.le_of_ble_eq_true rfl, Nat.le_of_ble_eq_true rfl⟩, (by show 0 + 0 ≤ 2400; omega), (by show 0 + 0 ≤ 14400; omega)⟩ rfl (Nat.le_of_ble_eq_true rfl) dL_acts_12 ?_
  rintro _ _ ⟨k2, hk2, rfl⟩
  obtain ⟨its, hits⟩ : ∃ z, z = k2 := ⟨_, rfl⟩
  refine r_top (congrArg nI hits.symm) ?_
  have bits : its < 5 := by omega
  refine r_istore (lv' := [(0, .ref (a 0)), (1, .ref (b 0)), (2, .ref (e 0)), (3, .ref (e 1)), (4, .ref (e 2)), (5, .ref (e 3)), (6, .int xx), (7, .int yy), (8, .int (nI kn)), (9, .int (nI its))]) K dL_acts_15 (by decide) rfl ?_
  refine r_iload K dL_acts_17 rfl ?_
  refine r_iconst K (nI 3) dL_acts_19 (by decide) ?_
  refine r_ishrR K dL_acts_20 ?_
  refine r_iconst K (nI 4) dL_acts_21 (by decide) ?_
  refine r_callS0 (rest := []) K (c_L_low l D c (yy >>> (nI 3 &&& 31)) 4 (by omega) (by omega)) 2 gL_acts_L_low rfl (by decide +kernel) rfl ⟨⟨Nat.le_of_ble_eq_true rfl, Nat.le_of_ble_eq_true rfl⟩, (by show 0 + 0 ≤ 2400; omega), (by show 0 + 0 ≤ 14400; omega)⟩ rfl (Nat.le_of_ble_eq_true rfl) dL_acts_22 ?_
  rintro _ _ ⟨k3, hk3, rfl⟩
  obtain ⟨col, hcol⟩ : ∃ z, z = k3 := ⟨_, rfl⟩
  refine r_top (congrArg nI hcol.symm) ?_
  have bcol : col < 4 := by omega
  refine r_istore (lv' := [(0, .ref (a 0)), (1, .ref (b 0)), (2, .ref (e 0)), (3, .ref (e 1)), (4, .ref (e 2)), (5, .ref (e 3)), (6, .int xx), (7, .int yy), (8, .int (nI kn)), (9, .int (nI its)), (10, .int (nI col))]) K dL_acts_25 (by decide) rfl ?_
  have HM4 : ∀ (k1 : Nat) (n1 : Nat), (4 ≤ S 2 0) → (k1 ≤ 20) → (n1 ≤ 120) → G k1 n1 (wW a b e c S J S K2 U []) [(0, .ref (a 0)), (1, .ref (b 0)), (2, .ref (e 0)), (3, .ref (e 1)), (4, .ref (e 2)), (5, .ref (e 3)), (6, .int xx), (7, .int yy), (8, .int (nI kn)), (9, .int (nI its)), (10, .int (nI col))] 131 [] := by
    intro k1 n1 h4 hk1 hn1
    have HM5 : ∀ (k1 : Nat) (n1 : Nat), (k1 ≤ 20) → (n1 ≤ 120) → G k1 n1 (wW a b e c S J S K2 U []) [(0, .ref (a 0)), (1, .ref (b 0)), (2, .ref (e 0)), (3, .ref (e 1)), (4, .ref (e 2)), (5, .ref (e 3)), (6, .int xx), (7, .int yy), (8, .int (nI kn)), (9, .int (nI its)), (10, .int (nI col))] 146 [] := by
      intro k1 n1 hk1 hn1
      refine r_aload K dL_acts_146 rfl ?_
      refine r_iconst K (nI 1) dL_acts_148 (by decide) ?_
      refine r_ldZ K 3 (zX_g3 _ _ _ _) (by omega) (by decide) dL_acts_149 ?_
      refine r_top (congrArg nI (show _ = S 3 0 from hg1)) ?_
      refine r_bipush K (nI 12) dL_acts_150 (by decide) ?_
      refine r_ic_ge K 162 dL_acts_152 (by decide) (by omega) (by decide) (fun hq_6 => ?_) (fun hq_6 => ?_)
      ·
        refine r_ldc K (v := -1000003) (List.mem_of_getElem? (i := 2) rfl) dL_acts_162 ?_
        refine r_istore (lv' := [(0, .ref (a 0)), (1, .ref (b 0)), (2, .ref (e 0)), (3, .ref (e 1)), (4, .ref (e 2)), (5, .ref (e 3)), (6, .int xx), (7, .int yy), (8, .int (nI kn)), (9, .int (nI its)), (10, .int (nI col)), (11, .int (-1000003))]) K dL_acts_164 (by decide) rfl ?_
        refine r_iload K dL_acts_166 rfl ?_
        refine r_if_ltR K 187 dL_acts_168 (by decide) (fun hq_7 => ?_) (fun hq_7 => absurd (by decide) hq_7)
        refine r_aload_n K dL_acts_187 rfl ?_
        refine r_iload K dL_acts_188 rfl ?_
        refine r_callO (rest := []) KE (w_deck_2 l D a c S hl0 hV  col (by omega) (decide_eq_false (by omega))) 2 gL_acts_L_deck rfl (by decide +kernel) rfl ⟨⟨Nat.le_of_ble_eq_true rfl, Nat.le_of_ble_eq_true rfl⟩, (by show k1 + 2 ≤ 2400; omega), (by show n1 + 12 ≤ 14400; omega)⟩ rfl (Nat.le_of_ble_eq_true rfl) dL_acts_190 (fun J8 => ?_)
        refine r_iload K dL_acts_193 rfl ?_
        refine r_ic_neR K 224 dL_acts_195 (by decide) (fun hq_9 => absurd rfl hq_9) (fun hq_9 => ?_)
        refine r_aload_n K dL_acts_198 rfl ?_
        refine r_iload K dL_acts_199 rfl ?_
        refine r_callT (rest := []) KE (w_deck_2 l D b c S hl0 hV  col (by omega) (decide_eq_false (by omega))) 2 gL_acts_L_deck rfl (by decide +kernel) rfl ⟨⟨Nat.le_of_ble_eq_true rfl, Nat.le_of_ble_eq_true rfl⟩, (by show k1 + 2 + 2 ≤ 2400; omega), (by show n1 + 12 + 12 ≤ 14400; omega)⟩ rfl (Nat.le_of_ble_eq_true rfl) dL_acts_201 (fun J10 => ?_)
        refine r_iload K dL_acts_204 rfl ?_
        refine r_ic_neR K 224 dL_acts_206 (by decide) (fun hq_11 => absurd rfl hq_11) (fun hq_11 => ?_)
        refine r_aload_n K dL_acts_209 rfl ?_
        refine r_bipush K (nI 6) dL_acts_210 (by decide) ?_
        refine r_callO (rest := []) KE (x_deck_1 l D a c S hl0 hV  (nI 6) (by decide)) 2 gL_acts_L_deck rfl (by decide +kernel) rfl ⟨⟨Nat.le_of_ble_eq_true rfl, Nat.le_of_ble_eq_true rfl⟩, (by show k1 + 4 + 2 ≤ 2400; omega), (by show n1 + 24 + 12 ≤ 14400; omega)⟩ rfl (Nat.le_of_ble_eq_true rfl) dL_acts_212 (fun J12 => ?_)
        refine r_ldc K (v := -1000001) (List.mem_of_getElem? (i := 1) rfl) dL_acts_215 ?_
        refine r_ic_neR K 224 dL_acts_217 (by decide) (fun hq_13 => absurd rfl hq_13) (fun hq_13 => ?_)
        refine r_iconst K (nI 1) dL_acts_220 (by decide) ?_
        refine r_goto K 225 dL_acts_221 (by decide) ?_
        exact hret _ _ _ _ _ 1 (S, J12, J10, U) [] dL_acts_225 (by decide) ⟨rfl, hI.mono (by omega), hR⟩ (List.append_nil _).symm (by show k1 + 6 ≤ 2400; omega) (by show n1 + 36 ≤ 14400; omega)
      ·
        refine r_aload K dL_acts_155 rfl ?_
        refine r_iconst K (nI 1) dL_acts_157 (by decide) ?_
        refine r_ldZ K 3 (zX_g3 _ _ _ _) (by omega) (by decide) dL_acts_158 ?_
        refine r_top (congrArg nI (show _ = S 3 0 from hg1)) ?_
        refine r_goto K 164 dL_acts_159 (by decide) ?_
        refine r_istore (lv' := [(0, .ref (a 0)), (1, .ref (b 0)), (2, .ref (e 0)), (3, .ref (e 1)), (4, .ref (e 2)), (5, .ref (e 3)), (6, .int xx), (7, .int yy), (8, .int (nI kn)), (9, .int (nI its)), (10, .int (nI col)), (11, .int (nI (S 3 0)))]) K dL_acts_164 (by decide) rfl ?_
        refine r_iload K dL_acts_166 rfl ?_
        refine r_if_lt K 187 dL_acts_168 (by decide) (by omega) (fun hq_14 => by omega) (fun hq_14 => ?_)
        refine r_aload_n K dL_acts_171 rfl ?_
        refine r_iconst K (nI 2) dL_acts_172 (by decide) ?_
        refine r_iload K dL_acts_173 rfl ?_
        refine r_imul K dL_acts_175 ?_
        refine r_iload K dL_acts_176 rfl ?_
        refine r_stZ (U' := up U 1 (2 * S 3 0) col) K 1 (zX_g1 _ _ _ _) (by omega) (by decide) dL_acts_178 (zX_s1 _ _ _ _ _ _) ?_
        refine r_aload K dL_acts_179 rfl ?_
        refine r_iconst K (nI 1) dL_acts_181 (by decide) ?_
        refine r_dup2 K dL_acts_182 rfl rfl ?_
        refine r_ldZ K 3 (zX_g3 _ _ _ _) (by omega) (by decide) dL_acts_183 ?_
        refine r_top (congrArg nI (show _ = S 3 0 from (by rw [up_ne (by decide)]; exact hg1))) ?_
        refine r_iconst K (nI 1) dL_acts_184 (by decide) ?_
        refine r_iadd K dL_acts_185 ?_
        refine r_stZ (U' := up (up U 1 (2 * S 3 0) col) 3 1 (S 3 0 + 1)) K 3 (zX_g3 _ _ _ _) (by omega) (by decide) dL_acts_186 (zX_s3 _ _ _ _ _ _) ?_
        refine r_aload_n K dL_acts_187 rfl ?_
        refine r_iload K dL_acts_188 rfl ?_
        refine r_callO (rest := []) KE (w_deck_0 l D a c S hl0 hV  col (by omega) (by omega)) 2 gL_acts_L_deck rfl (by decide +kernel) rfl ⟨⟨Nat.le_of_ble_eq_true rfl, Nat.le_of_ble_eq_true rfl⟩, (by show k1 + 2 ≤ 2400; omega), (by show n1 + 12 ≤ 14400; omega)⟩ rfl (Nat.le_of_ble_eq_true rfl) dL_acts_190 (fun J17 => ?_)
        obtain ⟨S1, hS1⟩ : ∃ X : St, X = dkS S col := ⟨_, rfl⟩
        have hI1 : Inv (m + 1) S1 := by rw [hS1]; exact (inv_deck hI (by omega) (by omega)).mono (by omega)
        have hV1 := hI1.V (by omega)
        have h251 := hI1.2.2.1.lt2
        have h131 := hI1.small (show m + 1 ≤ 600 by omega) 13
        have h141 := hI1.small (show m + 1 ≤ 600 by omega) 14
        refine r_w (ws' := wW a b e c S1 J17 S K2 (up (up U 1 (2 * S 3 0) col) 3 1 (S 3 0 + 1)) []) (by rw [hS1] <;> rfl) ?_
        refine r_iload K dL_acts_193 rfl ?_
        refine r_ic_ne K 224 dL_acts_195 (by decide) (by omega) (by omega) (fun hq_18 => by omega) (fun hq_18 => ?_)
        refine r_aload_n K dL_acts_198 rfl ?_
        refine r_iload K dL_acts_199 rfl ?_
        refine r_callT (rest := []) KE (w_deck_0 l D b c S hl0 hV  col (by omega) (by omega)) 2 gL_acts_L_deck rfl (by decide +kernel) rfl ⟨⟨Nat.le_of_ble_eq_true rfl, Nat.le_of_ble_eq_true rfl⟩, (by show k1 + 2 + 2 ≤ 2400; omega), (by show n1 + 12 + 12 ≤ 14400; omega)⟩ rfl (Nat.le_of_ble_eq_true rfl) dL_acts_201 (fun J19 => ?_)
        refine r_w (ws' := wW a b e c S1 J17 S1 J19 (up (up U 1 (2 * S 3 0) col) 3 1 (S 3 0 + 1)) []) (by rw [hS1] <;> rfl) ?_
        refine r_iload K dL_acts_204 rfl ?_
        refine r_ic_ne K 224 dL_acts_206 (by decide) (by omega) (by omega) (fun hq_20 => by omega) (fun hq_20 => ?_)
        refine r_aload_n K dL_acts_209 rfl ?_
        refine r_bipush K (nI 6) dL_acts_210 (by decide) ?_
        refine r_callO (rest := []) KE (x_deck_1 l D a c S1 hl0 hV1  (nI 6) (by decide)) 2 gL_acts_L_deck rfl (by decide +kernel) rfl ⟨⟨Nat.le_of_ble_eq_true rfl, Nat.le_of_ble_eq_true rfl⟩, (by show k1 + 4 + 2 ≤ 2400; omega), (by show n1 + 24 + 12 ≤ 14400; omega)⟩ rfl (Nat.le_of_ble_eq_true rfl) dL_acts_212 (fun J21 => ?_)
        refine r_ldc K (v := -1000001) (List.mem_of_getElem? (i := 1) rfl) dL_acts_215 ?_
        refine r_ic_neR K 224 dL_acts_217 (by decide) (fun hq_22 => absurd rfl hq_22) (fun hq_22 => ?_)
        refine r_iconst K (nI 1) dL_acts_220 (by decide) ?_
        refine r_goto K 225 dL_acts_221 (by decide) ?_
        exact hret _ _ _ _ _ 1 (S1, J21, J19, up (up U 1 (2 * S 3 0) col) 3 1 (S 3 0 + 1)) [] dL_acts_225 (by decide) ⟨rfl, hI1, (by rw [hS1]; exact rel_deck hR (by omega))⟩ (List.append_nil _).symm (by show k1 + 6 ≤ 2400; omega) (by show n1 + 36 ≤ 14400; omega)
    refine r_aload K dL_acts_131 rfl ?_
    refine r_iconst K (nI 1) dL_acts_133 (by decide) ?_
    refine r_ldZ K 3 (zX_g3 _ _ _ _) (by omega) (by decide) dL_acts_134 ?_
    refine r_top (congrArg nI (show _ = S 3 0 from hg1)) ?_
    refine r_iconst K (nI 2) dL_acts_135 (by decide) ?_
    refine r_ic_lt K 146 dL_acts_136 (by decide) (by omega) (by decide) (fun hq_23 => ?_) (fun hq_23 => ?_)
    ·
      exact HM5  _ _  (by show k1 ≤ _; omega) (by show n1 ≤ _; omega)
    ·
      refine r_iload K dL_acts_139 rfl ?_
      refine r_bipush K (nI 7) dL_acts_141 (by decide) ?_
      refine r_ic_ne K 226 dL_acts_143 (by decide) (by omega) (by decide) (fun hq_24 => ?_) (fun hq_24 => ?_)
      ·
        refine r_iload K dL_acts_226 rfl ?_
        refine r_iconst K (nI 5) dL_acts_228 (by decide) ?_
        refine r_ishrR K dL_acts_229 ?_
        refine r_aload K dL_acts_230 rfl ?_
        refine r_iconst K (nI 1) dL_acts_232 (by decide) ?_
        refine r_ldZ K 3 (zX_g3 _ _ _ _) (by omega) (by decide) dL_acts_233 ?_
        refine r_top (congrArg nI (show _ = S 3 0 from hg1)) ?_
        refine r_callS0 (rest := []) K (c_L_low l D c (xx >>> (nI 5 &&& 31)) (S 3 0) (by omega) (by omega)) 2 gL_acts_L_low rfl (by decide +kernel) rfl ⟨⟨Nat.le_of_ble_eq_true rfl, Nat.le_of_ble_eq_true rfl⟩, (by show k1 + 0 ≤ 2400; omega), (by show n1 + 0 ≤ 14400; omega)⟩ rfl (Nat.le_of_ble_eq_true rfl) dL_acts_234 ?_
        rintro _ _ ⟨k25, hk25, rfl⟩
        obtain ⟨dk, hdk⟩ : ∃ z, z = k25 := ⟨_, rfl⟩
        refine r_top (congrArg nI hdk.symm) ?_
        have bdk : dk < S 3 0 := by omega
        refine r_istore (lv' := [(0, .ref (a 0)), (1, .ref (b 0)), (2, .ref (e 0)), (3, .ref (e 1)), (4, .ref (e 2)), (5, .ref (e 3)), (6, .int xx), (7, .int yy), (8, .int (nI kn)), (9, .int (nI its)), (10, .int (nI col)), (11, .int (nI dk))]) K dL_acts_237 (by decide) rfl ?_
        refine r_iload K dL_acts_239 rfl ?_
        refine r_bipush K (nI 6) dL_acts_241 (by decide) ?_
        refine r_ishrR K dL_acts_243 ?_
        refine r_aload K dL_acts_244 rfl ?_
        refine r_iconst K (nI 0) dL_acts_246 (by decide) ?_
        refine r_ldZ K 3 (zX_g3 _ _ _ _) (by omega) (by decide) dL_acts_247 ?_
        refine r_top (congrArg nI (show _ = S 2 0 from hg0)) ?_
        refine r_callS0 (rest := []) K (c_L_low l D c (yy >>> (nI 6 &&& 31)) (S 2 0) (by omega) (by omega)) 2 gL_acts_L_low rfl (by decide +kernel) rfl ⟨⟨Nat.le_of_ble_eq_true rfl, Nat.le_of_ble_eq_true rfl⟩, (by show k1 + 0 ≤ 2400; omega), (by show n1 + 0 ≤ 14400; omega)⟩ rfl (Nat.le_of_ble_eq_true rfl) dL_acts_248 ?_
        rintro _ _ ⟨k26, hk26, rfl⟩
        obtain ⟨cd, hcd⟩ : ∃ z, z = k26 := ⟨_, rfl⟩
        refine r_top (congrArg nI hcd.symm) ?_
        have bcd : cd < S 2 0 := by omega
        refine r_istore (lv' := [(0, .ref (a 0)), (1, .ref (b 0)), (2, .ref (e 0)), (3, .ref (e 1)), (4, .ref (e 2)), (5, .ref (e 3)), (6, .int xx), (7, .int yy), (8, .int (nI kn)), (9, .int (nI its)), (10, .int (nI col)), (11, .int (nI dk)), (12, .int (nI cd))]) K dL_acts_251 (by decide) rfl ?_
        refine r_iload K dL_acts_253 rfl ?_
        refine r_bipush K (nI 14) dL_acts_255 (by decide) ?_
        refine r_ic_ge K 458 dL_acts_257 (by decide) (by omega) (by decide) (fun hq_27 => ?_) (fun hq_27 => ?_)
        ·
          refine r_iload K dL_acts_458 rfl ?_
          refine r_bipush K (nI 14) dL_acts_460 (by decide) ?_
          refine r_ic_ne K 586 dL_acts_462 (by decide) (by omega) (by decide) (fun hq_28 => ?_) (fun hq_28 => ?_)
          ·
            refine r_iload K dL_acts_586 rfl ?_
            refine r_bipush K (nI 15) dL_acts_588 (by decide) ?_
            refine r_ic_ne K 703 dL_acts_590 (by decide) (by omega) (by decide) (fun hq_29 => ?_) (fun hq_29 => ?_)
            ·
              refine r_iload K dL_acts_703 rfl ?_
              refine r_bipush K (nI 18) dL_acts_705 (by decide) ?_
              refine r_ic_ge K 977 dL_acts_707 (by decide) (by omega) (by decide) (fun hq_30 => ?_) (fun hq_30 => ?_)
              ·
                refine r_iload K dL_acts_977 rfl ?_
                refine r_bipush K (nI 21) dL_acts_979 (by decide) ?_
                refine r_ic_ge K 1201 dL_acts_981 (by decide) (by omega) (by decide) (fun hq_31 => ?_) (fun hq_31 => ?_)
                ·
                  refine r_iload K dL_acts_1201 rfl ?_
                  refine r_bipush K (nI 21) dL_acts_1203 (by decide) ?_
                  refine r_ic_ne K 1334 dL_acts_1205 (by decide) (by omega) (by decide) (fun hq_32 => ?_) (fun hq_32 => ?_)
                  ·
                    refine r_iload K dL_acts_1334 rfl ?_
                    refine r_bipush K (nI 24) dL_acts_1336 (by decide) ?_
                    refine r_ic_ge K 1356 dL_acts_1338 (by decide) (by omega) (by decide) (fun hq_33 => ?_) (fun hq_33 => ?_)
                    ·
                      refine r_aload_n K dL_acts_1356 rfl ?_
                      refine r_aload_n K dL_acts_1357 rfl ?_
                      refine r_aload K dL_acts_1358 rfl ?_
                      refine r_aload K dL_acts_1360 rfl ?_
                      refine r_callE (rest := []) KE (c_L_trades l D a b e c hl0 S J K2 U hI (by omega) hR) 4 gL_acts_L_trades rfl (by decide +kernel) rfl ⟨⟨Nat.le_of_ble_eq_true rfl, Nat.le_of_ble_eq_true rfl⟩, (by show k1 + 2300 ≤ 2400; omega), (by show n1 + 14000 ≤ 14400; omega)⟩ rfl (Nat.le_of_ble_eq_true rfl) dL_acts_1362 ?_
                      rintro _ u rfl
                      exact hret _ _ _ _ _ 1 (trS S, u.1, u.2, clU U S (lenO (frl S))) [] dL_acts_1365 (by decide) ⟨rfl, (inv_trade hI).mono (by omega), (rel_trade hI hR)⟩ (List.append_nil _).symm (by show k1 + 2300 ≤ 2400; omega) (by show n1 + 14000 ≤ 14400; omega)
                    ·
                      refine r_aload_n K dL_acts_1341 rfl ?_
                      refine r_aload_n K dL_acts_1342 rfl ?_
                      refine r_aload_n K dL_acts_1343 rfl ?_
                      refine r_aload K dL_acts_1344 rfl ?_
                      refine r_iload K dL_acts_1346 rfl ?_
                      refine r_iload K dL_acts_1348 rfl ?_
                      refine r_callE (rest := []) KE (c_L_plays l D a b e c hl0 S J K2 U hI (by omega) hR (by omega) xx yy) 6 gL_acts_L_plays rfl (by decide +kernel) rfl ⟨⟨Nat.le_of_ble_eq_true rfl, Nat.le_of_ble_eq_true rfl⟩, (by show k1 + 800 ≤ 2400; omega), (by show n1 + 5000 ≤ 14400; omega)⟩ rfl (Nat.le_of_ble_eq_true rfl) dL_acts_1350 ?_
                      rintro _ u ⟨rfl, hI9, hR9⟩
                      refine r_goto K 1365 dL_acts_1353 (by decide) ?_
                      exact hret _ _ _ _ _ 1 (u.1, u.2.1, u.2.2, U) [] dL_acts_1365 (by decide) ⟨rfl, hI9, hR9⟩ (List.append_nil _).symm (by show k1 + 800 ≤ 2400; omega) (by show n1 + 5000 ≤ 14400; omega)
                  ·
                    refine r_iload K dL_acts_1208 rfl ?_
                    refine r_aload K dL_acts_1210 rfl ?_
                    refine r_iconst K (nI 2) dL_acts_1212 (by decide) ?_
                    refine r_ldZ K 3 (zX_g3 _ _ _ _) (by omega) (by decide) dL_acts_1213 ?_
                    refine r_top (congrArg nI (show _ = S 4 0 from hg2)) ?_
                    refine r_iconst K (nI 1) dL_acts_1214 (by decide) ?_
                    refine r_iadd K dL_acts_1215 ?_
                    refine r_callS0 (rest := []) K (c_L_low l D c yy (S 4 0 + 1) (by omega) (by omega)) 2 gL_acts_L_low rfl (by decide +kernel) rfl ⟨⟨Nat.le_of_ble_eq_true rfl, Nat.le_of_ble_eq_true rfl⟩, (by show k1 + 0 ≤ 2400; omega), (by show n1 + 0 ≤ 14400; omega)⟩ rfl (Nat.le_of_ble_eq_true rfl) dL_acts_1216 ?_
                    rintro _ _ ⟨k34, hk34, rfl⟩
                    obtain ⟨of, hof⟩ : ∃ z, z = k34 := ⟨_, rfl⟩
                    refine r_top (congrArg nI hof.symm) ?_
                    have bof : of < S 4 0 + 1 := by omega
                    refine r_istore (lv' := [(0, .ref (a 0)), (1, .ref (b 0)), (2, .ref (e 0)), (3, .ref (e 1)), (4, .ref (e 2)), (5, .ref (e 3)), (6, .int xx), (7, .int yy), (8, .int (nI kn)), (9, .int (nI its)), (10, .int (nI col)), (11, .int (nI dk)), (12, .int (nI cd)), (13, .int (nI of))]) K dL_acts_1219 (by decide) rfl ?_
                    refine r_iload K dL_acts_1221 rfl ?_
                    refine r_aload K dL_acts_1223 rfl ?_
                    refine r_iconst K (nI 2) dL_acts_1225 (by decide) ?_
                    refine r_ldZ K 3 (zX_g3 _ _ _ _) (by omega) (by decide) dL_acts_1226 ?_
                    refine r_top (congrArg nI (show _ = S 4 0 from hg2)) ?_
                    refine r_ic_ne K 1235 dL_acts_1227 (by decide) (by omega) (by omega) (fun hq_35 => ?_) (fun hq_35 => ?_)
                    ·
                      have hof2 : of < S 4 0 := by omega
                      have hco := of_card hI hof2
                      obtain ⟨o1, o2, o3, o4, o5⟩ := rel_o hR h25 hof2 hco
                      have hb25 := h25 of
                      refine r_aload K dL_acts_1235 rfl ?_
                      refine r_iload K dL_acts_1237 rfl ?_
                      refine r_ldZ K 2 (zX_g2 _ _ _ _) (by omega) (by decide) dL_acts_1239 ?_
                      refine r_ldc K (v := nI 65536) (List.mem_of_getElem? (i := 4) rfl) dL_acts_1240 ?_
                      refine r_idiv K dL_acts_1242 (by omega) (by omega) (by omega) ?_
                      refine r_top (congrArg nI (show _ = 1 - S 25 of from o1)) ?_
                      refine r_if_le K 1251 dL_acts_1243 (by decide) (by omega) (fun hq_36 => ?_) (fun hq_36 => ?_)
                      ·
                        refine r_aload K dL_acts_1251 rfl ?_
                        refine r_iload K dL_acts_1253 rfl ?_
                        refine r_ldZ K 2 (zX_g2 _ _ _ _) (by omega) (by decide) dL_acts_1255 ?_
                        refine r_sipush K (nI 128) dL_acts_1256 (by decide) ?_
                        refine r_irem K dL_acts_1259 (by omega) (by omega) (by omega) ?_
                        refine r_top (congrArg nI (show _ = S 21 of from o2)) ?_
                        refine r_istore (lv' := [(0, .ref (a 0)), (1, .ref (b 0)), (2, .ref (e 0)), (3, .ref (e 1)), (4, .ref (e 2)), (5, .ref (e 3)), (6, .int xx), (7, .int yy), (8, .int (nI kn)), (9, .int (nI its)), (10, .int (nI col)), (11, .int (nI dk)), (12, .int (nI cd)), (13, .int (nI of)), (14, .int (nI (S 21 of)))]) K dL_acts_1260 (by decide) rfl ?_
                        refine r_iload K dL_acts_1262 rfl ?_
                        refine r_bipush K (nI 8) dL_acts_1264 (by decide) ?_
                        refine r_ishrR K dL_acts_1266 ?_
                        refine r_iconst K (nI 3) dL_acts_1267 (by decide) ?_
                        refine r_callS0 (rest := []) K (c_L_low l D c (yy >>> (nI 8 &&& 31)) 3 (by omega) (by omega)) 2 gL_acts_L_low rfl (by decide +kernel) rfl ⟨⟨Nat.le_of_ble_eq_true rfl, Nat.le_of_ble_eq_true rfl⟩, (by show k1 + 0 ≤ 2400; omega), (by show n1 + 0 ≤ 14400; omega)⟩ rfl (Nat.le_of_ble_eq_true rfl) dL_acts_1268 ?_
                        rintro _ _ ⟨k37, hk37, rfl⟩
                        refine r_if_le K 1291 dL_acts_1271 (by decide) (by omega) (fun hq_38 => ?_) (fun hq_38 => ?_)
                        ·
                          refine r_iload K dL_acts_1291 rfl ?_
                          refine r_if_lt K 1306 dL_acts_1293 (by decide) (by omega) (fun hq_39 => by omega) (fun hq_39 => ?_)
                          refine r_aload K dL_acts_1296 rfl ?_
                          refine r_iload K dL_acts_1298 rfl ?_
                          refine r_dup2 K dL_acts_1300 rfl rfl ?_
                          refine r_ldZ K 2 (zX_g2 _ _ _ _) (by omega) (by decide) dL_acts_1301 ?_
                          refine r_ldc K (v := nI 65536) (List.mem_of_getElem? (i := 4) rfl) dL_acts_1302 ?_
                          refine r_iadd K dL_acts_1304 ?_
                          refine r_stZ (U' := up U 2 of (U 2 of + 65536)) K 2 (zX_g2 _ _ _ _) (by omega) (by decide) dL_acts_1305 (zX_s2 _ _ _ _ _ _) ?_
                          refine r_aload_n K dL_acts_1306 rfl ?_
                          refine r_iload K dL_acts_1307 rfl ?_
                          refine r_callO (rest := []) KE (w_takeBack_0 l D a c S hl0 hV  of (by omega) (by omega)) 2 gL_acts_L_takeBack rfl (by decide +kernel) rfl ⟨⟨Nat.le_of_ble_eq_true rfl, Nat.le_of_ble_eq_true rfl⟩, (by show k1 + 2 ≤ 2400; omega), (by show n1 + 12 ≤ 14400; omega)⟩ rfl (Nat.le_of_ble_eq_true rfl) dL_acts_1309 (fun J41 => ?_)
                          obtain ⟨S1, hS1⟩ : ∃ X : St, X = tbS S of := ⟨_, rfl⟩
                          have hI1 : Inv (m + 1) S1 := by rw [hS1]; exact (inv_takeBack hI (by omega)).mono (by omega)
                          have hV1 := hI1.V (by omega)
                          have h251 := hI1.2.2.1.lt2
                          have h131 := hI1.small (show m + 1 ≤ 600 by omega) 13
                          have h141 := hI1.small (show m + 1 ≤ 600 by omega) 14
                          refine r_w (ws' := wW a b e c S1 J41 S K2 (up U 2 of (U 2 of + 65536)) []) (by rw [hS1]; exact wW_S tbS_C) ?_
                          refine r_iload K dL_acts_1312 rfl ?_
                          refine r_ic_ne K 1332 dL_acts_1314 (by decide) (by omega) (by omega) (fun hq_42 => by omega) (fun hq_42 => ?_)
                          refine r_aload_n K dL_acts_1317 rfl ?_
                          refine r_iload K dL_acts_1318 rfl ?_
                          refine r_callT (rest := []) KE (w_takeBack_0 l D b c S hl0 hV  of (by omega) (by omega)) 2 gL_acts_L_takeBack rfl (by decide +kernel) rfl ⟨⟨Nat.le_of_ble_eq_true rfl, Nat.le_of_ble_eq_true rfl⟩, (by show k1 + 2 + 2 ≤ 2400; omega), (by show n1 + 12 + 12 ≤ 14400; omega)⟩ rfl (Nat.le_of_ble_eq_true rfl) dL_acts_1320 (fun J43 => ?_)
                          refine r_w (ws' := wW a b e c S1 J41 S1 J43 (up U 2 of (U 2 of + 65536)) []) (by rw [hS1]; exact wW_T tbS_C) ?_
                          refine r_iload K dL_acts_1323 rfl ?_
                          refine r_ic_ne K 1332 dL_acts_1325 (by decide) (by omega) (by omega) (fun hq_44 => by omega) (fun hq_44 => ?_)
                          refine r_iconst K (nI 1) dL_acts_1328 (by decide) ?_
                          refine r_goto K 1333 dL_acts_1329 (by decide) ?_
                          exact hret _ _ _ _ _ 1 (S1, J41, J43, up U 2 of (U 2 of + 65536)) [] dL_acts_1333 (by decide) ⟨rfl, hI1, (by rw [hS1]; exact rel_takeBack hR (by omega))⟩ (List.append_nil _).symm (by show k1 + 4 ≤ 2400; omega) (by show n1 + 24 ≤ 14400; omega)
                        ·
                          refine r_aload_n K dL_acts_1274 rfl ?_
                          refine r_aload K dL_acts_1275 rfl ?_
                          refine r_aload K dL_acts_1277 rfl ?_
                          refine r_callE (rest := []) KE (c_L_ringOf l D a b e c hl0 S J K2 U hI (by omega) hR) 3 gL_acts_L_ringOf rfl (by decide +kernel) rfl ⟨⟨Nat.le_of_ble_eq_true rfl, Nat.le_of_ble_eq_true rfl⟩, (by show k1 + 2000 ≤ 2400; omega), (by show n1 + 12000 ≤ 14400; omega)⟩ rfl (Nat.le_of_ble_eq_true rfl) dL_acts_1279 ?_
                          rintro _ J45 rfl
                          have hl4 := frl_len S
                          refine r_if_lt K 1289 dL_acts_1282 (by decide) (by omega) (fun hq_46 => by omega) (fun hq_46 => ?_)
                          refine r_iconst K (nI 1) dL_acts_1285 (by decide) ?_
                          refine r_goto K 1290 dL_acts_1286 (by decide) ?_
                          exact hret _ _ _ _ _ 1 (S, J45, K2, U) [] dL_acts_1290 (by decide) ⟨rfl, hI.mono (by omega), hR⟩ (List.append_nil _).symm (by show k1 + 2000 ≤ 2400; omega) (by show n1 + 12000 ≤ 14400; omega)
                      ·
                        refine r_ldc K (v := -1000003) (List.mem_of_getElem? (i := 2) rfl) dL_acts_1246 ?_
                        refine r_goto K 1260 dL_acts_1248 (by decide) ?_
                        refine r_istore (lv' := [(0, .ref (a 0)), (1, .ref (b 0)), (2, .ref (e 0)), (3, .ref (e 1)), (4, .ref (e 2)), (5, .ref (e 3)), (6, .int xx), (7, .int yy), (8, .int (nI kn)), (9, .int (nI its)), (10, .int (nI col)), (11, .int (nI dk)), (12, .int (nI cd)), (13, .int (nI of)), (14, .int (-1000003))]) K dL_acts_1260 (by decide) rfl ?_
                        refine r_iload K dL_acts_1262 rfl ?_
                        refine r_bipush K (nI 8) dL_acts_1264 (by decide) ?_
                        refine r_ishrR K dL_acts_1266 ?_
                        refine r_iconst K (nI 3) dL_acts_1267 (by decide) ?_
                        refine r_callS0 (rest := []) K (c_L_low l D c (yy >>> (nI 8 &&& 31)) 3 (by omega) (by omega)) 2 gL_acts_L_low rfl (by decide +kernel) rfl ⟨⟨Nat.le_of_ble_eq_true rfl, Nat.le_of_ble_eq_true rfl⟩, (by show k1 + 0 ≤ 2400; omega), (by show n1 + 0 ≤ 14400; omega)⟩ rfl (Nat.le_of_ble_eq_true rfl) dL_acts_1268 ?_
                        rintro _ _ ⟨k47, hk47, rfl⟩
                        refine r_if_le K 1291 dL_acts_1271 (by decide) (by omega) (fun hq_48 => ?_) (fun hq_48 => ?_)
                        ·
                          refine r_iload K dL_acts_1291 rfl ?_
                          refine r_if_ltR K 1306 dL_acts_1293 (by decide) (fun hq_49 => ?_) (fun hq_49 => absurd (by decide) hq_49)
                          refine r_aload_n K dL_acts_1306 rfl ?_
                          refine r_iload K dL_acts_1307 rfl ?_
                          refine r_callO (rest := []) KE (w_takeBack_2 l D a c S hl0 hV  of (by omega) (decide_eq_false (fun q => q (by omega)))) 2 gL_acts_L_takeBack rfl (by decide +kernel) rfl ⟨⟨Nat.le_of_ble_eq_true rfl, Nat.le_of_ble_eq_true rfl⟩, (by show k1 + 2 ≤ 2400; omega), (by show n1 + 12 ≤ 14400; omega)⟩ rfl (Nat.le_of_ble_eq_true rfl) dL_acts_1309 (fun J50 => ?_)
                          refine r_iload K dL_acts_1312 rfl ?_
                          refine r_ic_neR K 1332 dL_acts_1314 (by decide) (fun hq_51 => absurd rfl hq_51) (fun hq_51 => ?_)
                          refine r_aload_n K dL_acts_1317 rfl ?_
                          refine r_iload K dL_acts_1318 rfl ?_
                          refine r_callT (rest := []) KE (w_takeBack_2 l D b c S hl0 hV  of (by omega) (decide_eq_false (fun q => q (by omega)))) 2 gL_acts_L_takeBack rfl (by decide +kernel) rfl ⟨⟨Nat.le_of_ble_eq_true rfl, Nat.le_of_ble_eq_true rfl⟩, (by show k1 + 2 + 2 ≤ 2400; omega), (by show n1 + 12 + 12 ≤ 14400; omega)⟩ rfl (Nat.le_of_ble_eq_true rfl) dL_acts_1320 (fun J52 => ?_)
                          refine r_iload K dL_acts_1323 rfl ?_
                          refine r_ic_neR K 1332 dL_acts_1325 (by decide) (fun hq_53 => absurd rfl hq_53) (fun hq_53 => ?_)
                          refine r_iconst K (nI 1) dL_acts_1328 (by decide) ?_
                          refine r_goto K 1333 dL_acts_1329 (by decide) ?_
                          exact hret _ _ _ _ _ 1 (S, J50, J52, U) [] dL_acts_1333 (by decide) ⟨rfl, hI.mono (by omega), hR⟩ (List.append_nil _).symm (by show k1 + 4 ≤ 2400; omega) (by show n1 + 24 ≤ 14400; omega)
                        ·
                          refine r_aload_n K dL_acts_1274 rfl ?_
                          refine r_aload K dL_acts_1275 rfl ?_
                          refine r_aload K dL_acts_1277 rfl ?_
                          refine r_callE (rest := []) KE (c_L_ringOf l D a b e c hl0 S J K2 U hI (by omega) hR) 3 gL_acts_L_ringOf rfl (by decide +kernel) rfl ⟨⟨Nat.le_of_ble_eq_true rfl, Nat.le_of_ble_eq_true rfl⟩, (by show k1 + 2000 ≤ 2400; omega), (by show n1 + 12000 ≤ 14400; omega)⟩ rfl (Nat.le_of_ble_eq_true rfl) dL_acts_1279 ?_
                          rintro _ J54 rfl
                          have hl4 := frl_len S
                          refine r_if_lt K 1289 dL_acts_1282 (by decide) (by omega) (fun hq_55 => by omega) (fun hq_55 => ?_)
                          refine r_iconst K (nI 1) dL_acts_1285 (by decide) ?_
                          refine r_goto K 1290 dL_acts_1286 (by decide) ?_
                          exact hret _ _ _ _ _ 1 (S, J54, K2, U) [] dL_acts_1290 (by decide) ⟨rfl, hI.mono (by omega), hR⟩ (List.append_nil _).symm (by show k1 + 2000 ≤ 2400; omega) (by show n1 + 12000 ≤ 14400; omega)
                    ·
                      refine r_ldc K (v := -1000001) (List.mem_of_getElem? (i := 1) rfl) dL_acts_1230 ?_
                      refine r_goto K 1260 dL_acts_1232 (by decide) ?_
                      refine r_istore (lv' := [(0, .ref (a 0)), (1, .ref (b 0)), (2, .ref (e 0)), (3, .ref (e 1)), (4, .ref (e 2)), (5, .ref (e 3)), (6, .int xx), (7, .int yy), (8, .int (nI kn)), (9, .int (nI its)), (10, .int (nI col)), (11, .int (nI dk)), (12, .int (nI cd)), (13, .int (nI of)), (14, .int (-1000001))]) K dL_acts_1260 (by decide) rfl ?_
                      refine r_iload K dL_acts_1262 rfl ?_
                      refine r_bipush K (nI 8) dL_acts_1264 (by decide) ?_
                      refine r_ishrR K dL_acts_1266 ?_
                      refine r_iconst K (nI 3) dL_acts_1267 (by decide) ?_
                      refine r_callS0 (rest := []) K (c_L_low l D c (yy >>> (nI 8 &&& 31)) 3 (by omega) (by omega)) 2 gL_acts_L_low rfl (by decide +kernel) rfl ⟨⟨Nat.le_of_ble_eq_true rfl, Nat.le_of_ble_eq_true rfl⟩, (by show k1 + 0 ≤ 2400; omega), (by show n1 + 0 ≤ 14400; omega)⟩ rfl (Nat.le_of_ble_eq_true rfl) dL_acts_1268 ?_
                      rintro _ _ ⟨k56, hk56, rfl⟩
                      refine r_if_le K 1291 dL_acts_1271 (by decide) (by omega) (fun hq_57 => ?_) (fun hq_57 => ?_)
                      ·
                        refine r_iload K dL_acts_1291 rfl ?_
                        refine r_if_ltR K 1306 dL_acts_1293 (by decide) (fun hq_58 => ?_) (fun hq_58 => absurd (by decide) hq_58)
                        refine r_aload_n K dL_acts_1306 rfl ?_
                        refine r_iload K dL_acts_1307 rfl ?_
                        refine r_callO (rest := []) KE (x_takeBack_1 l D a c S hl0 hV  (nI of) (inB_big (by omega) (nI_le (by omega) (by omega)))) 2 gL_acts_L_takeBack rfl (by decide +kernel) rfl ⟨⟨Nat.le_of_ble_eq_true rfl, Nat.le_of_ble_eq_true rfl⟩, (by show k1 + 2 ≤ 2400; omega), (by show n1 + 12 ≤ 14400; omega)⟩ rfl (Nat.le_of_ble_eq_true rfl) dL_acts_1309 (fun J59 => ?_)
                        refine r_iload K dL_acts_1312 rfl ?_
                        refine r_ic_neR K 1332 dL_acts_1314 (by decide) (fun hq_60 => absurd rfl hq_60) (fun hq_60 => ?_)
                        refine r_aload_n K dL_acts_1317 rfl ?_
                        refine r_iload K dL_acts_1318 rfl ?_
                        refine r_callT (rest := []) KE (x_takeBack_1 l D b c S hl0 hV  (nI of) (inB_big (by omega) (nI_le (by omega) (by omega)))) 2 gL_acts_L_takeBack rfl (by decide +kernel) rfl ⟨⟨Nat.le_of_ble_eq_true rfl, Nat.le_of_ble_eq_true rfl⟩, (by show k1 + 2 + 2 ≤ 2400; omega), (by show n1 + 12 + 12 ≤ 14400; omega)⟩ rfl (Nat.le_of_ble_eq_true rfl) dL_acts_1320 (fun J61 => ?_)
                        refine r_iload K dL_acts_1323 rfl ?_
                        refine r_ic_neR K 1332 dL_acts_1325 (by decide) (fun hq_62 => absurd rfl hq_62) (fun hq_62 => ?_)
                        refine r_iconst K (nI 1) dL_acts_1328 (by decide) ?_
                        refine r_goto K 1333 dL_acts_1329 (by decide) ?_
                        exact hret _ _ _ _ _ 1 (S, J59, J61, U) [] dL_acts_1333 (by decide) ⟨rfl, hI.mono (by omega), hR⟩ (List.append_nil _).symm (by show k1 + 4 ≤ 2400; omega) (by show n1 + 24 ≤ 14400; omega)
                      ·
                        refine r_aload_n K dL_acts_1274 rfl ?_
                        refine r_aload K dL_acts_1275 rfl ?_
                        refine r_aload K dL_acts_1277 rfl ?_
                        refine r_callE (rest := []) KE (c_L_ringOf l D a b e c hl0 S J K2 U hI (by omega) hR) 3 gL_acts_L_ringOf rfl (by decide +kernel) rfl ⟨⟨Nat.le_of_ble_eq_true rfl, Nat.le_of_ble_eq_true rfl⟩, (by show k1 + 2000 ≤ 2400; omega), (by show n1 + 12000 ≤ 14400; omega)⟩ rfl (Nat.le_of_ble_eq_true rfl) dL_acts_1279 ?_
                        rintro _ J63 rfl
                        have hl4 := frl_len S
                        refine r_if_lt K 1289 dL_acts_1282 (by decide) (by omega) (fun hq_64 => by omega) (fun hq_64 => ?_)
                        refine r_iconst K (nI 1) dL_acts_1285 (by decide) ?_
                        refine r_goto K 1290 dL_acts_1286 (by decide) ?_
                        exact hret _ _ _ _ _ 1 (S, J63, K2, U) [] dL_acts_1290 (by decide) ⟨rfl, hI.mono (by omega), hR⟩ (List.append_nil _).symm (by show k1 + 2000 ≤ 2400; omega) (by show n1 + 12000 ≤ 14400; omega)
                ·
                  refine r_iconst K (nI 0) dL_acts_984 (by decide) ?_
                  refine r_istore (lv' := [(0, .ref (a 0)), (1, .ref (b 0)), (2, .ref (e 0)), (3, .ref (e 1)), (4, .ref (e 2)), (5, .ref (e 3)), (6, .int xx), (7, .int yy), (8, .int (nI kn)), (9, .int (nI its)), (10, .int (nI col)), (11, .int (nI dk)), (12, .int (nI cd)), (13, .int (nI 0))]) K dL_acts_985 (by decide) rfl ?_
                  refine r_iconst K (nI 0) dL_acts_987 (by decide) ?_
                  refine r_istore (lv' := [(0, .ref (a 0)), (1, .ref (b 0)), (2, .ref (e 0)), (3, .ref (e 1)), (4, .ref (e 2)), (5, .ref (e 3)), (6, .int xx), (7, .int yy), (8, .int (nI kn)), (9, .int (nI its)), (10, .int (nI col)), (11, .int (nI dk)), (12, .int (nI cd)), (13, .int (nI 0)), (14, .int (nI 0))]) K dL_acts_988 (by decide) rfl ?_
                  have LB65 : ∀ (z66 : Nat) (j : Nat) (k2 : Nat) (n2 : Nat), S 4 0 - j < z66 → (j ≤ S 4 0) → (k2 ≤ 20) → (n2 ≤ 120) → G k2 n2 (wW a b e c S J S K2 U []) [(0, .ref (a 0)), (1, .ref (b 0)), (2, .ref (e 0)), (3, .ref (e 1)), (4, .ref (e 2)), (5, .ref (e 3)), (6, .int xx), (7, .int yy), (8, .int (nI kn)), (9, .int (nI its)), (10, .int (nI col)), (11, .int (nI dk)), (12, .int (nI cd)), (13, .int (nI ((anyB (lvB S cd) j).toNat))), (14, .int (nI j))] 990 [] := by
                    intro z66
                    induction z66 with
                    | zero => intro j k2 n2 hz hj hk2 hn2; exact absurd hz (by omega)
                    | succ z66 ih67 =>
                      intro j k2 n2 hz hj hk2 hn2
                      refine r_iload K dL_acts_990 rfl ?_
                      refine r_aload K dL_acts_992 rfl ?_
                      refine r_iconst K (nI 2) dL_acts_994 (by decide) ?_
                      refine r_ldZ K 3 (zX_g3 _ _ _ _) (by omega) (by decide) dL_acts_995 ?_
                      refine r_top (congrArg nI (show _ = S 4 0 from hg2)) ?_
                      refine r_ic_ge K 1042 dL_acts_996 (by decide) (by omega) (by omega) (fun hq_68 => ?_) (fun hq_68 => ?_)
                      ·
                        have ej : j = S 4 0 := by omega
                        refine r_lv (lv' := [(0, .ref (a 0)), (1, .ref (b 0)), (2, .ref (e 0)), (3, .ref (e 1)), (4, .ref (e 2)), (5, .ref (e 3)), (6, .int xx), (7, .int yy), (8, .int (nI kn)), (9, .int (nI its)), (10, .int (nI col)), (11, .int (nI dk)), (12, .int (nI cd)), (13, .int (nI ((liveB S cd).toNat))), (14, .int (nI j))]) (by rw [ej]; rfl) ?_
                        have h16 := rel_no_le hR bcd
                        have h15 := V_kind hV cd
                        have h17 := rel_col hR bcd
                        refine r_aload_n K dL_acts_1042 rfl ?_
                        refine r_iload K dL_acts_1043 rfl ?_
                        refine r_callO (rest := []) KE (w_printOf_0 l D a c S hl0 hV  cd (by omega)) 2 gL_acts_L_printOf rfl (by decide +kernel) rfl ⟨⟨Nat.le_of_ble_eq_true rfl, Nat.le_of_ble_eq_true rfl⟩, (by show k2 + 1 ≤ 2400; omega), (by show n2 + 6 ≤ 14400; omega)⟩ rfl (Nat.le_of_ble_eq_true rfl) dL_acts_1045 (fun J69 => ?_)
                        refine r_bipush K (nI 100) dL_acts_1048 (by decide) ?_
                        refine r_idiv K dL_acts_1050 (by omega) (by omega) (by omega) ?_
                        refine r_top (congrArg nI (show _ = S 15 cd from (by omega))) ?_
                        refine r_istore (lv' := [(0, .ref (a 0)), (1, .ref (b 0)), (2, .ref (e 0)), (3, .ref (e 1)), (4, .ref (e 2)), (5, .ref (e 3)), (6, .int xx), (7, .int yy), (8, .int (nI kn)), (9, .int (nI its)), (10, .int (nI col)), (11, .int (nI dk)), (12, .int (nI cd)), (13, .int (nI ((liveB S cd).toNat))), (14, .int (nI (S 15 cd)))]) K dL_acts_1051 (by decide) rfl ?_
                        refine r_iload K dL_acts_1053 rfl ?_
                        refine r_iload K dL_acts_1055 rfl ?_
                        refine r_ic_ne K 1065 dL_acts_1057 (by decide) (by omega) (by omega) (fun hq_70 => ?_) (fun hq_70 => ?_)
                        ·
                          refine r_iload K dL_acts_1065 rfl ?_
                          refine r_if_neB K 1079 dL_acts_1067 (by decide) (fun hq_71 => ?_) (fun hq_71 => ?_)
                          ·
                            refine r_ldc K (v := -1000003) (List.mem_of_getElem? (i := 2) rfl) dL_acts_1079 ?_
                            refine r_goto K 1088 dL_acts_1081 (by decide) ?_
                            refine r_istore (lv' := [(0, .ref (a 0)), (1, .ref (b 0)), (2, .ref (e 0)), (3, .ref (e 1)), (4, .ref (e 2)), (5, .ref (e 3)), (6, .int xx), (7, .int yy), (8, .int (nI kn)), (9, .int (nI its)), (10, .int (nI col)), (11, .int (nI dk)), (12, .int (nI cd)), (13, .int (nI ((liveB S cd).toNat))), (14, .int (nI (S 15 cd))), (15, .int (-1000003))]) K dL_acts_1088 (by decide) rfl ?_
                            refine r_iload K dL_acts_1090 rfl ?_
                            refine r_if_ltR K 1128 dL_acts_1092 (by decide) (fun hq_72 => ?_) (fun hq_72 => absurd (by decide) hq_72)
                            refine r_aload_n K dL_acts_1128 rfl ?_
                            refine r_iload K dL_acts_1129 rfl ?_
                            refine r_iload K dL_acts_1131 rfl ?_
                            refine r_callO (rest := []) KE (w_offer_3 l D a c S hl0 hV  cd its (by omega) (by omega) hq_70 (by rw [hq_71]; rfl)) 3 gL_acts_L_offer rfl (by decide +kernel) rfl ⟨⟨Nat.le_of_ble_eq_true rfl, Nat.le_of_ble_eq_true rfl⟩, (by show k2 + 1 + 3 ≤ 2400; omega), (by show n2 + 6 + 18 ≤ 14400; omega)⟩ rfl (Nat.le_of_ble_eq_true rfl) dL_acts_1133 (fun J73 => ?_)
                            refine r_iload K dL_acts_1136 rfl ?_
                            refine r_ic_neR K 1199 dL_acts_1138 (by decide) (fun hq_74 => absurd rfl hq_74) (fun hq_74 => ?_)
                            refine r_aload_n K dL_acts_1141 rfl ?_
                            refine r_iload K dL_acts_1142 rfl ?_
                            refine r_iload K dL_acts_1144 rfl ?_
                            refine r_callT (rest := []) KE (w_offer_3 l D b c S hl0 hV  cd its (by omega) (by omega) hq_70 (by rw [hq_71]; rfl)) 3 gL_acts_L_offer rfl (by decide +kernel) rfl ⟨⟨Nat.le_of_ble_eq_true rfl, Nat.le_of_ble_eq_true rfl⟩, (by show k2 + 4 + 3 ≤ 2400; omega), (by show n2 + 24 + 18 ≤ 14400; omega)⟩ rfl (Nat.le_of_ble_eq_true rfl) dL_acts_1146 (fun J75 => ?_)
                            refine r_iload K dL_acts_1149 rfl ?_
                            refine r_ic_neR K 1199 dL_acts_1151 (by decide) (fun hq_76 => absurd rfl hq_76) (fun hq_76 => ?_)
                            refine r_aload_n K dL_acts_1154 rfl ?_
                            refine r_aload K dL_acts_1155 rfl ?_
                            refine r_iconst K (nI 0) dL_acts_1157 (by decide) ?_
                            refine r_ldZ K 3 (zX_g3 _ _ _ _) (by omega) (by decide) dL_acts_1158 ?_
                            refine r_top (congrArg nI (show _ = S 2 0 from hg0)) ?_
                            refine r_bipush K (nI 16) dL_acts_1159 (by decide) ?_
                            refine r_callO (rest := []) KE (x_offer_1 l D a c S hl0 hV  (nI (S 2 0)) (nI 16) (and_f2 (by decide))) 3 gL_acts_L_offer rfl (by decide +kernel) rfl ⟨⟨Nat.le_of_ble_eq_true rfl, Nat.le_of_ble_eq_true rfl⟩, (by show k2 + 7 + 3 ≤ 2400; omega), (by show n2 + 42 + 18 ≤ 14400; omega)⟩ rfl (Nat.le_of_ble_eq_true rfl) dL_acts_1161 (fun J77 => ?_)
                            refine r_ldc K (v := -1000001) (List.mem_of_getElem? (i := 1) rfl) dL_acts_1164 ?_
                            refine r_ic_neR K 1199 dL_acts_1166 (by decide) (fun hq_78 => absurd rfl hq_78) (fun hq_78 => ?_)
                            refine r_aload_n K dL_acts_1169 rfl ?_
                            refine r_iload K dL_acts_1170 rfl ?_
                            refine r_bipush K (nI 16) dL_acts_1172 (by decide) ?_
                            refine r_callO (rest := []) KE (x_offer_1 l D a c S hl0 hV  (nI cd) (nI 16) (and_f2 (by decide))) 3 gL_acts_L_offer rfl (by decide +kernel) rfl ⟨⟨Nat.le_of_ble_eq_true rfl, Nat.le_of_ble_eq_true rfl⟩, (by show k2 + 10 + 3 ≤ 2400; omega), (by show n2 + 60 + 18 ≤ 14400; omega)⟩ rfl (Nat.le_of_ble_eq_true rfl) dL_acts_1174 (fun J79 => ?_)
                            refine r_ldc K (v := -1000001) (List.mem_of_getElem? (i := 1) rfl) dL_acts_1177 ?_
                            refine r_ic_neR K 1199 dL_acts_1179 (by decide) (fun hq_80 => absurd rfl hq_80) (fun hq_80 => ?_)
                            refine r_aload_n K dL_acts_1182 rfl ?_
                            refine r_iload K dL_acts_1183 rfl ?_
                            refine r_iload K dL_acts_1185 rfl ?_
                            refine r_callO (rest := []) KE (w_offer_2 l D a c S hl0 hV  cd (S 15 cd) (by omega) (by omega) (decide_eq_false (fun q => q rfl))) 3 gL_acts_L_offer rfl (by decide +kernel) rfl ⟨⟨Nat.le_of_ble_eq_true rfl, Nat.le_of_ble_eq_true rfl⟩, (by show k2 + 13 + 3 ≤ 2400; omega), (by show n2 + 78 + 18 ≤ 14400; omega)⟩ rfl (Nat.le_of_ble_eq_true rfl) dL_acts_1187 (fun J81 => ?_)
                            refine r_ldc K (v := -1000002) (List.mem_of_getElem? (i := 3) rfl) dL_acts_1190 ?_
                            refine r_ic_neR K 1199 dL_acts_1192 (by decide) (fun hq_82 => absurd rfl hq_82) (fun hq_82 => ?_)
                            refine r_iconst K (nI 1) dL_acts_1195 (by decide) ?_
                            refine r_goto K 1200 dL_acts_1196 (by decide) ?_
                            exact hret _ _ _ _ _ 1 (S, J81, J75, U) [] dL_acts_1200 (by decide) ⟨rfl, hI.mono (by omega), hR⟩ (List.append_nil _).symm (by show k2 + 16 ≤ 2400; omega) (by show n2 + 96 ≤ 14400; omega)
                          ·
                            refine r_aload K dL_acts_1070 rfl ?_
                            refine r_iconst K (nI 2) dL_acts_1072 (by decide) ?_
                            refine r_ldZ K 3 (zX_g3 _ _ _ _) (by omega) (by decide) dL_acts_1073 ?_
                            refine r_top (congrArg nI (show _ = S 4 0 from hg2)) ?_
                            refine r_bipush K (nI 40) dL_acts_1074 (by decide) ?_
                            refine r_ic_ne K 1084 dL_acts_1076 (by decide) (by omega) (by decide) (fun hq_83 => ?_) (fun hq_83 => ?_)
                            ·
                              refine r_aload K dL_acts_1084 rfl ?_
                              refine r_iconst K (nI 2) dL_acts_1086 (by decide) ?_
                              refine r_ldZ K 3 (zX_g3 _ _ _ _) (by omega) (by decide) dL_acts_1087 ?_
                              refine r_top (congrArg nI (show _ = S 4 0 from hg2)) ?_
                              refine r_istore (lv' := [(0, .ref (a 0)), (1, .ref (b 0)), (2, .ref (e 0)), (3, .ref (e 1)), (4, .ref (e 2)), (5, .ref (e 3)), (6, .int xx), (7, .int yy), (8, .int (nI kn)), (9, .int (nI its)), (10, .int (nI col)), (11, .int (nI dk)), (12, .int (nI cd)), (13, .int (nI ((liveB S cd).toNat))), (14, .int (nI (S 15 cd))), (15, .int (nI (S 4 0)))]) K dL_acts_1088 (by decide) rfl ?_
                              refine r_iload K dL_acts_1090 rfl ?_
                              refine r_if_lt K 1128 dL_acts_1092 (by decide) (by omega) (fun hq_84 => by omega) (fun hq_84 => ?_)
                              refine r_aload K dL_acts_1095 rfl ?_
                              refine r_iload K dL_acts_1097 rfl ?_
                              refine r_iload K dL_acts_1099 rfl ?_
                              refine r_sipush K (nI 128) dL_acts_1101 (by decide) ?_
                              refine r_iload K dL_acts_1104 rfl ?_
                              refine r_imul K dL_acts_1106 ?_
                              refine r_iadd K dL_acts_1107 ?_
                              refine r_sipush K (nI 4096) dL_acts_1108 (by decide) ?_
                              refine r_aload_n K dL_acts_1111 rfl ?_
                              refine r_iload K dL_acts_1112 rfl ?_
                              refine r_callO (rest := [.int (nI 4096), .int (nI (cd + (128 * its))), .int (nI (S 4 0)), .ref (e 2)]) KE (w_collectorOf_0 l D a c S hl0 hV  cd (by omega)) 2 gL_acts_L_collectorOf rfl (by decide +kernel) rfl ⟨⟨Nat.le_of_ble_eq_true rfl, Nat.le_of_ble_eq_true rfl⟩, (by show k2 + 1 + 1 ≤ 2400; omega), (by show n2 + 6 + 6 ≤ 14400; omega)⟩ rfl (Nat.le_of_ble_eq_true rfl) dL_acts_1114 (fun J85 => ?_)
                              refine r_imul K dL_acts_1117 ?_
                              refine r_iadd K dL_acts_1118 ?_
                              refine r_stZ (U' := up U 2 (S 4 0) ((cd + (128 * its)) + (4096 * S 17 cd))) K 2 (zX_g2 _ _ _ _) (by omega) (by decide) dL_acts_1119 (zX_s2 _ _ _ _ _ _) ?_
                              refine r_aload K dL_acts_1120 rfl ?_
                              refine r_iconst K (nI 2) dL_acts_1122 (by decide) ?_
                              refine r_dup2 K dL_acts_1123 rfl rfl ?_
                              refine r_ldZ K 3 (zX_g3 _ _ _ _) (by omega) (by decide) dL_acts_1124 ?_
                              refine r_top (congrArg nI (show _ = S 4 0 from (by rw [up_ne (by decide)]; exact hg2))) ?_
                              refine r_iconst K (nI 1) dL_acts_1125 (by decide) ?_
                              refine r_iadd K dL_acts_1126 ?_
                              refine r_stZ (U' := up (up U 2 (S 4 0) ((cd + (128 * its)) + (4096 * S 17 cd))) 3 2 (S 4 0 + 1)) K 3 (zX_g3 _ _ _ _) (by omega) (by decide) dL_acts_1127 (zX_s3 _ _ _ _ _ _) ?_
                              refine r_aload_n K dL_acts_1128 rfl ?_
                              refine r_iload K dL_acts_1129 rfl ?_
                              refine r_iload K dL_acts_1131 rfl ?_
                              refine r_callO (rest := []) KE (w_offer_0 l D a c S hl0 hV  cd its (by omega) (by omega) hq_70 hq_71 (by omega)) 3 gL_acts_L_offer rfl (by decide +kernel) rfl ⟨⟨Nat.le_of_ble_eq_true rfl, Nat.le_of_ble_eq_true rfl⟩, (by show k2 + 2 + 3 ≤ 2400; omega), (by show n2 + 12 + 18 ≤ 14400; omega)⟩ rfl (Nat.le_of_ble_eq_true rfl) dL_acts_1133 (fun J88 => ?_)
                              obtain ⟨S1, hS1⟩ : ∃ X : St, X = offS S cd its := ⟨_, rfl⟩
                              have hI1 : Inv (m + 1) S1 := by rw [hS1]; exact (inv_offer hI (by omega) (by omega) hq_71 (by omega)).mono (by omega)
                              have hV1 := hI1.V (by omega)
                              have h251 := hI1.2.2.1.lt2
                              have h131 := hI1.small (show m + 1 ≤ 600 by omega) 13
                              have h141 := hI1.small (show m + 1 ≤ 600 by omega) 14
                              have e2 : S1 2 0 = S 2 0 := by rw [hS1]; unfold offS; rw [up_ne (by decide), up_ne (by decide), up_ne (by decide), up_ne (by decide), up_ne (by decide), up_ne (by decide)]
                              have e15 : S1 15 = S 15 := by rw [hS1]; unfold offS; rw [up_ne (by decide), up_ne (by decide), up_ne (by decide), up_ne (by decide), up_ne (by decide), up_ne (by decide)]
                              refine r_w (ws' := wW a b e c S1 J88 S K2 (up (up U 2 (S 4 0) ((cd + (128 * its)) + (4096 * S 17 cd))) 3 2 (S 4 0 + 1)) []) (by rw [hS1] <;> rfl) ?_
                              refine r_iload K dL_acts_1136 rfl ?_
                              refine r_ic_ne K 1199 dL_acts_1138 (by decide) (by omega) (by omega) (fun hq_89 => by omega) (fun hq_89 => ?_)
                              refine r_aload_n K dL_acts_1141 rfl ?_
                              refine r_iload K dL_acts_1142 rfl ?_
                              refine r_iload K dL_acts_1144 rfl ?_
                              refine r_callT (rest := []) KE (w_offer_0 l D b c S hl0 hV  cd its (by omega) (by omega) hq_70 hq_71 (by omega)) 3 gL_acts_L_offer rfl (by decide +kernel) rfl ⟨⟨Nat.le_of_ble_eq_true rfl, Nat.le_of_ble_eq_true rfl⟩, (by show k2 + 5 + 3 ≤ 2400; omega), (by show n2 + 30 + 18 ≤ 14400; omega)⟩ rfl (Nat.le_of_ble_eq_true rfl) dL_acts_1146 (fun J90 => ?_)
                              refine r_w (ws' := wW a b e c S1 J88 S1 J90 (up (up U 2 (S 4 0) ((cd + (128 * its)) + (4096 * S 17 cd))) 3 2 (S 4 0 + 1)) []) (by rw [hS1] <;> rfl) ?_
                              refine r_iload K dL_acts_1149 rfl ?_
                              refine r_ic_ne K 1199 dL_acts_1151 (by decide) (by omega) (by omega) (fun hq_91 => by omega) (fun hq_91 => ?_)
                              refine r_aload_n K dL_acts_1154 rfl ?_
                              refine r_aload K dL_acts_1155 rfl ?_
                              refine r_iconst K (nI 0) dL_acts_1157 (by decide) ?_
                              refine r_ldZ K 3 (zX_g3 _ _ _ _) (by omega) (by decide) dL_acts_1158 ?_
                              refine r_top (congrArg nI (show _ = S 2 0 from (by rw [up_nk (by decide), up_ne (by decide)]; exact hg0))) ?_
                              refine r_bipush K (nI 16) dL_acts_1159 (by decide) ?_
                              refine r_callO (rest := []) KE (x_offer_1 l D a c S1 hl0 hV1  (nI (S 2 0)) (nI 16) (and_f2 (by decide))) 3 gL_acts_L_offer rfl (by decide +kernel) rfl ⟨⟨Nat.le_of_ble_eq_true rfl, Nat.le_of_ble_eq_true rfl⟩, (by show k2 + 8 + 3 ≤ 2400; omega), (by show n2 + 48 + 18 ≤ 14400; omega)⟩ rfl (Nat.le_of_ble_eq_true rfl) dL_acts_1161 (fun J92 => ?_)
                              refine r_ldc K (v := -1000001) (List.mem_of_getElem? (i := 1) rfl) dL_acts_1164 ?_
                              refine r_ic_neR K 1199 dL_acts_1166 (by decide) (fun hq_93 => absurd rfl hq_93) (fun hq_93 => ?_)
                              refine r_aload_n K dL_acts_1169 rfl ?_
                              refine r_iload K dL_acts_1170 rfl ?_
                              refine r_bipush K (nI 16) dL_acts_1172 (by decide) ?_
                              refine r_callO (rest := []) KE (x_offer_1 l D a c S1 hl0 hV1  (nI cd) (nI 16) (and_f2 (by decide))) 3 gL_acts_L_offer rfl (by decide +kernel) rfl ⟨⟨Nat.le_of_ble_eq_true rfl, Nat.le_of_ble_eq_true rfl⟩, (by show k2 + 11 + 3 ≤ 2400; omega), (by show n2 + 66 + 18 ≤ 14400; omega)⟩ rfl (Nat.le_of_ble_eq_true rfl) dL_acts_1174 (fun J94 => ?_)
                              refine r_ldc K (v := -1000001) (List.mem_of_getElem? (i := 1) rfl) dL_acts_1177 ?_
                              refine r_ic_neR K 1199 dL_acts_1179 (by decide) (fun hq_95 => absurd rfl hq_95) (fun hq_95 => ?_)
                              refine r_aload_n K dL_acts_1182 rfl ?_
                              refine r_iload K dL_acts_1183 rfl ?_
                              refine r_iload K dL_acts_1185 rfl ?_
                              refine r_callO (rest := []) KE (w_offer_2 l D a c S1 hl0 hV1  cd (S 15 cd) (by omega) (by omega) (decide_eq_false (fun q => q (by rw [e15])))) 3 gL_acts_L_offer rfl (by decide +kernel) rfl ⟨⟨Nat.le_of_ble_eq_true rfl, Nat.le_of_ble_eq_true rfl⟩, (by show k2 + 14 + 3 ≤ 2400; omega), (by show n2 + 84 + 18 ≤ 14400; omega)⟩ rfl (Nat.le_of_ble_eq_true rfl) dL_acts_1187 (fun J96 => ?_)
                              refine r_ldc K (v := -1000002) (List.mem_of_getElem? (i := 3) rfl) dL_acts_1190 ?_
                              refine r_ic_neR K 1199 dL_acts_1192 (by decide) (fun hq_97 => absurd rfl hq_97) (fun hq_97 => ?_)
                              refine r_iconst K (nI 1) dL_acts_1195 (by decide) ?_
                              refine r_goto K 1200 dL_acts_1196 (by decide) ?_
                              exact hret _ _ _ _ _ 1 (S1, J96, J90, up (up U 2 (S 4 0) ((cd + (128 * its)) + (4096 * S 17 cd))) 3 2 (S 4 0 + 1)) [] dL_acts_1200 (by decide) ⟨rfl, hI1, (by rw [hS1]; exact rel_offer hR (by omega) (by omega))⟩ (List.append_nil _).symm (by show k2 + 17 ≤ 2400; omega) (by show n2 + 102 ≤ 14400; omega)
                            ·
                              refine r_ldc K (v := -1000003) (List.mem_of_getElem? (i := 2) rfl) dL_acts_1079 ?_
                              refine r_goto K 1088 dL_acts_1081 (by decide) ?_
                              refine r_istore (lv' := [(0, .ref (a 0)), (1, .ref (b 0)), (2, .ref (e 0)), (3, .ref (e 1)), (4, .ref (e 2)), (5, .ref (e 3)), (6, .int xx), (7, .int yy), (8, .int (nI kn)), (9, .int (nI its)), (10, .int (nI col)), (11, .int (nI dk)), (12, .int (nI cd)), (13, .int (nI ((liveB S cd).toNat))), (14, .int (nI (S 15 cd))), (15, .int (-1000003))]) K dL_acts_1088 (by decide) rfl ?_
                              refine r_iload K dL_acts_1090 rfl ?_
                              refine r_if_ltR K 1128 dL_acts_1092 (by decide) (fun hq_98 => ?_) (fun hq_98 => absurd (by decide) hq_98)
                              refine r_aload_n K dL_acts_1128 rfl ?_
                              refine r_iload K dL_acts_1129 rfl ?_
                              refine r_iload K dL_acts_1131 rfl ?_
                              refine r_callO (rest := []) KE (w_offer_3 l D a c S hl0 hV  cd its (by omega) (by omega) hq_70 (by rw [decide_eq_false (show ¬ S 4 0 < 40 by omega)]; exact Bool.and_false _)) 3 gL_acts_L_offer rfl (by decide +kernel) rfl ⟨⟨Nat.le_of_ble_eq_true rfl, Nat.le_of_ble_eq_true rfl⟩, (by show k2 + 1 + 3 ≤ 2400; omega), (by show n2 + 6 + 18 ≤ 14400; omega)⟩ rfl (Nat.le_of_ble_eq_true rfl) dL_acts_1133 (fun J99 => ?_)
                              refine r_iload K dL_acts_1136 rfl ?_
                              refine r_ic_neR K 1199 dL_acts_1138 (by decide) (fun hq_100 => absurd rfl hq_100) (fun hq_100 => ?_)
                              refine r_aload_n K dL_acts_1141 rfl ?_
                              refine r_iload K dL_acts_1142 rfl ?_
                              refine r_iload K dL_acts_1144 rfl ?_
                              refine r_callT (rest := []) KE (w_offer_3 l D b c S hl0 hV  cd its (by omega) (by omega) hq_70 (by rw [decide_eq_false (show ¬ S 4 0 < 40 by omega)]; exact Bool.and_false _)) 3 gL_acts_L_offer rfl (by decide +kernel) rfl ⟨⟨Nat.le_of_ble_eq_true rfl, Nat.le_of_ble_eq_true rfl⟩, (by show k2 + 4 + 3 ≤ 2400; omega), (by show n2 + 24 + 18 ≤ 14400; omega)⟩ rfl (Nat.le_of_ble_eq_true rfl) dL_acts_1146 (fun J101 => ?_)
                              refine r_iload K dL_acts_1149 rfl ?_
                              refine r_ic_neR K 1199 dL_acts_1151 (by decide) (fun hq_102 => absurd rfl hq_102) (fun hq_102 => ?_)
                              refine r_aload_n K dL_acts_1154 rfl ?_
                              refine r_aload K dL_acts_1155 rfl ?_
                              refine r_iconst K (nI 0) dL_acts_1157 (by decide) ?_
                              refine r_ldZ K 3 (zX_g3 _ _ _ _) (by omega) (by decide) dL_acts_1158 ?_
                              refine r_top (congrArg nI (show _ = S 2 0 from hg0)) ?_
                              refine r_bipush K (nI 16) dL_acts_1159 (by decide) ?_
                              refine r_callO (rest := []) KE (x_offer_1 l D a c S hl0 hV  (nI (S 2 0)) (nI 16) (and_f2 (by decide))) 3 gL_acts_L_offer rfl (by decide +kernel) rfl ⟨⟨Nat.le_of_ble_eq_true rfl, Nat.le_of_ble_eq_true rfl⟩, (by show k2 + 7 + 3 ≤ 2400; omega), (by show n2 + 42 + 18 ≤ 14400; omega)⟩ rfl (Nat.le_of_ble_eq_true rfl) dL_acts_1161 (fun J103 => ?_)
                              refine r_ldc K (v := -1000001) (List.mem_of_getElem? (i := 1) rfl) dL_acts_1164 ?_
                              refine r_ic_neR K 1199 dL_acts_1166 (by decide) (fun hq_104 => absurd rfl hq_104) (fun hq_104 => ?_)
                              refine r_aload_n K dL_acts_1169 rfl ?_
                              refine r_iload K dL_acts_1170 rfl ?_
                              refine r_bipush K (nI 16) dL_acts_1172 (by decide) ?_
                              refine r_callO (rest := []) KE (x_offer_1 l D a c S hl0 hV  (nI cd) (nI 16) (and_f2 (by decide))) 3 gL_acts_L_offer rfl (by decide +kernel) rfl ⟨⟨Nat.le_of_ble_eq_true rfl, Nat.le_of_ble_eq_true rfl⟩, (by show k2 + 10 + 3 ≤ 2400; omega), (by show n2 + 60 + 18 ≤ 14400; omega)⟩ rfl (Nat.le_of_ble_eq_true rfl) dL_acts_1174 (fun J105 => ?_)
                              refine r_ldc K (v := -1000001) (List.mem_of_getElem? (i := 1) rfl) dL_acts_1177 ?_
                              refine r_ic_neR K 1199 dL_acts_1179 (by decide) (fun hq_106 => absurd rfl hq_106) (fun hq_106 => ?_)
                              refine r_aload_n K dL_acts_1182 rfl ?_
                              refine r_iload K dL_acts_1183 rfl ?_
                              refine r_iload K dL_acts_1185 rfl ?_
                              refine r_callO (rest := []) KE (w_offer_2 l D a c S hl0 hV  cd (S 15 cd) (by omega) (by omega) (decide_eq_false (fun q => q rfl))) 3 gL_acts_L_offer rfl (by decide +kernel) rfl ⟨⟨Nat.le_of_ble_eq_true rfl, Nat.le_of_ble_eq_true rfl⟩, (by show k2 + 13 + 3 ≤ 2400; omega), (by show n2 + 78 + 18 ≤ 14400; omega)⟩ rfl (Nat.le_of_ble_eq_true rfl) dL_acts_1187 (fun J107 => ?_)
                              refine r_ldc K (v := -1000002) (List.mem_of_getElem? (i := 3) rfl) dL_acts_1190 ?_
                              refine r_ic_neR K 1199 dL_acts_1192 (by decide) (fun hq_108 => absurd rfl hq_108) (fun hq_108 => ?_)
                              refine r_iconst K (nI 1) dL_acts_1195 (by decide) ?_
                              refine r_goto K 1200 dL_acts_1196 (by decide) ?_
                              exact hret _ _ _ _ _ 1 (S, J107, J101, U) [] dL_acts_1200 (by decide) ⟨rfl, hI.mono (by omega), hR⟩ (List.append_nil _).symm (by show k2 + 16 ≤ 2400; omega) (by show n2 + 96 ≤ 14400; omega)
                        ·
                          refine r_ldc K (v := -1000002) (List.mem_of_getElem? (i := 3) rfl) dL_acts_1060 ?_
                          refine r_goto K 1088 dL_acts_1062 (by decide) ?_
                          refine r_istore (lv' := [(0, .ref (a 0)), (1, .ref (b 0)), (2, .ref (e 0)), (3, .ref (e 1)), (4, .ref (e 2)), (5, .ref (e 3)), (6, .int xx), (7, .int yy), (8, .int (nI kn)), (9, .int (nI its)), (10, .int (nI col)), (11, .int (nI dk)), (12, .int (nI cd)), (13, .int (nI ((liveB S cd).toNat))), (14, .int (nI (S 15 cd))), (15, .int (-1000002))]) K dL_acts_1088 (by decide) rfl ?_
                          refine r_iload K dL_acts_1090 rfl ?_
                          refine r_if_ltR K 1128 dL_acts_1092 (by decide) (fun hq_109 => ?_) (fun hq_109 => absurd (by decide) hq_109)
                          refine r_aload_n K dL_acts_1128 rfl ?_
                          refine r_iload K dL_acts_1129 rfl ?_
                          refine r_iload K dL_acts_1131 rfl ?_
                          refine r_callO (rest := []) KE (w_offer_2 l D a c S hl0 hV  cd its (by omega) (by omega) (decide_eq_false (fun q => q hq_70))) 3 gL_acts_L_offer rfl (by decide +kernel) rfl ⟨⟨Nat.le_of_ble_eq_true rfl, Nat.le_of_ble_eq_true rfl⟩, (by show k2 + 1 + 3 ≤ 2400; omega), (by show n2 + 6 + 18 ≤ 14400; omega)⟩ rfl (Nat.le_of_ble_eq_true rfl) dL_acts_1133 (fun J110 => ?_)
                          refine r_iload K dL_acts_1136 rfl ?_
                          refine r_ic_neR K 1199 dL_acts_1138 (by decide) (fun hq_111 => absurd rfl hq_111) (fun hq_111 => ?_)
                          refine r_aload_n K dL_acts_1141 rfl ?_
                          refine r_iload K dL_acts_1142 rfl ?_
                          refine r_iload K dL_acts_1144 rfl ?_
                          refine r_callT (rest := []) KE (w_offer_2 l D b c S hl0 hV  cd its (by omega) (by omega) (decide_eq_false (fun q => q hq_70))) 3 gL_acts_L_offer rfl (by decide +kernel) rfl ⟨⟨Nat.le_of_ble_eq_true rfl, Nat.le_of_ble_eq_true rfl⟩, (by show k2 + 4 + 3 ≤ 2400; omega), (by show n2 + 24 + 18 ≤ 14400; omega)⟩ rfl (Nat.le_of_ble_eq_true rfl) dL_acts_1146 (fun J112 => ?_)
                          refine r_iload K dL_acts_1149 rfl ?_
                          refine r_ic_neR K 1199 dL_acts_1151 (by decide) (fun hq_113 => absurd rfl hq_113) (fun hq_113 => ?_)
                          refine r_aload_n K dL_acts_1154 rfl ?_
                          refine r_aload K dL_acts_1155 rfl ?_
                          refine r_iconst K (nI 0) dL_acts_1157 (by decide) ?_
                          refine r_ldZ K 3 (zX_g3 _ _ _ _) (by omega) (by decide) dL_acts_1158 ?_
                          refine r_top (congrArg nI (show _ = S 2 0 from hg0)) ?_
                          refine r_bipush K (nI 16) dL_acts_1159 (by decide) ?_
                          refine r_callO (rest := []) KE (x_offer_1 l D a c S hl0 hV  (nI (S 2 0)) (nI 16) (and_f2 (by decide))) 3 gL_acts_L_offer rfl (by decide +kernel) rfl ⟨⟨Nat.le_of_ble_eq_true rfl, Nat.le_of_ble_eq_true rfl⟩, (by show k2 + 7 + 3 ≤ 2400; omega), (by show n2 + 42 + 18 ≤ 14400; omega)⟩ rfl (Nat.le_of_ble_eq_true rfl) dL_acts_1161 (fun J114 => ?_)
                          refine r_ldc K (v := -1000001) (List.mem_of_getElem? (i := 1) rfl) dL_acts_1164 ?_
                          refine r_ic_neR K 1199 dL_acts_1166 (by decide) (fun hq_115 => absurd rfl hq_115) (fun hq_115 => ?_)
                          refine r_aload_n K dL_acts_1169 rfl ?_
                          refine r_iload K dL_acts_1170 rfl ?_
                          refine r_bipush K (nI 16) dL_acts_1172 (by decide) ?_
                          refine r_callO (rest := []) KE (x_offer_1 l D a c S hl0 hV  (nI cd) (nI 16) (and_f2 (by decide))) 3 gL_acts_L_offer rfl (by decide +kernel) rfl ⟨⟨Nat.le_of_ble_eq_true rfl, Nat.le_of_ble_eq_true rfl⟩, (by show k2 + 10 + 3 ≤ 2400; omega), (by show n2 + 60 + 18 ≤ 14400; omega)⟩ rfl (Nat.le_of_ble_eq_true rfl) dL_acts_1174 (fun J116 => ?_)
                          refine r_ldc K (v := -1000001) (List.mem_of_getElem? (i := 1) rfl) dL_acts_1177 ?_
                          refine r_ic_neR K 1199 dL_acts_1179 (by decide) (fun hq_117 => absurd rfl hq_117) (fun hq_117 => ?_)
                          refine r_aload_n K dL_acts_1182 rfl ?_
                          refine r_iload K dL_acts_1183 rfl ?_
                          refine r_iload K dL_acts_1185 rfl ?_
                          refine r_callO (rest := []) KE (w_offer_2 l D a c S hl0 hV  cd (S 15 cd) (by omega) (by omega) (decide_eq_false (fun q => q rfl))) 3 gL_acts_L_offer rfl (by decide +kernel) rfl ⟨⟨Nat.le_of_ble_eq_true rfl, Nat.le_of_ble_eq_true rfl⟩, (by show k2 + 13 + 3 ≤ 2400; omega), (by show n2 + 78 + 18 ≤ 14400; omega)⟩ rfl (Nat.le_of_ble_eq_true rfl) dL_acts_1187 (fun J118 => ?_)
                          refine r_ldc K (v := -1000002) (List.mem_of_getElem? (i := 3) rfl) dL_acts_1190 ?_
                          refine r_ic_neR K 1199 dL_acts_1192 (by decide) (fun hq_119 => absurd rfl hq_119) (fun hq_119 => ?_)
                          refine r_iconst K (nI 1) dL_acts_1195 (by decide) ?_
                          refine r_goto K 1200 dL_acts_1196 (by decide) ?_
                          exact hret _ _ _ _ _ 1 (S, J118, J112, U) [] dL_acts_1200 (by decide) ⟨rfl, hI.mono (by omega), hR⟩ (List.append_nil _).symm (by show k2 + 16 ≤ 2400; omega) (by show n2 + 96 ≤ 14400; omega)
                      ·
                        have hj2 : j < S 4 0 := by omega
                        have hcj := of_card hI hj2
                        obtain ⟨j1, j2, j3, j4, j5⟩ := rel_o hR h25 hj2 hcj
                        have hb25 := h25 j
                        refine r_iload K dL_acts_999 rfl ?_
                        refine r_if_neB K 1029 dL_acts_1001 (by decide) (fun hq_120 => ?_) (fun hq_120 => ?_)
                        ·
                          refine r_iconst K (nI 1) dL_acts_1029 (by decide) ?_
                          refine r_top (congrArg nI (show _ = (anyB (lvB S cd) (j + 1)).toNat from (by rw [lv_t hq_120]; rfl))) ?_
                          refine r_goto K 1034 dL_acts_1030 (by decide) ?_
                          refine r_istore (lv' := [(0, .ref (a 0)), (1, .ref (b 0)), (2, .ref (e 0)), (3, .ref (e 1)), (4, .ref (e 2)), (5, .ref (e 3)), (6, .int xx), (7, .int yy), (8, .int (nI kn)), (9, .int (nI its)), (10, .int (nI col)), (11, .int (nI dk)), (12, .int (nI cd)), (13, .int (nI ((anyB (lvB S cd) (j + 1)).toNat))), (14, .int (nI j))]) K dL_acts_1034 (by decide) rfl ?_
                          refine r_iinc (lv' := [(0, .ref (a 0)), (1, .ref (b 0)), (2, .ref (e 0)), (3, .ref (e 1)), (4, .ref (e 2)), (5, .ref (e 3)), (6, .int xx), (7, .int yy), (8, .int (nI kn)), (9, .int (nI its)), (10, .int (nI col)), (11, .int (nI dk)), (12, .int (nI cd)), (13, .int (nI ((anyB (lvB S cd) (j + 1)).toNat))), (14, .int (nI (j + 1)))]) K dL_acts_1036 rfl (nI_1 _) (by decide) rfl ?_
                          refine r_goto K 990 dL_acts_1039 (by decide) ?_
                          exact ih67 (j + 1) _ _ (by omega) (by omega) (by show k2 ≤ _; omega) (by show n2 ≤ _; omega)
                        ·
                          refine r_aload K dL_acts_1004 rfl ?_
                          refine r_iload K dL_acts_1006 rfl ?_
                          refine r_ldZ K 2 (zX_g2 _ _ _ _) (by omega) (by decide) dL_acts_1008 ?_
                          refine r_sipush K (nI 128) dL_acts_1009 (by decide) ?_
                          refine r_irem K dL_acts_1012 (by omega) (by omega) (by omega) ?_
                          refine r_top (congrArg nI (show _ = S 21 j from j2)) ?_
                          refine r_iload K dL_acts_1013 rfl ?_
                          refine r_ic_ne K 1033 dL_acts_1015 (by decide) (by omega) (by omega) (fun hq_121 => ?_) (fun hq_121 => ?_)
                          ·
                            refine r_iconst K (nI 0) dL_acts_1033 (by decide) ?_
                            refine r_top (congrArg nI (show _ = (anyB (lvB S cd) (j + 1)).toNat from (by rw [lv_n1 hq_120 hq_121]; rfl))) ?_
                            refine r_istore (lv' := [(0, .ref (a 0)), (1, .ref (b 0)), (2, .ref (e 0)), (3, .ref (e 1)), (4, .ref (e 2)), (5, .ref (e 3)), (6, .int xx), (7, .int yy), (8, .int (nI kn)), (9, .int (nI its)), (10, .int (nI col)), (11, .int (nI dk)), (12, .int (nI cd)), (13, .int (nI ((anyB (lvB S cd) (j + 1)).toNat))), (14, .int (nI j))]) K dL_acts_1034 (by decide) rfl ?_
                            refine r_iinc (lv' := [(0, .ref (a 0)), (1, .ref (b 0)), (2, .ref (e 0)), (3, .ref (e 1)), (4, .ref (e 2)), (5, .ref (e 3)), (6, .int xx), (7, .int yy), (8, .int (nI kn)), (9, .int (nI its)), (10, .int (nI col)), (11, .int (nI dk)), (12, .int (nI cd)), (13, .int (nI ((anyB (lvB S cd) (j + 1)).toNat))), (14, .int (nI (j + 1)))]) K dL_acts_1036 rfl (nI_1 _) (by decide) rfl ?_
                            refine r_goto K 990 dL_acts_1039 (by decide) ?_
                            exact ih67 (j + 1) _ _ (by omega) (by omega) (by show k2 ≤ _; omega) (by show n2 ≤ _; omega)
                          ·
                            refine r_aload K dL_acts_1018 rfl ?_
                            refine r_iload K dL_acts_1020 rfl ?_
                            refine r_ldZ K 2 (zX_g2 _ _ _ _) (by omega) (by decide) dL_acts_1022 ?_
                            refine r_ldc K (v := nI 65536) (List.mem_of_getElem? (i := 4) rfl) dL_acts_1023 ?_
                            refine r_idiv K dL_acts_1025 (by omega) (by omega) (by omega) ?_
                            refine r_top (congrArg nI (show _ = 1 - S 25 j from j1)) ?_
                            refine r_if_ne K 1033 dL_acts_1026 (by decide) (by omega) (fun hq_122 => ?_) (fun hq_122 => ?_)
                            ·
                              refine r_iconst K (nI 0) dL_acts_1033 (by decide) ?_
                              refine r_top (congrArg nI (show _ = (anyB (lvB S cd) (j + 1)).toNat from (by rw [lv_n2 hq_120 (by omega)]; rfl))) ?_
                              refine r_istore (lv' := [(0, .ref (a 0)), (1, .ref (b 0)), (2, .ref (e 0)), (3, .ref (e 1)), (4, .ref (e 2)), (5, .ref (e 3)), (6, .int xx), (7, .int yy), (8, .int (nI kn)), (9, .int (nI its)), (10, .int (nI col)), (11, .int (nI dk)), (12, .int (nI cd)), (13, .int (nI ((anyB (lvB S cd) (j + 1)).toNat))), (14, .int (nI j))]) K dL_acts_1034 (by decide) rfl ?_
                              refine r_iinc (lv' := [(0, .ref (a 0)), (1, .ref (b 0)), (2, .ref (e 0)), (3, .ref (e 1)), (4, .ref (e 2)), (5, .ref (e 3)), (6, .int xx), (7, .int yy), (8, .int (nI kn)), (9, .int (nI its)), (10, .int (nI col)), (11, .int (nI dk)), (12, .int (nI cd)), (13, .int (nI ((anyB (lvB S cd) (j + 1)).toNat))), (14, .int (nI (j + 1)))]) K dL_acts_1036 rfl (nI_1 _) (by decide) rfl ?_
                              refine r_goto K 990 dL_acts_1039 (by decide) ?_
                              exact ih67 (j + 1) _ _ (by omega) (by omega) (by show k2 ≤ _; omega) (by show n2 ≤ _; omega)
                            ·
                              refine r_iconst K (nI 1) dL_acts_1029 (by decide) ?_
                              refine r_top (congrArg nI (show _ = (anyB (lvB S cd) (j + 1)).toNat from (by rw [lv_y (by omega) hq_121]; rfl))) ?_
                              refine r_goto K 1034 dL_acts_1030 (by decide) ?_
                              refine r_istore (lv' := [(0, .ref (a 0)), (1, .ref (b 0)), (2, .ref (e 0)), (3, .ref (e 1)), (4, .ref (e 2)), (5, .ref (e 3)), (6, .int xx), (7, .int yy), (8, .int (nI kn)), (9, .int (nI its)), (10, .int (nI col)), (11, .int (nI dk)), (12, .int (nI cd)), (13, .int (nI ((anyB (lvB S cd) (j + 1)).toNat))), (14, .int (nI j))]) K dL_acts_1034 (by decide) rfl ?_
                              refine r_iinc (lv' := [(0, .ref (a 0)), (1, .ref (b 0)), (2, .ref (e 0)), (3, .ref (e 1)), (4, .ref (e 2)), (5, .ref (e 3)), (6, .int xx), (7, .int yy), (8, .int (nI kn)), (9, .int (nI its)), (10, .int (nI col)), (11, .int (nI dk)), (12, .int (nI cd)), (13, .int (nI ((anyB (lvB S cd) (j + 1)).toNat))), (14, .int (nI (j + 1)))]) K dL_acts_1036 rfl (nI_1 _) (by decide) rfl ?_
                              refine r_goto K 990 dL_acts_1039 (by decide) ?_
                              exact ih67 (j + 1) _ _ (by omega) (by omega) (by show k2 ≤ _; omega) (by show n2 ≤ _; omega)
                  exact LB65 41 0 _ _ (by omega) (Nat.zero_le _) (by show k1 ≤ _; omega) (by show n1 ≤ _; omega)
              ·
                refine r_iload K dL_acts_710 rfl ?_
                refine r_bipush K (nI 16) dL_acts_712 (by decide) ?_
                refine r_ic_ne K 721 dL_acts_714 (by decide) (by omega) (by decide) (fun hq_123 => ?_) (fun hq_123 => ?_)
                ·
                  refine r_iconst K (nI 0) dL_acts_721 (by decide) ?_
                  refine r_istore (lv' := [(0, .ref (a 0)), (1, .ref (b 0)), (2, .ref (e 0)), (3, .ref (e 1)), (4, .ref (e 2)), (5, .ref (e 3)), (6, .int xx), (7, .int yy), (8, .int (nI kn)), (9, .int (nI its)), (10, .int (nI col)), (11, .int (nI dk)), (12, .int (nI cd)), (13, .int (nI 0))]) K dL_acts_722 (by decide) rfl ?_
                  refine r_iconst K (nI 0) dL_acts_724 (by decide) ?_
                  refine r_istore (lv' := [(0, .ref (a 0)), (1, .ref (b 0)), (2, .ref (e 0)), (3, .ref (e 1)), (4, .ref (e 2)), (5, .ref (e 3)), (6, .int xx), (7, .int yy), (8, .int (nI kn)), (9, .int (nI its)), (10, .int (nI col)), (11, .int (nI dk)), (12, .int (nI cd)), (13, .int (nI 0)), (14, .int (nI 0))]) K dL_acts_725 (by decide) rfl ?_
                  refine r_iload K dL_acts_727 rfl ?_
                  refine r_if_eq K 792 dL_acts_729 (by decide) (by decide) (fun hq_125 => ?_) (fun hq_125 => absurd hq_125 (by decide))
                  refine r_aload_n K dL_acts_792 rfl ?_
                  refine r_bipush K (nI 16) dL_acts_793 (by decide) ?_
                  refine r_iload K dL_acts_795 rfl ?_
                  refine r_iadd K dL_acts_797 ?_
                  refine r_iload K dL_acts_798 rfl ?_
                  refine r_iconst K (nI 5) dL_acts_800 (by decide) ?_
                  refine r_ishrR K dL_acts_801 ?_
                  refine r_iconst K (nI 3) dL_acts_802 (by decide) ?_
                  refine r_callS0 (rest := [.int (nI (16 + its)), .ref (e 0)]) K (c_L_low l D c (yy >>> (nI 5 &&& 31)) 3 (by omega) (by omega)) 2 gL_acts_L_low rfl (by decide +kernel) rfl ⟨⟨Nat.le_of_ble_eq_true rfl, Nat.le_of_ble_eq_true rfl⟩, (by show k1 + 0 ≤ 2400; omega), (by show n1 + 0 ≤ 14400; omega)⟩ rfl (Nat.le_of_ble_eq_true rfl) dL_acts_803 ?_
                  rintro _ _ ⟨k126, hk126, rfl⟩
                  refine r_if_ne K 813 dL_acts_806 (by decide) (by omega) (fun hq_127 => ?_) (fun hq_127 => ?_)
                  ·
                    refine r_iconst K (nI 0) dL_acts_813 (by decide) ?_
                    refine r_stZ (U' := up U 0 (16 + its) 0) K 0 (zX_g0 _ _ _ _) (by omega) (by decide) dL_acts_814 (zX_s0 _ _ _ _ _ _) ?_
                    refine r_aload_n K dL_acts_815 rfl ?_
                    refine r_iload K dL_acts_816 rfl ?_
                    refine r_aload_n K dL_acts_818 rfl ?_
                    refine r_bipush K (nI 16) dL_acts_819 (by decide) ?_
                    refine r_iload K dL_acts_821 rfl ?_
                    refine r_iadd K dL_acts_823 ?_
                    refine r_ldZ K 0 (zX_g0 _ _ _ _) (by omega) (by decide) dL_acts_824 ?_
                    refine r_top (congrArg nI (show _ = 0 from up_same)) ?_
                    refine r_iconst K (nI 1) dL_acts_825 (by decide) ?_
                    refine r_ic_ne K 833 dL_acts_826 (by decide) (by decide) (by decide) (fun hq_130 => ?_) (fun hq_130 => absurd hq_130 (by decide))
                    refine r_iconst K (nI 0) dL_acts_833 (by decide) ?_
                    refine r_callO (rest := []) KE (w_ban_0 l D a c S hl0 hV  its false (by omega)) 3 gL_acts_L_ban rfl (by decide +kernel) rfl ⟨⟨Nat.le_of_ble_eq_true rfl, Nat.le_of_ble_eq_true rfl⟩, (by show k1 + 1 ≤ 2400; omega), (by show n1 + 6 ≤ 14400; omega)⟩ rfl (Nat.le_of_ble_eq_true rfl) dL_acts_834 (fun J131 => ?_)
                    obtain ⟨S1, hS1⟩ : ∃ X : St, X = up S 12 its 0 := ⟨_, rfl⟩
                    have hI1 : Inv (m + 1) S1 := by rw [hS1]; exact (inv_ban hI (by omega)).mono (by omega)
                    have hV1 := hI1.V (by omega)
                    have h251 := hI1.2.2.1.lt2
                    have h131 := hI1.small (show m + 1 ≤ 600 by omega) 13
                    have h141 := hI1.small (show m + 1 ≤ 600 by omega) 14
                    have e30 : S1 3 0 = S 3 0 := by rw [hS1, up_ne (by decide)]
                    refine r_w (ws' := wW a b e c S1 J131 S K2 (up U 0 (16 + its) 0) []) (by rw [hS1] <;> rfl) ?_
                    refine r_top (congrArg nI (show _ = nAlw S1 from by rw [hS1] <;> rfl)) ?_
                    refine r_istore (lv' := [(0, .ref (a 0)), (1, .ref (b 0)), (2, .ref (e 0)), (3, .ref (e 1)), (4, .ref (e 2)), (5, .ref (e 3)), (6, .int xx), (7, .int yy), (8, .int (nI kn)), (9, .int (nI its)), (10, .int (nI col)), (11, .int (nI dk)), (12, .int (nI cd)), (13, .int (nI 0)), (14, .int (nI (nAlw S1)))]) K dL_acts_837 (by decide) rfl ?_
                    refine r_iconst K (nI 0) dL_acts_839 (by decide) ?_
                    refine r_istore (lv' := [(0, .ref (a 0)), (1, .ref (b 0)), (2, .ref (e 0)), (3, .ref (e 1)), (4, .ref (e 2)), (5, .ref (e 3)), (6, .int xx), (7, .int yy), (8, .int (nI kn)), (9, .int (nI its)), (10, .int (nI col)), (11, .int (nI dk)), (12, .int (nI cd)), (13, .int (nI 0)), (14, .int (nI (nAlw S1))), (15, .int (nI 0))]) K dL_acts_840 (by decide) rfl ?_
                    refine r_iconst K (nI 0) dL_acts_842 (by decide) ?_
                    refine r_istore (lv' := [(0, .ref (a 0)), (1, .ref (b 0)), (2, .ref (e 0)), (3, .ref (e 1)), (4, .ref (e 2)), (5, .ref (e 3)), (6, .int xx), (7, .int yy), (8, .int (nI kn)), (9, .int (nI its)), (10, .int (nI col)), (11, .int (nI dk)), (12, .int (nI cd)), (13, .int (nI 0)), (14, .int (nI (nAlw S1))), (15, .int (nI 0)), (16, .int (nI 0))]) K dL_acts_843 (by decide) rfl ?_
                    have hnb : nAlw S1 ≤ 12 := Nat.le_trans (cnt_le _ _) (by omega)
                    have LA132 : ∀ (z133 : Nat) (j : Nat) (k2 : Nat) (n2 : Nat) (J2 : St), S 3 0 - j < z133 → (j ≤ S 3 0) → (k2 ≤ 40 + j) → (n2 ≤ 240 + 6 * j) → G k2 n2 (wW a b e c S1 J2 S K2 (up U 0 (16 + its) 0) []) [(0, .ref (a 0)), (1, .ref (b 0)), (2, .ref (e 0)), (3, .ref (e 1)), (4, .ref (e 2)), (5, .ref (e 3)), (6, .int xx), (7, .int yy), (8, .int (nI kn)), (9, .int (nI its)), (10, .int (nI col)), (11, .int (nI dk)), (12, .int (nI cd)), (13, .int (nI 0)), (14, .int (nI (nAlw S1))), (15, .int (nI (cnt (alw S1) j))), (16, .int (nI j))] 845 [] := by
                      intro z133
                      induction z133 with
                      | zero => intro j k2 n2 J2 hz hj hk2 hn2; exact absurd hz (by omega)
                      | succ z133 ih134 =>
                        intro j k2 n2 J2 hz hj hk2 hn2
                        refine r_iload K dL_acts_845 rfl ?_
                        refine r_aload K dL_acts_847 rfl ?_
                        refine r_iconst K (nI 1) dL_acts_849 (by decide) ?_
                        refine r_ldZ K 3 (zX_g3 _ _ _ _) (by omega) (by decide) dL_acts_850 ?_
                        refine r_top (congrArg nI (show _ = S 3 0 from (by rw [up_ne (by decide)]; exact hg1))) ?_
                        refine r_ic_ge K 871 dL_acts_851 (by decide) (by omega) (by omega) (fun hq_135 => ?_) (fun hq_135 => ?_)
                        ·
                          have ej : j = S1 3 0 := by omega
                          have hcn : cnt (alw S1) j = nAlw S1 := by rw [ej]; rfl
                          refine r_iload K dL_acts_871 rfl ?_
                          refine r_iload K dL_acts_873 rfl ?_
                          refine r_ic_ne K 975 dL_acts_875 (by decide) (by omega) (by omega) (fun hq_136 => by omega) (fun hq_136 => ?_)
                          refine r_iload K dL_acts_878 rfl ?_
                          refine r_if_eq K 898 dL_acts_880 (by decide) (by decide) (fun hq_138 => ?_) (fun hq_138 => absurd hq_138 (by decide))
                          refine r_aload_n K dL_acts_898 rfl ?_
                          refine r_iload K dL_acts_899 rfl ?_
                          refine r_aload_n K dL_acts_901 rfl ?_
                          refine r_bipush K (nI 16) dL_acts_902 (by decide) ?_
                          refine r_iload K dL_acts_904 rfl ?_
                          refine r_iadd K dL_acts_906 ?_
                          refine r_ldZ K 0 (zX_g0 _ _ _ _) (by omega) (by decide) dL_acts_907 ?_
                          refine r_top (congrArg nI (show _ = 0 from up_same)) ?_
                          refine r_iconst K (nI 1) dL_acts_908 (by decide) ?_
                          refine r_ic_ne K 916 dL_acts_909 (by decide) (by decide) (by decide) (fun hq_140 => ?_) (fun hq_140 => absurd hq_140 (by decide))
                          refine r_iconst K (nI 0) dL_acts_916 (by decide) ?_
                          refine r_callT (rest := []) KE (w_ban_0 l D b c S hl0 hV  its false (by omega)) 3 gL_acts_L_ban rfl (by decide +kernel) rfl ⟨⟨Nat.le_of_ble_eq_true rfl, Nat.le_of_ble_eq_true rfl⟩, (by show k2 + 1 ≤ 2400; omega), (by show n2 + 6 ≤ 14400; omega)⟩ rfl (Nat.le_of_ble_eq_true rfl) dL_acts_917 (fun J141 => ?_)
                          refine r_w (ws' := wW a b e c S1 J2 S1 J141 (up U 0 (16 + its) 0) []) (by rw [hS1] <;> rfl) ?_
                          refine r_top (congrArg nI (show _ = nAlw S1 from by rw [hS1] <;> rfl)) ?_
                          refine r_iload K dL_acts_920 rfl ?_
                          refine r_ic_ne K 975 dL_acts_922 (by decide) (by omega) (by omega) (fun hq_142 => by omega) (fun hq_142 => ?_)
                          refine r_aload_n K dL_acts_925 rfl ?_
                          refine r_iconst K (nI 3) dL_acts_926 (by decide) ?_
                          refine r_iconst K (nI 1) dL_acts_927 (by decide) ?_
                          refine r_callO (rest := []) KE (x_setFormat_1 l D a c S1 hl0 hV1  (nI 3) (nI 1) (and_f1 (by decide))) 3 gL_acts_L_setFormat rfl (by decide +kernel) rfl ⟨⟨Nat.le_of_ble_eq_true rfl, Nat.le_of_ble_eq_true rfl⟩, (by show k2 + 1 + 2 ≤ 2400; omega), (by show n2 + 6 + 12 ≤ 14400; omega)⟩ rfl (Nat.le_of_ble_eq_true rfl) dL_acts_928 (fun J143 => ?_)
                          refine r_ldc K (v := -1000002) (List.mem_of_getElem? (i := 3) rfl) dL_acts_931 ?_
                          refine r_ic_neR K 975 dL_acts_933 (by decide) (fun hq_144 => absurd rfl hq_144) (fun hq_144 => ?_)
                          refine r_aload_n K dL_acts_936 rfl ?_
                          refine r_bipush K (nI 11) dL_acts_937 (by decide) ?_
                          refine r_iconst K (nI 1) dL_acts_939 (by decide) ?_
                          refine r_callO (rest := []) KE (x_setFormat_1 l D a c S1 hl0 hV1  (nI 11) (nI 1) (and_f1 (by decide))) 3 gL_acts_L_setFormat rfl (by decide +kernel) rfl ⟨⟨Nat.le_of_ble_eq_true rfl, Nat.le_of_ble_eq_true rfl⟩, (by show k2 + 3 + 2 ≤ 2400; omega), (by show n2 + 18 + 12 ≤ 14400; omega)⟩ rfl (Nat.le_of_ble_eq_true rfl) dL_acts_940 (fun J145 => ?_)
                          refine r_ldc K (v := -1000002) (List.mem_of_getElem? (i := 3) rfl) dL_acts_943 ?_
                          refine r_ic_neR K 975 dL_acts_945 (by decide) (fun hq_146 => absurd rfl hq_146) (fun hq_146 => ?_)
                          refine r_aload_n K dL_acts_948 rfl ?_
                          refine r_iconst K (nI 4) dL_acts_949 (by decide) ?_
                          refine r_iconst K (nI 5) dL_acts_950 (by decide) ?_
                          refine r_callO (rest := []) KE (x_setFormat_1 l D a c S1 hl0 hV1  (nI 4) (nI 5) (and_f2 (by decide))) 3 gL_acts_L_setFormat rfl (by decide +kernel) rfl ⟨⟨Nat.le_of_ble_eq_true rfl, Nat.le_of_ble_eq_true rfl⟩, (by show k2 + 5 + 2 ≤ 2400; omega), (by show n2 + 30 + 12 ≤ 14400; omega)⟩ rfl (Nat.le_of_ble_eq_true rfl) dL_acts_951 (fun J147 => ?_)
                          refine r_ldc K (v := -1000002) (List.mem_of_getElem? (i := 3) rfl) dL_acts_954 ?_
                          refine r_ic_neR K 975 dL_acts_956 (by decide) (fun hq_148 => absurd rfl hq_148) (fun hq_148 => ?_)
                          refine r_aload_n K dL_acts_959 rfl ?_
                          refine r_bipush K (nI 16) dL_acts_960 (by decide) ?_
                          refine r_iconst K (nI 1) dL_acts_962 (by decide) ?_
                          refine r_callO (rest := []) KE (x_ban_1 l D a c S1 hl0 hV1  (nI 16) true (by decide)) 3 gL_acts_L_ban rfl (by decide +kernel) rfl ⟨⟨Nat.le_of_ble_eq_true rfl, Nat.le_of_ble_eq_true rfl⟩, (by show k2 + 7 + 1 ≤ 2400; omega), (by show n2 + 42 + 6 ≤ 14400; omega)⟩ rfl (Nat.le_of_ble_eq_true rfl) dL_acts_963 (fun J149 => ?_)
                          refine r_ldc K (v := -1000001) (List.mem_of_getElem? (i := 1) rfl) dL_acts_966 ?_
                          refine r_ic_neR K 975 dL_acts_968 (by decide) (fun hq_150 => absurd rfl hq_150) (fun hq_150 => ?_)
                          refine r_iconst K (nI 1) dL_acts_971 (by decide) ?_
                          refine r_goto K 976 dL_acts_972 (by decide) ?_
                          exact hret _ _ _ _ _ 1 (S1, J149, J141, up U 0 (16 + its) 0) [] dL_acts_976 (by decide) ⟨rfl, hI1, (by rw [hS1]; exact rel_ban hR (by omega))⟩ (List.append_nil _).symm (by show k2 + 8 ≤ 2400; omega) (by show n2 + 48 ≤ 14400; omega)
                        ·
                          refine r_iload K dL_acts_854 rfl ?_
                          refine r_aload_n K dL_acts_856 rfl ?_
                          refine r_iload K dL_acts_857 rfl ?_
                          refine r_callO (rest := [.int (nI (cnt (alw S1) j))]) KE (w_isAllowed_0 l D a c S1 hl0 hV1  j (by omega)) 2 gL_acts_L_isAllowed rfl (by decide +kernel) rfl ⟨⟨Nat.le_of_ble_eq_true rfl, Nat.le_of_ble_eq_true rfl⟩, (by show k2 + 1 ≤ 2400; omega), (by show n2 + 6 ≤ 14400; omega)⟩ rfl (Nat.le_of_ble_eq_true rfl) dL_acts_859 (fun J151 => ?_)
                          refine r_iadd K dL_acts_862 ?_
                          refine r_istore (lv' := [(0, .ref (a 0)), (1, .ref (b 0)), (2, .ref (e 0)), (3, .ref (e 1)), (4, .ref (e 2)), (5, .ref (e 3)), (6, .int xx), (7, .int yy), (8, .int (nI kn)), (9, .int (nI its)), (10, .int (nI col)), (11, .int (nI dk)), (12, .int (nI cd)), (13, .int (nI 0)), (14, .int (nI (nAlw S1))), (15, .int (nI (cnt (alw S1) j + (alw S1 j).toNat))), (16, .int (nI j))]) K dL_acts_863 (by decide) rfl ?_
                          refine r_iinc (lv' := [(0, .ref (a 0)), (1, .ref (b 0)), (2, .ref (e 0)), (3, .ref (e 1)), (4, .ref (e 2)), (5, .ref (e 3)), (6, .int xx), (7, .int yy), (8, .int (nI kn)), (9, .int (nI its)), (10, .int (nI col)), (11, .int (nI dk)), (12, .int (nI cd)), (13, .int (nI 0)), (14, .int (nI (nAlw S1))), (15, .int (nI (cnt (alw S1) j + (alw S1 j).toNat))), (16, .int (nI (j + 1)))]) K dL_acts_865 rfl (nI_1 _) (by decide) rfl ?_
                          refine r_goto K 845 dL_acts_868 (by decide) ?_
                          exact ih134 (j + 1) _ _ _ (by omega) (by omega) (by show k2 + 1 ≤ _; omega) (by show n2 + 6 ≤ _; omega)
                    exact LA132 13 0 _ _ _ (by omega) (Nat.zero_le _) (by show k1 + 1 ≤ _; omega) (by show n1 + 6 ≤ _; omega)
                  ·
                    refine r_iconst K (nI 1) dL_acts_809 (by decide) ?_
                    refine r_goto K 814 dL_acts_810 (by decide) ?_
                    refine r_stZ (U' := up U 0 (16 + its) 1) K 0 (zX_g0 _ _ _ _) (by omega) (by decide) dL_acts_814 (zX_s0 _ _ _ _ _ _) ?_
                    refine r_aload_n K dL_acts_815 rfl ?_
                    refine r_iload K dL_acts_816 rfl ?_
                    refine r_aload_n K dL_acts_818 rfl ?_
                    refine r_bipush K (nI 16) dL_acts_819 (by decide) ?_
                    refine r_iload K dL_acts_821 rfl ?_
                    refine r_iadd K dL_acts_823 ?_
                    refine r_ldZ K 0 (zX_g0 _ _ _ _) (by omega) (by decide) dL_acts_824 ?_
                    refine r_top (congrArg nI (show _ = 1 from up_same)) ?_
                    refine r_iconst K (nI 1) dL_acts_825 (by decide) ?_
                    refine r_ic_ne K 833 dL_acts_826 (by decide) (by decide) (by decide) (fun hq_154 => absurd hq_154 (by decide)) (fun hq_154 => ?_)
                    refine r_iconst K (nI 1) dL_acts_829 (by decide) ?_
                    refine r_goto K 834 dL_acts_830 (by decide) ?_
                    refine r_callO (rest := []) KE (w_ban_0 l D a c S hl0 hV  its true (by omega)) 3 gL_acts_L_ban rfl (by decide +kernel) rfl ⟨⟨Nat.le_of_ble_eq_true rfl, Nat.le_of_ble_eq_true rfl⟩, (by show k1 + 1 ≤ 2400; omega), (by show n1 + 6 ≤ 14400; omega)⟩ rfl (Nat.le_of_ble_eq_true rfl) dL_acts_834 (fun J155 => ?_)
                    obtain ⟨S1, hS1⟩ : ∃ X : St, X = up S 12 its 1 := ⟨_, rfl⟩
                    have hI1 : Inv (m + 1) S1 := by rw [hS1]; exact (inv_ban hI (by omega)).mono (by omega)
                    have hV1 := hI1.V (by omega)
                    have h251 := hI1.2.2.1.lt2
                    have h131 := hI1.small (show m + 1 ≤ 600 by omega) 13
                    have h141 := hI1.small (show m + 1 ≤ 600 by omega) 14
                    have e30 : S1 3 0 = S 3 0 := by rw [hS1, up_ne (by decide)]
                    refine r_w (ws' := wW a b e c S1 J155 S K2 (up U 0 (16 + its) 1) []) (by rw [hS1] <;> rfl) ?_
                    refine r_top (congrArg nI (show _ = nAlw S1 from by rw [hS1] <;> rfl)) ?_
                    refine r_istore (lv' := [(0, .ref (a 0)), (1, .ref (b 0)), (2, .ref (e 0)), (3, .ref (e 1)), (4, .ref (e 2)), (5, .ref (e 3)), (6, .int xx), (7, .int yy), (8, .int (nI kn)), (9, .int (nI its)), (10, .int (nI col)), (11, .int (nI dk)), (12, .int (nI cd)), (13, .int (nI 0)), (14, .int (nI (nAlw S1)))]) K dL_acts_837 (by decide) rfl ?_
                    refine r_iconst K (nI 0) dL_acts_839 (by decide) ?_
                    refine r_istore (lv' := [(0, .ref (a 0)), (1, .ref (b 0)), (2, .ref (e 0)), (3, .ref (e 1)), (4, .ref (e 2)), (5, .ref (e 3)), (6, .int xx), (7, .int yy), (8, .int (nI kn)), (9, .int (nI its)), (10, .int (nI col)), (11, .int (nI dk)), (12, .int (nI cd)), (13, .int (nI 0)), (14, .int (nI (nAlw S1))), (15, .int (nI 0))]) K dL_acts_840 (by decide) rfl ?_
                    refine r_iconst K (nI 0) dL_acts_842 (by decide) ?_
                    refine r_istore (lv' := [(0, .ref (a 0)), (1, .ref (b 0)), (2, .ref (e 0)), (3, .ref (e 1)), (4, .ref (e 2)), (5, .ref (e 3)), (6, .int xx), (7, .int yy), (8, .int (nI kn)), (9, .int (nI its)), (10, .int (nI col)), (11, .int (nI dk)), (12, .int (nI cd)), (13, .int (nI 0)), (14, .int (nI (nAlw S1))), (15, .int (nI 0)), (16, .int (nI 0))]) K dL_acts_843 (by decide) rfl ?_
                    have hnb : nAlw S1 ≤ 12 := Nat.le_trans (cnt_le _ _) (by omega)
                    have LA156 : ∀ (z157 : Nat) (j : Nat) (k2 : Nat) (n2 : Nat) (J2 : St), S 3 0 - j < z157 → (j ≤ S 3 0) → (k2 ≤ 40 + j) → (n2 ≤ 240 + 6 * j) → G k2 n2 (wW a b e c S1 J2 S K2 (up U 0 (16 + its) 1) []) [(0, .ref (a 0)), (1, .ref (b 0)), (2, .ref (e 0)), (3, .ref (e 1)), (4, .ref (e 2)), (5, .ref (e 3)), (6, .int xx), (7, .int yy), (8, .int (nI kn)), (9, .int (nI its)), (10, .int (nI col)), (11, .int (nI dk)), (12, .int (nI cd)), (13, .int (nI 0)), (14, .int (nI (nAlw S1))), (15, .int (nI (cnt (alw S1) j))), (16, .int (nI j))] 845 [] := by
                      intro z157
                      induction z157 with
                      | zero => intro j k2 n2 J2 hz hj hk2 hn2; exact absurd hz (by omega)
                      | succ z157 ih158 =>
                        intro j k2 n2 J2 hz hj hk2 hn2
                        refine r_iload K dL_acts_845 rfl ?_
                        refine r_aload K dL_acts_847 rfl ?_
                        refine r_iconst K (nI 1) dL_acts_849 (by decide) ?_
                        refine r_ldZ K 3 (zX_g3 _ _ _ _) (by omega) (by decide) dL_acts_850 ?_
                        refine r_top (congrArg nI (show _ = S 3 0 from (by rw [up_ne (by decide)]; exact hg1))) ?_
                        refine r_ic_ge K 871 dL_acts_851 (by decide) (by omega) (by omega) (fun hq_159 => ?_) (fun hq_159 => ?_)
                        ·
                          have ej : j = S1 3 0 := by omega
                          have hcn : cnt (alw S1) j = nAlw S1 := by rw [ej]; rfl
                          refine r_iload K dL_acts_871 rfl ?_
                          refine r_iload K dL_acts_873 rfl ?_
                          refine r_ic_ne K 975 dL_acts_875 (by decide) (by omega) (by omega) (fun hq_160 => by omega) (fun hq_160 => ?_)
                          refine r_iload K dL_acts_878 rfl ?_
                          refine r_if_eq K 898 dL_acts_880 (by decide) (by decide) (fun hq_162 => ?_) (fun hq_162 => absurd hq_162 (by decide))
                          refine r_aload_n K dL_acts_898 rfl ?_
                          refine r_iload K dL_acts_899 rfl ?_
                          refine r_aload_n K dL_acts_901 rfl ?_
                          refine r_bipush K (nI 16) dL_acts_902 (by decide) ?_
                          refine r_iload K dL_acts_904 rfl ?_
                          refine r_iadd K dL_acts_906 ?_
                          refine r_ldZ K 0 (zX_g0 _ _ _ _) (by omega) (by decide) dL_acts_907 ?_
                          refine r_top (congrArg nI (show _ = 1 from up_same)) ?_
                          refine r_iconst K (nI 1) dL_acts_908 (by decide) ?_
                          refine r_ic_ne K 916 dL_acts_909 (by decide) (by decide) (by decide) (fun hq_164 => absurd hq_164 (by decide)) (fun hq_164 => ?_)
                          refine r_iconst K (nI 1) dL_acts_912 (by decide) ?_
                          refine r_goto K 917 dL_acts_913 (by decide) ?_
                          refine r_callT (rest := []) KE (w_ban_0 l D b c S hl0 hV  its true (by omega)) 3 gL_acts_L_ban rfl (by decide +kernel) rfl ⟨⟨Nat.le_of_ble_eq_true rfl, Nat.le_of_ble_eq_true rfl⟩, (by show k2 + 1 ≤ 2400; omega), (by show n2 + 6 ≤ 14400; omega)⟩ rfl (Nat.le_of_ble_eq_true rfl) dL_acts_917 (fun J165 => ?_)
                          refine r_w (ws' := wW a b e c S1 J2 S1 J165 (up U 0 (16 + its) 1) []) (by rw [hS1] <;> rfl) ?_
                          refine r_top (congrArg nI (show _ = nAlw S1 from by rw [hS1] <;> rfl)) ?_
                          refine r_iload K dL_acts_920 rfl ?_
                          refine r_ic_ne K 975 dL_acts_922 (by decide) (by omega) (by omega) (fun hq_166 => by omega) (fun hq_166 => ?_)
                          refine r_aload_n K dL_acts_925 rfl ?_
                          refine r_iconst K (nI 3) dL_acts_926 (by decide) ?_
                          refine r_iconst K (nI 1) dL_acts_927 (by decide) ?_
                          refine r_callO (rest := []) KE (x_setFormat_1 l D a c S1 hl0 hV1  (nI 3) (nI 1) (and_f1 (by decide))) 3 gL_acts_L_setFormat rfl (by decide +kernel) rfl ⟨⟨Nat.le_of_ble_eq_true rfl, Nat.le_of_ble_eq_true rfl⟩, (by show k2 + 1 + 2 ≤ 2400; omega), (by show n2 + 6 + 12 ≤ 14400; omega)⟩ rfl (Nat.le_of_ble_eq_true rfl) dL_acts_928 (fun J167 => ?_)
                          refine r_ldc K (v := -1000002) (List.mem_of_getElem? (i := 3) rfl) dL_acts_931 ?_
                          refine r_ic_neR K 975 dL_acts_933 (by decide) (fun hq_168 => absurd rfl hq_168) (fun hq_168 => ?_)
                          refine r_aload_n K dL_acts_936 rfl ?_
                          refine r_bipush K (nI 11) dL_acts_937 (by decide) ?_
                          refine r_iconst K (nI 1) dL_acts_939 (by decide) ?_
                          refine r_callO (rest := []) KE (x_setFormat_1 l D a c S1 hl0 hV1  (nI 11) (nI 1) (and_f1 (by decide))) 3 gL_acts_L_setFormat rfl (by decide +kernel) rfl ⟨⟨Nat.le_of_ble_eq_true rfl, Nat.le_of_ble_eq_true rfl⟩, (by show k2 + 3 + 2 ≤ 2400; omega), (by show n2 + 18 + 12 ≤ 14400; omega)⟩ rfl (Nat.le_of_ble_eq_true rfl) dL_acts_940 (fun J169 => ?_)
                          refine r_ldc K (v := -1000002) (List.mem_of_getElem? (i := 3) rfl) dL_acts_943 ?_
                          refine r_ic_neR K 975 dL_acts_945 (by decide) (fun hq_170 => absurd rfl hq_170) (fun hq_170 => ?_)
                          refine r_aload_n K dL_acts_948 rfl ?_
                          refine r_iconst K (nI 4) dL_acts_949 (by decide) ?_
                          refine r_iconst K (nI 5) dL_acts_950 (by decide) ?_
                          refine r_callO (rest := []) KE (x_setFormat_1 l D a c S1 hl0 hV1  (nI 4) (nI 5) (and_f2 (by decide))) 3 gL_acts_L_setFormat rfl (by decide +kernel) rfl ⟨⟨Nat.le_of_ble_eq_true rfl, Nat.le_of_ble_eq_true rfl⟩, (by show k2 + 5 + 2 ≤ 2400; omega), (by show n2 + 30 + 12 ≤ 14400; omega)⟩ rfl (Nat.le_of_ble_eq_true rfl) dL_acts_951 (fun J171 => ?_)
                          refine r_ldc K (v := -1000002) (List.mem_of_getElem? (i := 3) rfl) dL_acts_954 ?_
                          refine r_ic_neR K 975 dL_acts_956 (by decide) (fun hq_172 => absurd rfl hq_172) (fun hq_172 => ?_)
                          refine r_aload_n K dL_acts_959 rfl ?_
                          refine r_bipush K (nI 16) dL_acts_960 (by decide) ?_
                          refine r_iconst K (nI 1) dL_acts_962 (by decide) ?_
                          refine r_callO (rest := []) KE (x_ban_1 l D a c S1 hl0 hV1  (nI 16) true (by decide)) 3 gL_acts_L_ban rfl (by decide +kernel) rfl ⟨⟨Nat.le_of_ble_eq_true rfl, Nat.le_of_ble_eq_true rfl⟩, (by show k2 + 7 + 1 ≤ 2400; omega), (by show n2 + 42 + 6 ≤ 14400; omega)⟩ rfl (Nat.le_of_ble_eq_true rfl) dL_acts_963 (fun J173 => ?_)
                          refine r_ldc K (v := -1000001) (List.mem_of_getElem? (i := 1) rfl) dL_acts_966 ?_
                          refine r_ic_neR K 975 dL_acts_968 (by decide) (fun hq_174 => absurd rfl hq_174) (fun hq_174 => ?_)
                          refine r_iconst K (nI 1) dL_acts_971 (by decide) ?_
                          refine r_goto K 976 dL_acts_972 (by decide) ?_
                          exact hret _ _ _ _ _ 1 (S1, J173, J165, up U 0 (16 + its) 1) [] dL_acts_976 (by decide) ⟨rfl, hI1, (by rw [hS1]; exact rel_ban hR (by omega))⟩ (List.append_nil _).symm (by show k2 + 8 ≤ 2400; omega) (by show n2 + 48 ≤ 14400; omega)
                        ·
                          refine r_iload K dL_acts_854 rfl ?_
                          refine r_aload_n K dL_acts_856 rfl ?_
                          refine r_iload K dL_acts_857 rfl ?_
                          refine r_callO (rest := [.int (nI (cnt (alw S1) j))]) KE (w_isAllowed_0 l D a c S1 hl0 hV1  j (by omega)) 2 gL_acts_L_isAllowed rfl (by decide +kernel) rfl ⟨⟨Nat.le_of_ble_eq_true rfl, Nat.le_of_ble_eq_true rfl⟩, (by show k2 + 1 ≤ 2400; omega), (by show n2 + 6 ≤ 14400; omega)⟩ rfl (Nat.le_of_ble_eq_true rfl) dL_acts_859 (fun J175 => ?_)
                          refine r_iadd K dL_acts_862 ?_
                          refine r_istore (lv' := [(0, .ref (a 0)), (1, .ref (b 0)), (2, .ref (e 0)), (3, .ref (e 1)), (4, .ref (e 2)), (5, .ref (e 3)), (6, .int xx), (7, .int yy), (8, .int (nI kn)), (9, .int (nI its)), (10, .int (nI col)), (11, .int (nI dk)), (12, .int (nI cd)), (13, .int (nI 0)), (14, .int (nI (nAlw S1))), (15, .int (nI (cnt (alw S1) j + (alw S1 j).toNat))), (16, .int (nI j))]) K dL_acts_863 (by decide) rfl ?_
                          refine r_iinc (lv' := [(0, .ref (a 0)), (1, .ref (b 0)), (2, .ref (e 0)), (3, .ref (e 1)), (4, .ref (e 2)), (5, .ref (e 3)), (6, .int xx), (7, .int yy), (8, .int (nI kn)), (9, .int (nI its)), (10, .int (nI col)), (11, .int (nI dk)), (12, .int (nI cd)), (13, .int (nI 0)), (14, .int (nI (nAlw S1))), (15, .int (nI (cnt (alw S1) j + (alw S1 j).toNat))), (16, .int (nI (j + 1)))]) K dL_acts_865 rfl (nI_1 _) (by decide) rfl ?_
                          refine r_goto K 845 dL_acts_868 (by decide) ?_
                          exact ih158 (j + 1) _ _ _ (by omega) (by omega) (by show k2 + 1 ≤ _; omega) (by show n2 + 6 ≤ _; omega)
                    exact LA156 13 0 _ _ _ (by omega) (Nat.zero_le _) (by show k1 + 1 ≤ _; omega) (by show n1 + 6 ≤ _; omega)
                ·
                  refine r_iconst K (nI 1) dL_acts_717 (by decide) ?_
                  refine r_goto K 722 dL_acts_718 (by decide) ?_
                  refine r_istore (lv' := [(0, .ref (a 0)), (1, .ref (b 0)), (2, .ref (e 0)), (3, .ref (e 1)), (4, .ref (e 2)), (5, .ref (e 3)), (6, .int xx), (7, .int yy), (8, .int (nI kn)), (9, .int (nI its)), (10, .int (nI col)), (11, .int (nI dk)), (12, .int (nI cd)), (13, .int (nI 1))]) K dL_acts_722 (by decide) rfl ?_
                  refine r_iconst K (nI 0) dL_acts_724 (by decide) ?_
                  refine r_istore (lv' := [(0, .ref (a 0)), (1, .ref (b 0)), (2, .ref (e 0)), (3, .ref (e 1)), (4, .ref (e 2)), (5, .ref (e 3)), (6, .int xx), (7, .int yy), (8, .int (nI kn)), (9, .int (nI its)), (10, .int (nI col)), (11, .int (nI dk)), (12, .int (nI cd)), (13, .int (nI 1)), (14, .int (nI 0))]) K dL_acts_725 (by decide) rfl ?_
                  refine r_iload K dL_acts_727 rfl ?_
                  refine r_if_eq K 792 dL_acts_729 (by decide) (by decide) (fun hq_177 => absurd hq_177 (by decide)) (fun hq_177 => ?_)
                  have HM178 : ∀ (fs : Nat) (k1 : Nat) (n1 : Nat), (4 ≤ fs ∧ fs ≤ 10) → (k1 ≤ 20) → (n1 ≤ 120) → G k1 n1 (wW a b e c S J S K2 U []) [(0, .ref (a 0)), (1, .ref (b 0)), (2, .ref (e 0)), (3, .ref (e 1)), (4, .ref (e 2)), (5, .ref (e 3)), (6, .int xx), (7, .int yy), (8, .int (nI kn)), (9, .int (nI its)), (10, .int (nI col)), (11, .int (nI dk)), (12, .int (nI cd)), (13, .int (nI 1)), (14, .int (nI 0))] 759 [.int (nI fs), .int (nI 3), .ref (e 3)] := by
                    intro fs k1 n1 hfs0 hk1 hn1
                    refine r_stZ (U' := up U 3 3 fs) K 3 (zX_g3 _ _ _ _) (by omega) (by decide) dL_acts_759 (zX_s3 _ _ _ _ _ _) ?_
                    refine r_aload K dL_acts_760 rfl ?_
                    refine r_iconst K (nI 4) dL_acts_762 (by decide) ?_
                    refine r_iconst K (nI 1) dL_acts_763 (by decide) ?_
                    refine r_iload K dL_acts_764 rfl ?_
                    refine r_bipush K (nI 7) dL_acts_766 (by decide) ?_
                    refine r_ishrR K dL_acts_768 ?_
                    refine r_iconst K (nI 4) dL_acts_769 (by decide) ?_
                    refine r_callS0 (rest := [.int (nI 1), .int (nI 4), .ref (e 3)]) K (c_L_low l D c (yy >>> (nI 7 &&& 31)) 4 (by omega) (by omega)) 2 gL_acts_L_low rfl (by decide +kernel) rfl ⟨⟨Nat.le_of_ble_eq_true rfl, Nat.le_of_ble_eq_true rfl⟩, (by show k1 + 0 ≤ 2400; omega), (by show n1 + 0 ≤ 14400; omega)⟩ rfl (Nat.le_of_ble_eq_true rfl) dL_acts_770 ?_
                    rintro _ _ ⟨k180, hk180, rfl⟩
                    refine r_iadd K dL_acts_773 ?_
                    obtain ⟨fm, hfm⟩ : ∃ z, z = (1 + k180) := ⟨_, rfl⟩
                    have bfm : 1 ≤ fm ∧ fm ≤ 4 := by omega
                    refine r_top (congrArg nI (show _ = fm from hfm.symm)) ?_
                    refine r_stZ (U' := up (up U 3 3 fs) 3 4 fm) K 3 (zX_g3 _ _ _ _) (by omega) (by decide) dL_acts_774 (zX_s3 _ _ _ _ _ _) ?_
                    refine r_aload_n K dL_acts_775 rfl ?_
                    refine r_aload K dL_acts_776 rfl ?_
                    refine r_iconst K (nI 3) dL_acts_778 (by decide) ?_
                    refine r_ldZ K 3 (zX_g3 _ _ _ _) (by omega) (by decide) dL_acts_779 ?_
                    refine r_top (congrArg nI (show _ = fs from (by rw [up_nk (by decide), up_same]))) ?_
                    refine r_aload K dL_acts_780 rfl ?_
                    refine r_iconst K (nI 4) dL_acts_782 (by decide) ?_
                    refine r_ldZ K 3 (zX_g3 _ _ _ _) (by omega) (by decide) dL_acts_783 ?_
                    refine r_top (congrArg nI (show _ = fm from up_same)) ?_
                    refine r_callO (rest := []) KE (w_setFormat_0 l D a c S hl0 hV  fs fm (by omega) (by omega)) 3 gL_acts_L_setFormat rfl (by decide +kernel) rfl ⟨⟨Nat.le_of_ble_eq_true rfl, Nat.le_of_ble_eq_true rfl⟩, (by show k1 + 2 ≤ 2400; omega), (by show n1 + 12 ≤ 14400; omega)⟩ rfl (Nat.le_of_ble_eq_true rfl) dL_acts_784 (fun J182 => ?_)
                    obtain ⟨S1, hS1⟩ : ∃ X : St, X = up (up S 3 1 fs) 3 2 fm := ⟨_, rfl⟩
                    have hI1 : Inv (m + 1) S1 := by rw [hS1]; exact (inv_setFormat hI (by omega) (by omega) (by omega)).mono (by omega)
                    have hV1 := hI1.V (by omega)
                    have h251 := hI1.2.2.1.lt2
                    have h131 := hI1.small (show m + 1 ≤ 600 by omega) 13
                    have h141 := hI1.small (show m + 1 ≤ 600 by omega) 14
                    have e30 : S1 3 0 = S 3 0 := by rw [hS1, up_nk (by decide), up_nk (by decide)]
                    refine r_w (ws' := wW a b e c S1 J182 S K2 (up (up U 3 3 fs) 3 4 fm) []) (by rw [hS1] <;> rfl) ?_
                    refine r_top (congrArg nI (show _ = nAlw S1 from by rw [hS1] <;> rfl)) ?_
                    refine r_istore (lv' := [(0, .ref (a 0)), (1, .ref (b 0)), (2, .ref (e 0)), (3, .ref (e 1)), (4, .ref (e 2)), (5, .ref (e 3)), (6, .int xx), (7, .int yy), (8, .int (nI kn)), (9, .int (nI its)), (10, .int (nI col)), (11, .int (nI dk)), (12, .int (nI cd)), (13, .int (nI 1)), (14, .int (nI (nAlw S1)))]) K dL_acts_787 (by decide) rfl ?_
                    refine r_goto K 839 dL_acts_789 (by decide) ?_
                    refine r_iconst K (nI 0) dL_acts_839 (by decide) ?_
                    refine r_istore (lv' := [(0, .ref (a 0)), (1, .ref (b 0)), (2, .ref (e 0)), (3, .ref (e 1)), (4, .ref (e 2)), (5, .ref (e 3)), (6, .int xx), (7, .int yy), (8, .int (nI kn)), (9, .int (nI its)), (10, .int (nI col)), (11, .int (nI dk)), (12, .int (nI cd)), (13, .int (nI 1)), (14, .int (nI (nAlw S1))), (15, .int (nI 0))]) K dL_acts_840 (by decide) rfl ?_
                    refine r_iconst K (nI 0) dL_acts_842 (by decide) ?_
                    refine r_istore (lv' := [(0, .ref (a 0)), (1, .ref (b 0)), (2, .ref (e 0)), (3, .ref (e 1)), (4, .ref (e 2)), (5, .ref (e 3)), (6, .int xx), (7, .int yy), (8, .int (nI kn)), (9, .int (nI its)), (10, .int (nI col)), (11, .int (nI dk)), (12, .int (nI cd)), (13, .int (nI 1)), (14, .int (nI (nAlw S1))), (15, .int (nI 0)), (16, .int (nI 0))]) K dL_acts_843 (by decide) rfl ?_
                    have hnb : nAlw S1 ≤ 12 := Nat.le_trans (cnt_le _ _) (by omega)
                    have LA183 : ∀ (z184 : Nat) (j : Nat) (k2 : Nat) (n2 : Nat) (J2 : St), S 3 0 - j < z184 → (j ≤ S 3 0) → (k2 ≤ 40 + j) → (n2 ≤ 240 + 6 * j) → G k2 n2 (wW a b e c S1 J2 S K2 (up (up U 3 3 fs) 3 4 fm) []) [(0, .ref (a 0)), (1, .ref (b 0)), (2, .ref (e 0)), (3, .ref (e 1)), (4, .ref (e 2)), (5, .ref (e 3)), (6, .int xx), (7, .int yy), (8, .int (nI kn)), (9, .int (nI its)), (10, .int (nI col)), (11, .int (nI dk)), (12, .int (nI cd)), (13, .int (nI 1)), (14, .int (nI (nAlw S1))), (15, .int (nI (cnt (alw S1) j))), (16, .int (nI j))] 845 [] := by
                      intro z184
                      induction z184 with
                      | zero => intro j k2 n2 J2 hz hj hk2 hn2; exact absurd hz (by omega)
                      | succ z184 ih185 =>
                        intro j k2 n2 J2 hz hj hk2 hn2
                        refine r_iload K dL_acts_845 rfl ?_
                        refine r_aload K dL_acts_847 rfl ?_
                        refine r_iconst K (nI 1) dL_acts_849 (by decide) ?_
                        refine r_ldZ K 3 (zX_g3 _ _ _ _) (by omega) (by decide) dL_acts_850 ?_
                        refine r_top (congrArg nI (show _ = S 3 0 from (by rw [up_nk (by decide), up_nk (by decide)]; exact hg1))) ?_
                        refine r_ic_ge K 871 dL_acts_851 (by decide) (by omega) (by omega) (fun hq_186 => ?_) (fun hq_186 => ?_)
                        ·
                          have ej : j = S1 3 0 := by omega
                          have hcn : cnt (alw S1) j = nAlw S1 := by rw [ej]; rfl
                          refine r_iload K dL_acts_871 rfl ?_
                          refine r_iload K dL_acts_873 rfl ?_
                          refine r_ic_ne K 975 dL_acts_875 (by decide) (by omega) (by omega) (fun hq_187 => by omega) (fun hq_187 => ?_)
                          refine r_iload K dL_acts_878 rfl ?_
                          refine r_if_eq K 898 dL_acts_880 (by decide) (by decide) (fun hq_189 => absurd hq_189 (by decide)) (fun hq_189 => ?_)
                          refine r_aload_n K dL_acts_883 rfl ?_
                          refine r_aload K dL_acts_884 rfl ?_
                          refine r_iconst K (nI 3) dL_acts_886 (by decide) ?_
                          refine r_ldZ K 3 (zX_g3 _ _ _ _) (by omega) (by decide) dL_acts_887 ?_
                          refine r_top (congrArg nI (show _ = fs from (by rw [up_nk (by decide), up_same]))) ?_
                          refine r_aload K dL_acts_888 rfl ?_
                          refine r_iconst K (nI 4) dL_acts_890 (by decide) ?_
                          refine r_ldZ K 3 (zX_g3 _ _ _ _) (by omega) (by decide) dL_acts_891 ?_
                          refine r_top (congrArg nI (show _ = fm from up_same)) ?_
                          refine r_callT (rest := []) KE (w_setFormat_0 l D b c S hl0 hV  fs fm (by omega) (by omega)) 3 gL_acts_L_setFormat rfl (by decide +kernel) rfl ⟨⟨Nat.le_of_ble_eq_true rfl, Nat.le_of_ble_eq_true rfl⟩, (by show k2 + 2 ≤ 2400; omega), (by show n2 + 12 ≤ 14400; omega)⟩ rfl (Nat.le_of_ble_eq_true rfl) dL_acts_892 (fun J190 => ?_)
                          refine r_w (ws' := wW a b e c S1 J2 S1 J190 (up (up U 3 3 fs) 3 4 fm) []) (by rw [hS1] <;> rfl) ?_
                          refine r_top (congrArg nI (show _ = nAlw S1 from by rw [hS1] <;> rfl)) ?_
                          refine r_goto K 920 dL_acts_895 (by decide) ?_
                          refine r_iload K dL_acts_920 rfl ?_
                          refine r_ic_ne K 975 dL_acts_922 (by decide) (by omega) (by omega) (fun hq_191 => by omega) (fun hq_191 => ?_)
                          refine r_aload_n K dL_acts_925 rfl ?_
                          refine r_iconst K (nI 3) dL_acts_926 (by decide) ?_
                          refine r_iconst K (nI 1) dL_acts_927 (by decide) ?_
                          refine r_callO (rest := []) KE (x_setFormat_1 l D a c S1 hl0 hV1  (nI 3) (nI 1) (and_f1 (by decide))) 3 gL_acts_L_setFormat rfl (by decide +kernel) rfl ⟨⟨Nat.le_of_ble_eq_true rfl, Nat.le_of_ble_eq_true rfl⟩, (by show k2 + 2 + 2 ≤ 2400; omega), (by show n2 + 12 + 12 ≤ 14400; omega)⟩ rfl (Nat.le_of_ble_eq_true rfl) dL_acts_928 (fun J192 => ?_)
                          refine r_ldc K (v := -1000002) (List.mem_of_getElem? (i := 3) rfl) dL_acts_931 ?_
                          refine r_ic_neR K 975 dL_acts_933 (by decide) (fun hq_193 => absurd rfl hq_193) (fun hq_193 => ?_)
                          refine r_aload_n K dL_acts_936 rfl ?_
                          refine r_bipush K (nI 11) dL_acts_937 (by decide) ?_
                          refine r_iconst K (nI 1) dL_acts_939 (by decide) ?_
                          refine r_callO (rest := []) KE (x_setFormat_1 l D a c S1 hl0 hV1  (nI 11) (nI 1) (and_f1 (by decide))) 3 gL_acts_L_setFormat rfl (by decide +kernel) rfl ⟨⟨Nat.le_of_ble_eq_true rfl, Nat.le_of_ble_eq_true rfl⟩, (by show k2 + 4 + 2 ≤ 2400; omega), (by show n2 + 24 + 12 ≤ 14400; omega)⟩ rfl (Nat.le_of_ble_eq_true rfl) dL_acts_940 (fun J194 => ?_)
                          refine r_ldc K (v := -1000002) (List.mem_of_getElem? (i := 3) rfl) dL_acts_943 ?_
                          refine r_ic_neR K 975 dL_acts_945 (by decide) (fun hq_195 => absurd rfl hq_195) (fun hq_195 => ?_)
                          refine r_aload_n K dL_acts_948 rfl ?_
                          refine r_iconst K (nI 4) dL_acts_949 (by decide) ?_
                          refine r_iconst K (nI 5) dL_acts_950 (by decide) ?_
                          refine r_callO (rest := []) KE (x_setFormat_1 l D a c S1 hl0 hV1  (nI 4) (nI 5) (and_f2 (by decide))) 3 gL_acts_L_setFormat rfl (by decide +kernel) rfl ⟨⟨Nat.le_of_ble_eq_true rfl, Nat.le_of_ble_eq_true rfl⟩, (by show k2 + 6 + 2 ≤ 2400; omega), (by show n2 + 36 + 12 ≤ 14400; omega)⟩ rfl (Nat.le_of_ble_eq_true rfl) dL_acts_951 (fun J196 => ?_)
                          refine r_ldc K (v := -1000002) (List.mem_of_getElem? (i := 3) rfl) dL_acts_954 ?_
                          refine r_ic_neR K 975 dL_acts_956 (by decide) (fun hq_197 => absurd rfl hq_197) (fun hq_197 => ?_)
                          refine r_aload_n K dL_acts_959 rfl ?_
                          refine r_bipush K (nI 16) dL_acts_960 (by decide) ?_
                          refine r_iconst K (nI 1) dL_acts_962 (by decide) ?_
                          refine r_callO (rest := []) KE (x_ban_1 l D a c S1 hl0 hV1  (nI 16) true (by decide)) 3 gL_acts_L_ban rfl (by decide +kernel) rfl ⟨⟨Nat.le_of_ble_eq_true rfl, Nat.le_of_ble_eq_true rfl⟩, (by show k2 + 8 + 1 ≤ 2400; omega), (by show n2 + 48 + 6 ≤ 14400; omega)⟩ rfl (Nat.le_of_ble_eq_true rfl) dL_acts_963 (fun J198 => ?_)
                          refine r_ldc K (v := -1000001) (List.mem_of_getElem? (i := 1) rfl) dL_acts_966 ?_
                          refine r_ic_neR K 975 dL_acts_968 (by decide) (fun hq_199 => absurd rfl hq_199) (fun hq_199 => ?_)
                          refine r_iconst K (nI 1) dL_acts_971 (by decide) ?_
                          refine r_goto K 976 dL_acts_972 (by decide) ?_
                          exact hret _ _ _ _ _ 1 (S1, J198, J190, up (up U 3 3 fs) 3 4 fm) [] dL_acts_976 (by decide) ⟨rfl, hI1, (by rw [hS1]; exact rel_format hR)⟩ (List.append_nil _).symm (by show k2 + 9 ≤ 2400; omega) (by show n2 + 54 ≤ 14400; omega)
                        ·
                          refine r_iload K dL_acts_854 rfl ?_
                          refine r_aload_n K dL_acts_856 rfl ?_
                          refine r_iload K dL_acts_857 rfl ?_
                          refine r_callO (rest := [.int (nI (cnt (alw S1) j))]) KE (w_isAllowed_0 l D a c S1 hl0 hV1  j (by omega)) 2 gL_acts_L_isAllowed rfl (by decide +kernel) rfl ⟨⟨Nat.le_of_ble_eq_true rfl, Nat.le_of_ble_eq_true rfl⟩, (by show k2 + 1 ≤ 2400; omega), (by show n2 + 6 ≤ 14400; omega)⟩ rfl (Nat.le_of_ble_eq_true rfl) dL_acts_859 (fun J200 => ?_)
                          refine r_iadd K dL_acts_862 ?_
                          refine r_istore (lv' := [(0, .ref (a 0)), (1, .ref (b 0)), (2, .ref (e 0)), (3, .ref (e 1)), (4, .ref (e 2)), (5, .ref (e 3)), (6, .int xx), (7, .int yy), (8, .int (nI kn)), (9, .int (nI its)), (10, .int (nI col)), (11, .int (nI dk)), (12, .int (nI cd)), (13, .int (nI 1)), (14, .int (nI (nAlw S1))), (15, .int (nI (cnt (alw S1) j + (alw S1 j).toNat))), (16, .int (nI j))]) K dL_acts_863 (by decide) rfl ?_
                          refine r_iinc (lv' := [(0, .ref (a 0)), (1, .ref (b 0)), (2, .ref (e 0)), (3, .ref (e 1)), (4, .ref (e 2)), (5, .ref (e 3)), (6, .int xx), (7, .int yy), (8, .int (nI kn)), (9, .int (nI its)), (10, .int (nI col)), (11, .int (nI dk)), (12, .int (nI cd)), (13, .int (nI 1)), (14, .int (nI (nAlw S1))), (15, .int (nI (cnt (alw S1) j + (alw S1 j).toNat))), (16, .int (nI (j + 1)))]) K dL_acts_865 rfl (nI_1 _) (by decide) rfl ?_
                          refine r_goto K 845 dL_acts_868 (by decide) ?_
                          exact ih185 (j + 1) _ _ _ (by omega) (by omega) (by show k2 + 1 ≤ _; omega) (by show n2 + 6 ≤ _; omega)
                    exact LA183 13 0 _ _ _ (by omega) (Nat.zero_le _) (by show k1 + 2 ≤ _; omega) (by show n1 + 12 ≤ _; omega)
                  refine r_aload K dL_acts_732 rfl ?_
                  refine r_iconst K (nI 3) dL_acts_734 (by decide) ?_
                  refine r_iload K dL_acts_735 rfl ?_
                  refine r_iconst K (nI 3) dL_acts_737 (by decide) ?_
                  refine r_callS0 (rest := [.int (nI 3), .ref (e 3)]) K (c_L_low l D c yy 3 (by omega) (by omega)) 2 gL_acts_L_low rfl (by decide +kernel) rfl ⟨⟨Nat.le_of_ble_eq_true rfl, Nat.le_of_ble_eq_true rfl⟩, (by show k1 + 0 ≤ 2400; omega), (by show n1 + 0 ≤ 14400; omega)⟩ rfl (Nat.le_of_ble_eq_true rfl) dL_acts_738 ?_
                  rintro _ _ ⟨k201, hk201, rfl⟩
                  refine r_if_le K 748 dL_acts_741 (by decide) (by omega) (fun hq_202 => ?_) (fun hq_202 => ?_)
                  ·
                    refine r_iconst K (nI 4) dL_acts_748 (by decide) ?_
                    refine r_iload K dL_acts_749 rfl ?_
                    refine r_iconst K (nI 3) dL_acts_751 (by decide) ?_
                    refine r_ishrR K dL_acts_752 ?_
                    refine r_bipush K (nI 7) dL_acts_753 (by decide) ?_
                    refine r_callS0 (rest := [.int (nI 4), .int (nI 3), .ref (e 3)]) K (c_L_low l D c (yy >>> (nI 3 &&& 31)) 7 (by omega) (by omega)) 2 gL_acts_L_low rfl (by decide +kernel) rfl ⟨⟨Nat.le_of_ble_eq_true rfl, Nat.le_of_ble_eq_true rfl⟩, (by show k1 + 0 ≤ 2400; omega), (by show n1 + 0 ≤ 14400; omega)⟩ rfl (Nat.le_of_ble_eq_true rfl) dL_acts_755 ?_
                    rintro _ _ ⟨k203, hk203, rfl⟩
                    refine r_iadd K dL_acts_758 ?_
                    exact HM178 (4 + k203) _ _ (by omega) (by show k1 ≤ _; omega) (by show n1 ≤ _; omega)
                  ·
                    refine r_iconst K (nI 4) dL_acts_744 (by decide) ?_
                    refine r_goto K 759 dL_acts_745 (by decide) ?_
                    exact HM178 4 _ _ (by omega) (by show k1 ≤ _; omega) (by show n1 ≤ _; omega)
            ·
              refine r_iload K dL_acts_593 rfl ?_
              refine r_bipush K (nI 6) dL_acts_595 (by decide) ?_
              refine r_ishrR K dL_acts_597 ?_
              refine r_bipush K (nI 10) dL_acts_598 (by decide) ?_
              refine r_callS0 (rest := []) K (c_L_low l D c (yy >>> (nI 6 &&& 31)) 10 (by omega) (by omega)) 2 gL_acts_L_low rfl (by decide +kernel) rfl ⟨⟨Nat.le_of_ble_eq_true rfl, Nat.le_of_ble_eq_true rfl⟩, (by show k1 + 0 ≤ 2400; omega), (by show n1 + 0 ≤ 14400; omega)⟩ rfl (Nat.le_of_ble_eq_true rfl) dL_acts_600 ?_
              rintro _ _ ⟨k204, hk204, rfl⟩
              obtain ⟨pw, hpw⟩ : ∃ z, z = k204 := ⟨_, rfl⟩
              refine r_top (congrArg nI hpw.symm) ?_
              have bpw : pw < 10 := by omega
              refine r_istore (lv' := [(0, .ref (a 0)), (1, .ref (b 0)), (2, .ref (e 0)), (3, .ref (e 1)), (4, .ref (e 2)), (5, .ref (e 3)), (6, .int xx), (7, .int yy), (8, .int (nI kn)), (9, .int (nI its)), (10, .int (nI col)), (11, .int (nI dk)), (12, .int (nI cd)), (13, .int (nI pw))]) K dL_acts_603 (by decide) rfl ?_
              refine r_iload K dL_acts_605 rfl ?_
              refine r_bipush K (nI 10) dL_acts_607 (by decide) ?_
              refine r_ishrR K dL_acts_609 ?_
              refine r_iconst K (nI 4) dL_acts_610 (by decide) ?_
              refine r_callS0 (rest := []) K (c_L_low l D c (yy >>> (nI 10 &&& 31)) 4 (by omega) (by omega)) 2 gL_acts_L_low rfl (by decide +kernel) rfl ⟨⟨Nat.le_of_ble_eq_true rfl, Nat.le_of_ble_eq_true rfl⟩, (by show k1 + 0 ≤ 2400; omega), (by show n1 + 0 ≤ 14400; omega)⟩ rfl (Nat.le_of_ble_eq_true rfl) dL_acts_611 ?_
              rintro _ _ ⟨k205, hk205, rfl⟩
              obtain ⟨tr, htr⟩ : ∃ z, z = k205 := ⟨_, rfl⟩
              refine r_top (congrArg nI htr.symm) ?_
              have btr : tr < 4 := by omega
              refine r_istore (lv' := [(0, .ref (a 0)), (1, .ref (b 0)), (2, .ref (e 0)), (3, .ref (e 1)), (4, .ref (e 2)), (5, .ref (e 3)), (6, .int xx), (7, .int yy), (8, .int (nI kn)), (9, .int (nI its)), (10, .int (nI col)), (11, .int (nI dk)), (12, .int (nI cd)), (13, .int (nI pw)), (14, .int (nI tr))]) K dL_acts_614 (by decide) rfl ?_
              refine r_aload_n K dL_acts_616 rfl ?_
              refine r_iload K dL_acts_617 rfl ?_
              refine r_iload K dL_acts_619 rfl ?_
              refine r_iload K dL_acts_621 rfl ?_
              refine r_callO (rest := []) KE (w_setKind_0 l D a c S hl0 hV  its pw tr (by omega) (by omega) (by omega)) 4 gL_acts_L_setKind rfl (by decide +kernel) rfl ⟨⟨Nat.le_of_ble_eq_true rfl, Nat.le_of_ble_eq_true rfl⟩, (by show k1 + 3 ≤ 2400; omega), (by show n1 + 18 ≤ 14400; omega)⟩ rfl (Nat.le_of_ble_eq_true rfl) dL_acts_623 (fun J206 => ?_)
              have b10 := V_b hV 10 its
              obtain ⟨S1, hS1⟩ : ∃ X : St, X = up (up S 10 its pw) 11 its tr := ⟨_, rfl⟩
              have hI1 : Inv (m + 1) S1 := by rw [hS1]; exact (inv_setKind hI (by omega) (by omega)).mono (by omega)
              have hV1 := hI1.V (by omega)
              have h251 := hI1.2.2.1.lt2
              have h131 := hI1.small (show m + 1 ≤ 600 by omega) 13
              have h141 := hI1.small (show m + 1 ≤ 600 by omega) 14
              refine r_w (ws' := wW a b e c S1 J206 S K2 U []) (by rw [hS1] <;> rfl) ?_
              refine r_istore (lv' := [(0, .ref (a 0)), (1, .ref (b 0)), (2, .ref (e 0)), (3, .ref (e 1)), (4, .ref (e 2)), (5, .ref (e 3)), (6, .int xx), (7, .int yy), (8, .int (nI kn)), (9, .int (nI its)), (10, .int (nI col)), (11, .int (nI dk)), (12, .int (nI cd)), (13, .int (nI pw)), (14, .int (nI tr)), (15, .int (nI (S 10 its)))]) K dL_acts_626 (by decide) rfl ?_
              refine r_aload_n K dL_acts_628 rfl ?_
              refine r_iload K dL_acts_629 rfl ?_
              refine r_iload K dL_acts_631 rfl ?_
              refine r_iload K dL_acts_633 rfl ?_
              refine r_callT (rest := []) KE (w_setKind_0 l D b c S hl0 hV  its pw tr (by omega) (by omega) (by omega)) 4 gL_acts_L_setKind rfl (by decide +kernel) rfl ⟨⟨Nat.le_of_ble_eq_true rfl, Nat.le_of_ble_eq_true rfl⟩, (by show k1 + 3 + 3 ≤ 2400; omega), (by show n1 + 18 + 18 ≤ 14400; omega)⟩ rfl (Nat.le_of_ble_eq_true rfl) dL_acts_635 (fun J207 => ?_)
              refine r_w (ws' := wW a b e c S1 J206 S1 J207 U []) (by rw [hS1] <;> rfl) ?_
              refine r_iload K dL_acts_638 rfl ?_
              refine r_ic_ne K 701 dL_acts_640 (by decide) (by omega) (by omega) (fun hq_208 => by omega) (fun hq_208 => ?_)
              refine r_aload_n K dL_acts_643 rfl ?_
              refine r_iload K dL_acts_644 rfl ?_
              refine r_iload K dL_acts_646 rfl ?_
              refine r_iload K dL_acts_648 rfl ?_
              refine r_callO (rest := []) KE (w_setKind_0 l D a c S1 hl0 hV1  its pw tr (by omega) (by omega) (by omega)) 4 gL_acts_L_setKind rfl (by decide +kernel) rfl ⟨⟨Nat.le_of_ble_eq_true rfl, Nat.le_of_ble_eq_true rfl⟩, (by show k1 + 6 + 3 ≤ 2400; omega), (by show n1 + 36 + 18 ≤ 14400; omega)⟩ rfl (Nat.le_of_ble_eq_true rfl) dL_acts_650 (fun J209 => ?_)
              refine r_w (ws' := wW a b e c S1 J209 S1 J207 U []) (by rw [hS1, kind_again]) ?_
              refine r_top (congrArg nI (show _ = pw from by rw [hS1, up_ne (by decide), up_same])) ?_
              refine r_iload K dL_acts_653 rfl ?_
              refine r_ic_ne K 701 dL_acts_655 (by decide) (by omega) (by omega) (fun hq_210 => by omega) (fun hq_210 => ?_)
              refine r_aload_n K dL_acts_658 rfl ?_
              refine r_bipush K (nI 16) dL_acts_659 (by decide) ?_
              refine r_bipush K (nI 10) dL_acts_661 (by decide) ?_
              refine r_iconst K (nI 0) dL_acts_663 (by decide) ?_
              refine r_callO (rest := []) KE (x_setKind_1 l D a c S1 hl0 hV1  (nI 16) (nI 10) (nI 0) (by decide)) 4 gL_acts_L_setKind rfl (by decide +kernel) rfl ⟨⟨Nat.le_of_ble_eq_true rfl, Nat.le_of_ble_eq_true rfl⟩, (by show k1 + 9 + 3 ≤ 2400; omega), (by show n1 + 54 + 18 ≤ 14400; omega)⟩ rfl (Nat.le_of_ble_eq_true rfl) dL_acts_664 (fun J211 => ?_)
              refine r_ldc K (v := -1000001) (List.mem_of_getElem? (i := 1) rfl) dL_acts_667 ?_
              refine r_ic_neR K 701 dL_acts_669 (by decide) (fun hq_212 => absurd rfl hq_212) (fun hq_212 => ?_)
              refine r_aload_n K dL_acts_672 rfl ?_
              refine r_iconst K (nI 0) dL_acts_673 (by decide) ?_
              refine r_bipush K (nI 10) dL_acts_674 (by decide) ?_
              refine r_iconst K (nI 0) dL_acts_676 (by decide) ?_
              refine r_callO (rest := []) KE (x_setKind_2 l D a c S1 hl0 hV1  (nI 0) (nI 10) (nI 0) (by decide) (by decide)) 4 gL_acts_L_setKind rfl (by decide +kernel) rfl ⟨⟨Nat.le_of_ble_eq_true rfl, Nat.le_of_ble_eq_true rfl⟩, (by show k1 + 12 + 3 ≤ 2400; omega), (by show n1 + 72 + 18 ≤ 14400; omega)⟩ rfl (Nat.le_of_ble_eq_true rfl) dL_acts_677 (fun J213 => ?_)
              refine r_ldc K (v := -1000002) (List.mem_of_getElem? (i := 3) rfl) dL_acts_680 ?_
              refine r_ic_neR K 701 dL_acts_682 (by decide) (fun hq_214 => absurd rfl hq_214) (fun hq_214 => ?_)
              refine r_aload_n K dL_acts_685 rfl ?_
              refine r_iconst K (nI 0) dL_acts_686 (by decide) ?_
              refine r_iconst K (nI 0) dL_acts_687 (by decide) ?_
              refine r_iconst K (nI 4) dL_acts_688 (by decide) ?_
              refine r_callO (rest := []) KE (x_setKind_2 l D a c S1 hl0 hV1  (nI 0) (nI 0) (nI 4) (by decide) (by decide)) 4 gL_acts_L_setKind rfl (by decide +kernel) rfl ⟨⟨Nat.le_of_ble_eq_true rfl, Nat.le_of_ble_eq_true rfl⟩, (by show k1 + 15 + 3 ≤ 2400; omega), (by show n1 + 90 + 18 ≤ 14400; omega)⟩ rfl (Nat.le_of_ble_eq_true rfl) dL_acts_689 (fun J215 => ?_)
              refine r_ldc K (v := -1000002) (List.mem_of_getElem? (i := 3) rfl) dL_acts_692 ?_
              refine r_ic_neR K 701 dL_acts_694 (by decide) (fun hq_216 => absurd rfl hq_216) (fun hq_216 => ?_)
              refine r_iconst K (nI 1) dL_acts_697 (by decide) ?_
              refine r_goto K 702 dL_acts_698 (by decide) ?_
              exact hret _ _ _ _ _ 1 (S1, J215, J207, U) [] dL_acts_702 (by decide) ⟨rfl, hI1, (by rw [hS1]; exact rel_setKind hR)⟩ (List.append_nil _).symm (by show k1 + 18 ≤ 2400; omega) (by show n1 + 108 ≤ 14400; omega)
          ·
            have hsz := V_size hV dk
            refine r_aload_n K dL_acts_465 rfl ?_
            refine r_iconst K (nI 2) dL_acts_466 (by decide) ?_
            refine r_iload K dL_acts_467 rfl ?_
            refine r_imul K dL_acts_469 ?_
            refine r_iconst K (nI 1) dL_acts_470 (by decide) ?_
            refine r_iadd K dL_acts_471 ?_
            refine r_ldZ K 1 (zX_g1 _ _ _ _) (by omega) (by decide) dL_acts_472 ?_
            refine r_top (congrArg nI (show _ = S 19 dk from rel_sz hR (by omega))) ?_
            refine r_istore (lv' := [(0, .ref (a 0)), (1, .ref (b 0)), (2, .ref (e 0)), (3, .ref (e 1)), (4, .ref (e 2)), (5, .ref (e 3)), (6, .int xx), (7, .int yy), (8, .int (nI kn)), (9, .int (nI its)), (10, .int (nI col)), (11, .int (nI dk)), (12, .int (nI cd)), (13, .int (nI (S 19 dk)))]) K dL_acts_473 (by decide) rfl ?_
            refine r_iload K dL_acts_475 rfl ?_
            refine r_bipush K (nI 6) dL_acts_477 (by decide) ?_
            refine r_ishrR K dL_acts_479 ?_
            refine r_iload K dL_acts_480 rfl ?_
            refine r_iconst K (nI 1) dL_acts_482 (by decide) ?_
            refine r_iadd K dL_acts_483 ?_
            refine r_callS0 (rest := []) K (c_L_low l D c (yy >>> (nI 6 &&& 31)) (S 19 dk + 1) (by omega) (by omega)) 2 gL_acts_L_low rfl (by decide +kernel) rfl ⟨⟨Nat.le_of_ble_eq_true rfl, Nat.le_of_ble_eq_true rfl⟩, (by show k1 + 0 ≤ 2400; omega), (by show n1 + 0 ≤ 14400; omega)⟩ rfl (Nat.le_of_ble_eq_true rfl) dL_acts_484 ?_
            rintro _ _ ⟨k217, hk217, rfl⟩
            obtain ⟨pl, hpl⟩ : ∃ z, z = k217 := ⟨_, rfl⟩
            refine r_top (congrArg nI hpl.symm) ?_
            have bpl : pl < S 19 dk + 1 := by omega
            refine r_istore (lv' := [(0, .ref (a 0)), (1, .ref (b 0)), (2, .ref (e 0)), (3, .ref (e 1)), (4, .ref (e 2)), (5, .ref (e 3)), (6, .int xx), (7, .int yy), (8, .int (nI kn)), (9, .int (nI its)), (10, .int (nI col)), (11, .int (nI dk)), (12, .int (nI cd)), (13, .int (nI (S 19 dk))), (14, .int (nI pl))]) K dL_acts_487 (by decide) rfl ?_
            by_cases hpl : pl < S 19 dk
            ·
              have hcb := rel_card hR (show dk < 12 by omega) hpl
              refine r_aload_n K dL_acts_489 rfl ?_
              refine r_iload K dL_acts_490 rfl ?_
              refine r_iload K dL_acts_492 rfl ?_
              refine r_callO (rest := []) KE (w_cut_0 l D a c S hl0 hV  dk pl (by omega) hpl) 3 gL_acts_L_cut rfl (by decide +kernel) rfl ⟨⟨Nat.le_of_ble_eq_true rfl, Nat.le_of_ble_eq_true rfl⟩, (by show k1 + 2 ≤ 2400; omega), (by show n1 + 12 ≤ 14400; omega)⟩ rfl (Nat.le_of_ble_eq_true rfl) dL_acts_494 (fun J218 => ?_)
              obtain ⟨S1, hS1⟩ : ∃ X : St, X = cuS S dk pl := ⟨_, rfl⟩
              have hI1 : Inv (m + 1) S1 := by rw [hS1]; exact (inv_cut hI (by omega)).mono (by omega)
              have hV1 := hI1.V (by omega)
              have h251 := hI1.2.2.1.lt2
              have h131 := hI1.small (show m + 1 ≤ 600 by omega) 13
              have h141 := hI1.small (show m + 1 ≤ 600 by omega) 14
              have e3 : S1 3 0 = S 3 0 := by rw [hS1]; unfold cuS; rw [shl_ne (by omega), up_ne (by decide)]
              refine r_w (ws' := wW a b e c S1 J218 S K2 U []) (by rw [hS1] <;> rfl) ?_
              refine r_istore (lv' := [(0, .ref (a 0)), (1, .ref (b 0)), (2, .ref (e 0)), (3, .ref (e 1)), (4, .ref (e 2)), (5, .ref (e 3)), (6, .int xx), (7, .int yy), (8, .int (nI kn)), (9, .int (nI its)), (10, .int (nI col)), (11, .int (nI dk)), (12, .int (nI cd)), (13, .int (nI (S 19 dk))), (14, .int (nI pl)), (15, .int (nI (S (30 + dk) pl)))]) K dL_acts_497 (by decide) rfl ?_
              refine r_aload_n K dL_acts_499 rfl ?_
              refine r_iconst K (nI 2) dL_acts_500 (by decide) ?_
              refine r_iload K dL_acts_501 rfl ?_
              refine r_imul K dL_acts_503 ?_
              refine r_iconst K (nI 1) dL_acts_504 (by decide) ?_
              refine r_iadd K dL_acts_505 ?_
              refine r_dup2 K dL_acts_506 rfl rfl ?_
              refine r_ldZ K 1 (zX_g1 _ _ _ _) (by omega) (by decide) dL_acts_507 ?_
              refine r_top (congrArg nI (show _ = S 19 dk from rel_sz hR (by omega))) ?_
              refine r_iload K dL_acts_508 rfl ?_
              refine r_iload K dL_acts_510 rfl ?_
              refine r_ic_ge K 519 dL_acts_512 (by decide) (by omega) (by omega) (fun hq_219 => by omega) (fun hq_219 => ?_)
              refine r_iconst K (nI 1) dL_acts_515 (by decide) ?_
              refine r_goto K 520 dL_acts_516 (by decide) ?_
              refine r_isub K dL_acts_520 (by omega) ?_
              refine r_stZ (U' := up U 1 ((2 * dk) + 1) (S 19 dk - 1)) K 1 (zX_g1 _ _ _ _) (by omega) (by decide) dL_acts_521 (zX_s1 _ _ _ _ _ _) ?_
              refine r_aload_n K dL_acts_522 rfl ?_
              refine r_iload K dL_acts_523 rfl ?_
              refine r_iload K dL_acts_525 rfl ?_
              refine r_callT (rest := []) KE (w_cut_0 l D b c S hl0 hV  dk pl (by omega) hpl) 3 gL_acts_L_cut rfl (by decide +kernel) rfl ⟨⟨Nat.le_of_ble_eq_true rfl, Nat.le_of_ble_eq_true rfl⟩, (by show k1 + 2 + 2 ≤ 2400; omega), (by show n1 + 12 + 12 ≤ 14400; omega)⟩ rfl (Nat.le_of_ble_eq_true rfl) dL_acts_527 (fun J221 => ?_)
              refine r_w (ws' := wW a b e c S1 J218 S1 J221 (up U 1 ((2 * dk) + 1) (S 19 dk - 1)) []) (by rw [hS1] <;> rfl) ?_
              refine r_iload K dL_acts_530 rfl ?_
              refine r_ic_ne K 584 dL_acts_532 (by decide) (by omega) (by omega) (fun hq_222 => by omega) (fun hq_222 => ?_)
              refine r_iload K dL_acts_535 rfl ?_
              refine r_iload K dL_acts_537 rfl ?_
              refine r_ic_ne K 552 dL_acts_539 (by decide) (by omega) (by omega) (fun hq_223 => ?_) (fun hq_223 => by omega)
              refine r_iload K dL_acts_552 rfl ?_
              refine r_if_lt K 584 dL_acts_554 (by decide) (by omega) (fun hq_224 => by omega) (fun hq_224 => ?_)
              refine r_iload K dL_acts_557 rfl ?_
              refine r_aload K dL_acts_559 rfl ?_
              refine r_iconst K (nI 0) dL_acts_561 (by decide) ?_
              refine r_ldZ K 3 (zX_g3 _ _ _ _) (by omega) (by decide) dL_acts_562 ?_
              refine r_top (congrArg nI (show _ = S 2 0 from (by rw [up_ne (by decide)]; exact hg0))) ?_
              refine r_ic_ge K 584 dL_acts_563 (by decide) (by omega) (by omega) (fun hq_225 => by omega) (fun hq_225 => ?_)
              refine r_aload_n K dL_acts_566 rfl ?_
              refine r_aload K dL_acts_567 rfl ?_
              refine r_iconst K (nI 1) dL_acts_569 (by decide) ?_
              refine r_ldZ K 3 (zX_g3 _ _ _ _) (by omega) (by decide) dL_acts_570 ?_
              refine r_top (congrArg nI (show _ = S 3 0 from (by rw [up_ne (by decide)]; exact hg1))) ?_
              refine r_iconst K (nI 0) dL_acts_571 (by decide) ?_
              refine r_callO (rest := []) KE (x_cut_1 l D a c S1 hl0 hV1  (nI (S 3 0)) (nI 0) (and_f1 (inB_big (by omega) (nI_le (by omega) (by omega))))) 3 gL_acts_L_cut rfl (by decide +kernel) rfl ⟨⟨Nat.le_of_ble_eq_true rfl, Nat.le_of_ble_eq_true rfl⟩, (by show k1 + 4 + 2 ≤ 2400; omega), (by show n1 + 24 + 12 ≤ 14400; omega)⟩ rfl (Nat.le_of_ble_eq_true rfl) dL_acts_572 (fun J226 => ?_)
              refine r_ldc K (v := -1000001) (List.mem_of_getElem? (i := 1) rfl) dL_acts_575 ?_
              refine r_ic_neR K 584 dL_acts_577 (by decide) (fun hq_227 => absurd rfl hq_227) (fun hq_227 => ?_)
              refine r_iconst K (nI 1) dL_acts_580 (by decide) ?_
              refine r_goto K 585 dL_acts_581 (by decide) ?_
              exact hret _ _ _ _ _ 1 (S1, J226, J221, up U 1 ((2 * dk) + 1) (S 19 dk - 1)) [] dL_acts_585 (by decide) ⟨rfl, hI1, (by rw [hS1]; exact rel_cut hR (by omega) hpl)⟩ (List.append_nil _).symm (by show k1 + 6 ≤ 2400; omega) (by show n1 + 36 ≤ 14400; omega)
            ·
              refine r_aload_n K dL_acts_489 rfl ?_
              refine r_iload K dL_acts_490 rfl ?_
              refine r_iload K dL_acts_492 rfl ?_
              refine r_callO (rest := []) KE (x_cut_1 l D a c S hl0 hV  (nI dk) (nI pl) (and_f2 (by rw [tn_nI (show dk < 2147483648 by omega)]; exact (inB_big (by omega) (nI_le (by omega) (by omega)))))) 3 gL_acts_L_cut rfl (by decide +kernel) rfl ⟨⟨Nat.le_of_ble_eq_true rfl, Nat.le_of_ble_eq_true rfl⟩, (by show k1 + 2 ≤ 2400; omega), (by show n1 + 12 ≤ 14400; omega)⟩ rfl (Nat.le_of_ble_eq_true rfl) dL_acts_494 (fun J228 => ?_)
              refine r_istore (lv' := [(0, .ref (a 0)), (1, .ref (b 0)), (2, .ref (e 0)), (3, .ref (e 1)), (4, .ref (e 2)), (5, .ref (e 3)), (6, .int xx), (7, .int yy), (8, .int (nI kn)), (9, .int (nI its)), (10, .int (nI col)), (11, .int (nI dk)), (12, .int (nI cd)), (13, .int (nI (S 19 dk))), (14, .int (nI pl)), (15, .int (-1000001))]) K dL_acts_497 (by decide) rfl ?_
              refine r_aload_n K dL_acts_499 rfl ?_
              refine r_iconst K (nI 2) dL_acts_500 (by decide) ?_
              refine r_iload K dL_acts_501 rfl ?_
              refine r_imul K dL_acts_503 ?_
              refine r_iconst K (nI 1) dL_acts_504 (by decide) ?_
              refine r_iadd K dL_acts_505 ?_
              refine r_dup2 K dL_acts_506 rfl rfl ?_
              refine r_ldZ K 1 (zX_g1 _ _ _ _) (by omega) (by decide) dL_acts_507 ?_
              refine r_top (congrArg nI (show _ = S 19 dk from rel_sz hR (by omega))) ?_
              refine r_iload K dL_acts_508 rfl ?_
              refine r_iload K dL_acts_510 rfl ?_
              refine r_ic_ge K 519 dL_acts_512 (by decide) (by omega) (by omega) (fun hq_229 => ?_) (fun hq_229 => by omega)
              refine r_iconst K (nI 0) dL_acts_519 (by decide) ?_
              refine r_isub K dL_acts_520 (by omega) ?_
              refine r_stZ (U' := up U 1 ((2 * dk) + 1) (S 19 dk - 0)) K 1 (zX_g1 _ _ _ _) (by omega) (by decide) dL_acts_521 (zX_s1 _ _ _ _ _ _) ?_
              refine r_aload_n K dL_acts_522 rfl ?_
              refine r_iload K dL_acts_523 rfl ?_
              refine r_iload K dL_acts_525 rfl ?_
              refine r_callT (rest := []) KE (x_cut_1 l D b c S hl0 hV  (nI dk) (nI pl) (and_f2 (by rw [tn_nI (show dk < 2147483648 by omega)]; exact (inB_big (by omega) (nI_le (by omega) (by omega)))))) 3 gL_acts_L_cut rfl (by decide +kernel) rfl ⟨⟨Nat.le_of_ble_eq_true rfl, Nat.le_of_ble_eq_true rfl⟩, (by show k1 + 2 + 2 ≤ 2400; omega), (by show n1 + 12 + 12 ≤ 14400; omega)⟩ rfl (Nat.le_of_ble_eq_true rfl) dL_acts_527 (fun J231 => ?_)
              refine r_iload K dL_acts_530 rfl ?_
              refine r_ic_neR K 584 dL_acts_532 (by decide) (fun hq_232 => absurd rfl hq_232) (fun hq_232 => ?_)
              refine r_iload K dL_acts_535 rfl ?_
              refine r_iload K dL_acts_537 rfl ?_
              refine r_ic_ne K 552 dL_acts_539 (by decide) (by omega) (by omega) (fun hq_233 => by omega) (fun hq_233 => ?_)
              refine r_iload K dL_acts_542 rfl ?_
              refine r_ldc K (v := -1000001) (List.mem_of_getElem? (i := 1) rfl) dL_acts_544 ?_
              refine r_ic_neR K 584 dL_acts_546 (by decide) (fun hq_234 => absurd rfl hq_234) (fun hq_234 => ?_)
              refine r_goto K 566 dL_acts_549 (by decide) ?_
              refine r_aload_n K dL_acts_566 rfl ?_
              refine r_aload K dL_acts_567 rfl ?_
              refine r_iconst K (nI 1) dL_acts_569 (by decide) ?_
              refine r_ldZ K 3 (zX_g3 _ _ _ _) (by omega) (by decide) dL_acts_570 ?_
              refine r_top (congrArg nI (show _ = S 3 0 from (by rw [up_ne (by decide)]; exact hg1))) ?_
              refine r_iconst K (nI 0) dL_acts_571 (by decide) ?_
              refine r_callO (rest := []) KE (x_cut_1 l D a c S hl0 hV  (nI (S 3 0)) (nI 0) (and_f1 (inB_big (by omega) (nI_le (by omega) (by omega))))) 3 gL_acts_L_cut rfl (by decide +kernel) rfl ⟨⟨Nat.le_of_ble_eq_true rfl, Nat.le_of_ble_eq_true rfl⟩, (by show k1 + 4 + 2 ≤ 2400; omega), (by show n1 + 24 + 12 ≤ 14400; omega)⟩ rfl (Nat.le_of_ble_eq_true rfl) dL_acts_572 (fun J235 => ?_)
              refine r_ldc K (v := -1000001) (List.mem_of_getElem? (i := 1) rfl) dL_acts_575 ?_
              refine r_ic_neR K 584 dL_acts_577 (by decide) (fun hq_236 => absurd rfl hq_236) (fun hq_236 => ?_)
              refine r_iconst K (nI 1) dL_acts_580 (by decide) ?_
              refine r_goto K 585 dL_acts_581 (by decide) ?_
              exact hret _ _ _ _ _ 1 (S, J235, J231, up U 1 ((2 * dk) + 1) (S 19 dk - 0)) [] dL_acts_585 (by decide) ⟨rfl, hI.mono (by omega), (by rw [up_same2 (show U 1 (2 * dk + 1) = S 19 dk - 0 from rel_sz hR (by omega))]; exact hR)⟩ (List.append_nil _).symm (by show k1 + 6 ≤ 2400; omega) (by show n1 + 36 ≤ 14400; omega)
        ·
          have hsz := V_size hV dk
          have b17 := V_b hV 17 cd
          have b18 := V_b hV 18 dk
          by_cases hown : S 17 cd = S 18 dk
          ·
            by_cases hheld : holdB S dk cd = true
            ·
              refine r_aload_n K dL_acts_260 rfl ?_
              refine r_iconst K (nI 2) dL_acts_261 (by decide) ?_
              refine r_iload K dL_acts_262 rfl ?_
              refine r_imul K dL_acts_264 ?_
              refine r_iconst K (nI 1) dL_acts_265 (by decide) ?_
              refine r_iadd K dL_acts_266 ?_
              refine r_ldZ K 1 (zX_g1 _ _ _ _) (by omega) (by decide) dL_acts_267 ?_
              refine r_top (congrArg nI (show _ = S 19 dk from rel_sz hR (by omega))) ?_
              refine r_istore (lv' := [(0, .ref (a 0)), (1, .ref (b 0)), (2, .ref (e 0)), (3, .ref (e 1)), (4, .ref (e 2)), (5, .ref (e 3)), (6, .int xx), (7, .int yy), (8, .int (nI kn)), (9, .int (nI its)), (10, .int (nI col)), (11, .int (nI dk)), (12, .int (nI cd)), (13, .int (nI (S 19 dk)))]) K dL_acts_268 (by decide) rfl ?_
              refine r_aload_n K dL_acts_270 rfl ?_
              refine r_iload K dL_acts_271 rfl ?_
              refine r_iload K dL_acts_273 rfl ?_
              refine r_callO (rest := []) KE (w_add_2 l D a c S hl0 hV  dk cd (by omega) (by omega) (by rw [hheld]; exact Bool.and_false _)) 3 gL_acts_L_add rfl (by decide +kernel) rfl ⟨⟨Nat.le_of_ble_eq_true rfl, Nat.le_of_ble_eq_true rfl⟩, (by show k1 + 3 ≤ 2400; omega), (by show n1 + 18 ≤ 14400; omega)⟩ rfl (Nat.le_of_ble_eq_true rfl) dL_acts_275 (fun J237 => ?_)
              refine r_istore (lv' := [(0, .ref (a 0)), (1, .ref (b 0)), (2, .ref (e 0)), (3, .ref (e 1)), (4, .ref (e 2)), (5, .ref (e 3)), (6, .int xx), (7, .int yy), (8, .int (nI kn)), (9, .int (nI its)), (10, .int (nI col)), (11, .int (nI dk)), (12, .int (nI cd)), (13, .int (nI (S 19 dk))), (14, .int (-1000002))]) K dL_acts_278 (by decide) rfl ?_
              refine r_aload_n K dL_acts_280 rfl ?_
              refine r_iload K dL_acts_281 rfl ?_
              refine r_callO (rest := []) KE (w_collectorOf_0 l D a c S hl0 hV  cd (by omega)) 2 gL_acts_L_collectorOf rfl (by decide +kernel) rfl ⟨⟨Nat.le_of_ble_eq_true rfl, Nat.le_of_ble_eq_true rfl⟩, (by show k1 + 3 + 1 ≤ 2400; omega), (by show n1 + 18 + 6 ≤ 14400; omega)⟩ rfl (Nat.le_of_ble_eq_true rfl) dL_acts_283 (fun J238 => ?_)
              refine r_aload_n K dL_acts_286 rfl ?_
              refine r_iconst K (nI 2) dL_acts_287 (by decide) ?_
              refine r_iload K dL_acts_288 rfl ?_
              refine r_imul K dL_acts_290 ?_
              refine r_ldZ K 1 (zX_g1 _ _ _ _) (by omega) (by decide) dL_acts_291 ?_
              refine r_top (congrArg nI (show _ = S 18 dk from rel_ow hR (by omega) bdk)) ?_
              refine r_ic_ne K 299 dL_acts_292 (by decide) (by omega) (by omega) (fun hq_239 => by omega) (fun hq_239 => ?_)
              refine r_iconst K (nI 1) dL_acts_295 (by decide) ?_
              refine r_goto K 300 dL_acts_296 (by decide) ?_
              refine r_istore (lv' := [(0, .ref (a 0)), (1, .ref (b 0)), (2, .ref (e 0)), (3, .ref (e 1)), (4, .ref (e 2)), (5, .ref (e 3)), (6, .int xx), (7, .int yy), (8, .int (nI kn)), (9, .int (nI its)), (10, .int (nI col)), (11, .int (nI dk)), (12, .int (nI cd)), (13, .int (nI (S 19 dk))), (14, .int (-1000002)), (15, .int (nI 1))]) K dL_acts_300 (by decide) rfl ?_
              refine r_aload_n K dL_acts_302 rfl ?_
              refine r_iload K dL_acts_303 rfl ?_
              refine r_iload K dL_acts_305 rfl ?_
              refine r_callT (rest := []) KE (w_add_2 l D b c S hl0 hV  dk cd (by omega) (by omega) (by rw [hheld]; exact Bool.and_false _)) 3 gL_acts_L_add rfl (by decide +kernel) rfl ⟨⟨Nat.le_of_ble_eq_true rfl, Nat.le_of_ble_eq_true rfl⟩, (by show k1 + 4 + 3 ≤ 2400; omega), (by show n1 + 24 + 18 ≤ 14400; omega)⟩ rfl (Nat.le_of_ble_eq_true rfl) dL_acts_307 (fun J240 => ?_)
              refine r_iload K dL_acts_310 rfl ?_
              refine r_ic_neR K 364 dL_acts_312 (by decide) (fun hq_241 => absurd rfl hq_241) (fun hq_241 => ?_)
              refine r_iload K dL_acts_315 rfl ?_
              refine r_if_ne K 330 dL_acts_317 (by decide) (by decide) (fun hq_243 => ?_) (fun hq_243 => absurd hq_243 (by decide))
              refine r_iload K dL_acts_330 rfl ?_
              refine r_iload K dL_acts_332 rfl ?_
              refine r_iconst K (nI 1) dL_acts_334 (by decide) ?_
              refine r_iadd K dL_acts_335 ?_
              refine r_ic_eqR K 360 dL_acts_336 (by decide) (fun hq_244 => absurd hq_244 (neg_ne (by decide) (by omega))) (fun hq_244 => ?_)
              refine r_iload K dL_acts_339 rfl ?_
              refine r_ldc K (v := -1000002) (List.mem_of_getElem? (i := 3) rfl) dL_acts_341 ?_
              refine r_ic_eqR K 360 dL_acts_343 (by decide) (fun hq_245 => ?_) (fun hq_245 => absurd rfl hq_245)
              refine r_iconst K (nI 1) dL_acts_360 (by decide) ?_
              refine r_goto K 365 dL_acts_361 (by decide) ?_
              refine r_istore (lv' := [(0, .ref (a 0)), (1, .ref (b 0)), (2, .ref (e 0)), (3, .ref (e 1)), (4, .ref (e 2)), (5, .ref (e 3)), (6, .int xx), (7, .int yy), (8, .int (nI kn)), (9, .int (nI its)), (10, .int (nI col)), (11, .int (nI dk)), (12, .int (nI cd)), (13, .int (nI (S 19 dk))), (14, .int (-1000002)), (15, .int (nI 1)), (16, .int (nI 1))]) K dL_acts_365 (by decide) rfl ?_
              refine r_aload_n K dL_acts_367 rfl ?_
              refine r_iconst K (nI 2) dL_acts_368 (by decide) ?_
              refine r_iload K dL_acts_369 rfl ?_
              refine r_imul K dL_acts_371 ?_
              refine r_iconst K (nI 1) dL_acts_372 (by decide) ?_
              refine r_iadd K dL_acts_373 ?_
              refine r_dup2 K dL_acts_374 rfl rfl ?_
              refine r_ldZ K 1 (zX_g1 _ _ _ _) (by omega) (by decide) dL_acts_375 ?_
              refine r_top (congrArg nI (show _ = S 19 dk from rel_sz hR (by omega))) ?_
              refine r_iload K dL_acts_376 rfl ?_
              refine r_if_leR K 385 dL_acts_378 (by decide) (fun hq_246 => ?_) (fun hq_246 => absurd (by decide) hq_246)
              refine r_iconst K (nI 0) dL_acts_385 (by decide) ?_
              refine r_iadd K dL_acts_386 ?_
              refine r_stZ (U' := up U 1 ((2 * dk) + 1) (S 19 dk + 0)) K 1 (zX_g1 _ _ _ _) (by omega) (by decide) dL_acts_387 (zX_s1 _ _ _ _ _ _) ?_
              refine r_iload K dL_acts_388 rfl ?_
              refine r_if_eq K 456 dL_acts_390 (by decide) (by decide) (fun hq_249 => absurd hq_249 (by decide)) (fun hq_249 => ?_)
              refine r_iload K dL_acts_393 rfl ?_
              refine r_if_ltR K 423 dL_acts_395 (by decide) (fun hq_250 => ?_) (fun hq_250 => absurd (by decide) hq_250)
              refine r_aload_n K dL_acts_423 rfl ?_
              refine r_iload K dL_acts_424 rfl ?_
              refine r_aload K dL_acts_426 rfl ?_
              refine r_iconst K (nI 0) dL_acts_428 (by decide) ?_
              refine r_ldZ K 3 (zX_g3 _ _ _ _) (by omega) (by decide) dL_acts_429 ?_
              refine r_top (congrArg nI (show _ = S 2 0 from (by rw [up_ne (by decide)]; exact hg0))) ?_
              refine r_callO (rest := []) KE (x_add_1 l D a c S hl0 hV  (nI dk) (nI (S 2 0)) (and_f2 (inB_big (by omega) (nI_le (by omega) (by omega))))) 3 gL_acts_L_add rfl (by decide +kernel) rfl ⟨⟨Nat.le_of_ble_eq_true rfl, Nat.le_of_ble_eq_true rfl⟩, (by show k1 + 7 + 3 ≤ 2400; omega), (by show n1 + 42 + 18 ≤ 14400; omega)⟩ rfl (Nat.le_of_ble_eq_true rfl) dL_acts_430 (fun J251 => ?_)
              refine r_ldc K (v := -1000001) (List.mem_of_getElem? (i := 1) rfl) dL_acts_433 ?_
              refine r_ic_neR K 456 dL_acts_435 (by decide) (fun hq_252 => absurd rfl hq_252) (fun hq_252 => ?_)
              refine r_aload_n K dL_acts_438 rfl ?_
              refine r_aload K dL_acts_439 rfl ?_
              refine r_iconst K (nI 1) dL_acts_441 (by decide) ?_
              refine r_ldZ K 3 (zX_g3 _ _ _ _) (by omega) (by decide) dL_acts_442 ?_
              refine r_top (congrArg nI (show _ = S 3 0 from (by rw [up_ne (by decide)]; exact hg1))) ?_
              refine r_iconst K (nI 0) dL_acts_443 (by decide) ?_
              refine r_callO (rest := []) KE (x_add_1 l D a c S hl0 hV  (nI (S 3 0)) (nI 0) (and_f1 (inB_big (by omega) (nI_le (by omega) (by omega))))) 3 gL_acts_L_add rfl (by decide +kernel) rfl ⟨⟨Nat.le_of_ble_eq_true rfl, Nat.le_of_ble_eq_true rfl⟩, (by show k1 + 10 + 3 ≤ 2400; omega), (by show n1 + 60 + 18 ≤ 14400; omega)⟩ rfl (Nat.le_of_ble_eq_true rfl) dL_acts_444 (fun J253 => ?_)
              refine r_ldc K (v := -1000001) (List.mem_of_getElem? (i := 1) rfl) dL_acts_447 ?_
              refine r_ic_neR K 456 dL_acts_449 (by decide) (fun hq_254 => absurd rfl hq_254) (fun hq_254 => ?_)
              refine r_iconst K (nI 1) dL_acts_452 (by decide) ?_
              refine r_goto K 457 dL_acts_453 (by decide) ?_
              exact hret _ _ _ _ _ 1 (S, J253, J240, up U 1 ((2 * dk) + 1) (S 19 dk + 0)) [] dL_acts_457 (by decide) ⟨rfl, hI.mono (by omega), (by rw [up_same2 (show U 1 (2 * dk + 1) = S 19 dk + 0 from rel_sz hR (by omega))]; exact hR)⟩ (List.append_nil _).symm (by show k1 + 13 ≤ 2400; omega) (by show n1 + 78 ≤ 14400; omega)
            ·
              have hheld : holdB S dk cd = false := by cases hz : holdB S dk cd <;> simp_all
              by_cases hfull : S 19 dk < 10
              ·
                refine r_aload_n K dL_acts_260 rfl ?_
                refine r_iconst K (nI 2) dL_acts_261 (by decide) ?_
                refine r_iload K dL_acts_262 rfl ?_
                refine r_imul K dL_acts_264 ?_
                refine r_iconst K (nI 1) dL_acts_265 (by decide) ?_
                refine r_iadd K dL_acts_266 ?_
                refine r_ldZ K 1 (zX_g1 _ _ _ _) (by omega) (by decide) dL_acts_267 ?_
                refine r_top (congrArg nI (show _ = S 19 dk from rel_sz hR (by omega))) ?_
                refine r_istore (lv' := [(0, .ref (a 0)), (1, .ref (b 0)), (2, .ref (e 0)), (3, .ref (e 1)), (4, .ref (e 2)), (5, .ref (e 3)), (6, .int xx), (7, .int yy), (8, .int (nI kn)), (9, .int (nI its)), (10, .int (nI col)), (11, .int (nI dk)), (12, .int (nI cd)), (13, .int (nI (S 19 dk)))]) K dL_acts_268 (by decide) rfl ?_
                refine r_aload_n K dL_acts_270 rfl ?_
                refine r_iload K dL_acts_271 rfl ?_
                refine r_iload K dL_acts_273 rfl ?_
                refine r_callO (rest := []) KE (w_add_0 l D a c S hl0 hV  dk cd (by omega) (by omega) hown hheld hfull) 3 gL_acts_L_add rfl (by decide +kernel) rfl ⟨⟨Nat.le_of_ble_eq_true rfl, Nat.le_of_ble_eq_true rfl⟩, (by show k1 + 3 ≤ 2400; omega), (by show n1 + 18 ≤ 14400; omega)⟩ rfl (Nat.le_of_ble_eq_true rfl) dL_acts_275 (fun J255 => ?_)
                obtain ⟨S1, hS1⟩ : ∃ X : St, X = adS S dk cd := ⟨_, rfl⟩
                have hI1 : Inv (m + 1) S1 := by rw [hS1]; exact (inv_add hI (by omega) (by omega)).mono (by omega)
                have hV1 := hI1.V (by omega)
                have h251 := hI1.2.2.1.lt2
                have h131 := hI1.small (show m + 1 ≤ 600 by omega) 13
                have h141 := hI1.small (show m + 1 ≤ 600 by omega) 14
                have e2 : S1 2 0 = S 2 0 := by rw [hS1, adS_te (by decide) (by omega)]
                have e3 : S1 3 0 = S 3 0 := by rw [hS1, adS_te (by decide) (by omega)]
                have e17 : S1 17 cd = S 17 cd := by rw [hS1, adS_te (by decide) (by omega)]
                have e19 : S1 19 dk = S 19 dk + 1 := by rw [hS1, adS_19 (by omega), upf_same]
                have hshb := shuf_lt hV1 (show dk < 12 by omega) 0 (S 19 dk)
                refine r_w (ws' := wW a b e c S1 J255 S K2 U []) (by rw [hS1] <;> rfl) ?_
                refine r_istore (lv' := [(0, .ref (a 0)), (1, .ref (b 0)), (2, .ref (e 0)), (3, .ref (e 1)), (4, .ref (e 2)), (5, .ref (e 3)), (6, .int xx), (7, .int yy), (8, .int (nI kn)), (9, .int (nI its)), (10, .int (nI col)), (11, .int (nI dk)), (12, .int (nI cd)), (13, .int (nI (S 19 dk))), (14, .int (nI (S 19 dk + 1)))]) K dL_acts_278 (by decide) rfl ?_
                refine r_aload_n K dL_acts_280 rfl ?_
                refine r_iload K dL_acts_281 rfl ?_
                refine r_callO (rest := []) KE (w_collectorOf_0 l D a c S1 hl0 hV1  cd (by omega)) 2 gL_acts_L_collectorOf rfl (by decide +kernel) rfl ⟨⟨Nat.le_of_ble_eq_true rfl, Nat.le_of_ble_eq_true rfl⟩, (by show k1 + 3 + 1 ≤ 2400; omega), (by show n1 + 18 + 6 ≤ 14400; omega)⟩ rfl (Nat.le_of_ble_eq_true rfl) dL_acts_283 (fun J256 => ?_)
                refine r_top (congrArg nI (show _ = S 17 cd from e17)) ?_
                refine r_aload_n K dL_acts_286 rfl ?_
                refine r_iconst K (nI 2) dL_acts_287 (by decide) ?_
                refine r_iload K dL_acts_288 rfl ?_
                refine r_imul K dL_acts_290 ?_
                refine r_ldZ K 1 (zX_g1 _ _ _ _) (by omega) (by decide) dL_acts_291 ?_
                refine r_top (congrArg nI (show _ = S 18 dk from rel_ow hR (by omega) bdk)) ?_
                refine r_ic_ne K 299 dL_acts_292 (by decide) (by omega) (by omega) (fun hq_257 => by omega) (fun hq_257 => ?_)
                refine r_iconst K (nI 1) dL_acts_295 (by decide) ?_
                refine r_goto K 300 dL_acts_296 (by decide) ?_
                refine r_istore (lv' := [(0, .ref (a 0)), (1, .ref (b 0)), (2, .ref (e 0)), (3, .ref (e 1)), (4, .ref (e 2)), (5, .ref (e 3)), (6, .int xx), (7, .int yy), (8, .int (nI kn)), (9, .int (nI its)), (10, .int (nI col)), (11, .int (nI dk)), (12, .int (nI cd)), (13, .int (nI (S 19 dk))), (14, .int (nI (S 19 dk + 1))), (15, .int (nI 1))]) K dL_acts_300 (by decide) rfl ?_
                refine r_aload_n K dL_acts_302 rfl ?_
                refine r_iload K dL_acts_303 rfl ?_
                refine r_iload K dL_acts_305 rfl ?_
                refine r_callT (rest := []) KE (w_add_0 l D b c S hl0 hV  dk cd (by omega) (by omega) hown hheld hfull) 3 gL_acts_L_add rfl (by decide +kernel) rfl ⟨⟨Nat.le_of_ble_eq_true rfl, Nat.le_of_ble_eq_true rfl⟩, (by show k1 + 4 + 3 ≤ 2400; omega), (by show n1 + 24 + 18 ≤ 14400; omega)⟩ rfl (Nat.le_of_ble_eq_true rfl) dL_acts_307 (fun J258 => ?_)
                refine r_w (ws' := wW a b e c S1 J256 S1 J258 U []) (by rw [hS1] <;> rfl) ?_
                refine r_iload K dL_acts_310 rfl ?_
                refine r_ic_ne K 364 dL_acts_312 (by decide) (by omega) (by omega) (fun hq_259 => by omega) (fun hq_259 => ?_)
                refine r_iload K dL_acts_315 rfl ?_
                refine r_if_ne K 330 dL_acts_317 (by decide) (by decide) (fun hq_261 => ?_) (fun hq_261 => absurd hq_261 (by decide))
                refine r_iload K dL_acts_330 rfl ?_
                refine r_iload K dL_acts_332 rfl ?_
                refine r_iconst K (nI 1) dL_acts_334 (by decide) ?_
                refine r_iadd K dL_acts_335 ?_
                refine r_ic_eq K 360 dL_acts_336 (by decide) (by omega) (by omega) (fun hq_262 => ?_) (fun hq_262 => by omega)
                refine r_iconst K (nI 1) dL_acts_360 (by decide) ?_
                refine r_goto K 365 dL_acts_361 (by decide) ?_
                refine r_istore (lv' := [(0, .ref (a 0)), (1, .ref (b 0)), (2, .ref (e 0)), (3, .ref (e 1)), (4, .ref (e 2)), (5, .ref (e 3)), (6, .int xx), (7, .int yy), (8, .int (nI kn)), (9, .int (nI its)), (10, .int (nI col)), (11, .int (nI dk)), (12, .int (nI cd)), (13, .int (nI (S 19 dk))), (14, .int (nI (S 19 dk + 1))), (15, .int (nI 1)), (16, .int (nI 1))]) K dL_acts_365 (by decide) rfl ?_
                refine r_aload_n K dL_acts_367 rfl ?_
                refine r_iconst K (nI 2) dL_acts_368 (by decide) ?_
                refine r_iload K dL_acts_369 rfl ?_
                refine r_imul K dL_acts_371 ?_
                refine r_iconst K (nI 1) dL_acts_372 (by decide) ?_
                refine r_iadd K dL_acts_373 ?_
                refine r_dup2 K dL_acts_374 rfl rfl ?_
                refine r_ldZ K 1 (zX_g1 _ _ _ _) (by omega) (by decide) dL_acts_375 ?_
                refine r_top (congrArg nI (show _ = S 19 dk from rel_sz hR (by omega))) ?_
                refine r_iload K dL_acts_376 rfl ?_
                refine r_if_le K 385 dL_acts_378 (by decide) (by omega) (fun hq_263 => by omega) (fun hq_263 => ?_)
                refine r_iconst K (nI 1) dL_acts_381 (by decide) ?_
                refine r_goto K 386 dL_acts_382 (by decide) ?_
                refine r_iadd K dL_acts_386 ?_
                refine r_stZ (U' := up U 1 ((2 * dk) + 1) (S 19 dk + 1)) K 1 (zX_g1 _ _ _ _) (by omega) (by decide) dL_acts_387 (zX_s1 _ _ _ _ _ _) ?_
                refine r_iload K dL_acts_388 rfl ?_
                refine r_if_eq K 456 dL_acts_390 (by decide) (by decide) (fun hq_266 => absurd hq_266 (by decide)) (fun hq_266 => ?_)
                refine r_iload K dL_acts_393 rfl ?_
                refine r_if_lt K 423 dL_acts_395 (by decide) (by omega) (fun hq_267 => by omega) (fun hq_267 => ?_)
                refine r_aload_n K dL_acts_398 rfl ?_
                refine r_iload K dL_acts_399 rfl ?_
                refine r_iconst K (nI 0) dL_acts_401 (by decide) ?_
                refine r_iload K dL_acts_402 rfl ?_
                refine r_callO (rest := []) KE (w_shuffled_0 l D a c S1 hl0 hV1  dk 0 (S 19 dk) (by omega) (by omega) (by omega)) 4 gL_acts_L_shuffled rfl (by decide +kernel) rfl ⟨⟨Nat.le_of_ble_eq_true rfl, Nat.le_of_ble_eq_true rfl⟩, (by show k1 + 7 + 3 ≤ 2400; omega), (by show n1 + 42 + 18 ≤ 14400; omega)⟩ rfl (Nat.le_of_ble_eq_true rfl) dL_acts_404 (fun J268 => ?_)
                refine r_if_lt K 456 dL_acts_407 (by decide) (by omega) (fun hq_269 => by omega) (fun hq_269 => ?_)
                refine r_aload_n K dL_acts_410 rfl ?_
                refine r_iload K dL_acts_411 rfl ?_
                refine r_iload K dL_acts_413 rfl ?_
                refine r_callO (rest := []) KE (w_add_2 l D a c S1 hl0 hV1  dk cd (by omega) (by omega) (by rw [hS1, hold_add (by omega)]; exact Bool.and_false _)) 3 gL_acts_L_add rfl (by decide +kernel) rfl ⟨⟨Nat.le_of_ble_eq_true rfl, Nat.le_of_ble_eq_true rfl⟩, (by show k1 + 10 + 3 ≤ 2400; omega), (by show n1 + 60 + 18 ≤ 14400; omega)⟩ rfl (Nat.le_of_ble_eq_true rfl) dL_acts_415 (fun J270 => ?_)
                refine r_ldc K (v := -1000002) (List.mem_of_getElem? (i := 3) rfl) dL_acts_418 ?_
                refine r_ic_neR K 456 dL_acts_420 (by decide) (fun hq_271 => absurd rfl hq_271) (fun hq_271 => ?_)
                refine r_aload_n K dL_acts_423 rfl ?_
                refine r_iload K dL_acts_424 rfl ?_
                refine r_aload K dL_acts_426 rfl ?_
                refine r_iconst K (nI 0) dL_acts_428 (by decide) ?_
                refine r_ldZ K 3 (zX_g3 _ _ _ _) (by omega) (by decide) dL_acts_429 ?_
                refine r_top (congrArg nI (show _ = S 2 0 from (by rw [up_ne (by decide)]; exact hg0))) ?_
                refine r_callO (rest := []) KE (x_add_1 l D a c S1 hl0 hV1  (nI dk) (nI (S 2 0)) (and_f2 (inB_big (by omega) (nI_le (by omega) (by omega))))) 3 gL_acts_L_add rfl (by decide +kernel) rfl ⟨⟨Nat.le_of_ble_eq_true rfl, Nat.le_of_ble_eq_true rfl⟩, (by show k1 + 13 + 3 ≤ 2400; omega), (by show n1 + 78 + 18 ≤ 14400; omega)⟩ rfl (Nat.le_of_ble_eq_true rfl) dL_acts_430 (fun J272 => ?_)
                refine r_ldc K (v := -1000001) (List.mem_of_getElem? (i := 1) rfl) dL_acts_433 ?_
                refine r_ic_neR K 456 dL_acts_435 (by decide) (fun hq_273 => absurd rfl hq_273) (fun hq_273 => ?_)
                refine r_aload_n K dL_acts_438 rfl ?_
                refine r_aload K dL_acts_439 rfl ?_
                refine r_iconst K (nI 1) dL_acts_441 (by decide) ?_
                refine r_ldZ K 3 (zX_g3 _ _ _ _) (by omega) (by decide) dL_acts_442 ?_
                refine r_top (congrArg nI (show _ = S 3 0 from (by rw [up_ne (by decide)]; exact hg1))) ?_
                refine r_iconst K (nI 0) dL_acts_443 (by decide) ?_
                refine r_callO (rest := []) KE (x_add_1 l D a c S1 hl0 hV1  (nI (S 3 0)) (nI 0) (and_f1 (inB_big (by omega) (nI_le (by omega) (by omega))))) 3 gL_acts_L_add rfl (by decide +kernel) rfl ⟨⟨Nat.le_of_ble_eq_true rfl, Nat.le_of_ble_eq_true rfl⟩, (by show k1 + 16 + 3 ≤ 2400; omega), (by show n1 + 96 + 18 ≤ 14400; omega)⟩ rfl (Nat.le_of_ble_eq_true rfl) dL_acts_444 (fun J274 => ?_)
                refine r_ldc K (v := -1000001) (List.mem_of_getElem? (i := 1) rfl) dL_acts_447 ?_
                refine r_ic_neR K 456 dL_acts_449 (by decide) (fun hq_275 => absurd rfl hq_275) (fun hq_275 => ?_)
                refine r_iconst K (nI 1) dL_acts_452 (by decide) ?_
                refine r_goto K 457 dL_acts_453 (by decide) ?_
                exact hret _ _ _ _ _ 1 (S1, J274, J258, up U 1 ((2 * dk) + 1) (S 19 dk + 1)) [] dL_acts_457 (by decide) ⟨rfl, hI1, (by rw [hS1]; exact rel_add hR (by omega) (by omega) (by omega) hheld)⟩ (List.append_nil _).symm (by show k1 + 19 ≤ 2400; omega) (by show n1 + 114 ≤ 14400; omega)
              ·
                refine r_aload_n K dL_acts_260 rfl ?_
                refine r_iconst K (nI 2) dL_acts_261 (by decide) ?_
                refine r_iload K dL_acts_262 rfl ?_
                refine r_imul K dL_acts_264 ?_
                refine r_iconst K (nI 1) dL_acts_265 (by decide) ?_
                refine r_iadd K dL_acts_266 ?_
                refine r_ldZ K 1 (zX_g1 _ _ _ _) (by omega) (by decide) dL_acts_267 ?_
                refine r_top (congrArg nI (show _ = S 19 dk from rel_sz hR (by omega))) ?_
                refine r_istore (lv' := [(0, .ref (a 0)), (1, .ref (b 0)), (2, .ref (e 0)), (3, .ref (e 1)), (4, .ref (e 2)), (5, .ref (e 3)), (6, .int xx), (7, .int yy), (8, .int (nI kn)), (9, .int (nI its)), (10, .int (nI col)), (11, .int (nI dk)), (12, .int (nI cd)), (13, .int (nI (S 19 dk)))]) K dL_acts_268 (by decide) rfl ?_
                refine r_aload_n K dL_acts_270 rfl ?_
                refine r_iload K dL_acts_271 rfl ?_
                refine r_iload K dL_acts_273 rfl ?_
                refine r_callO (rest := []) KE (w_add_3 l D a c S hl0 hV  dk cd (by omega) (by omega) hown hheld (decide_eq_false hfull)) 3 gL_acts_L_add rfl (by decide +kernel) rfl ⟨⟨Nat.le_of_ble_eq_true rfl, Nat.le_of_ble_eq_true rfl⟩, (by show k1 + 3 ≤ 2400; omega), (by show n1 + 18 ≤ 14400; omega)⟩ rfl (Nat.le_of_ble_eq_true rfl) dL_acts_275 (fun J276 => ?_)
                refine r_istore (lv' := [(0, .ref (a 0)), (1, .ref (b 0)), (2, .ref (e 0)), (3, .ref (e 1)), (4, .ref (e 2)), (5, .ref (e 3)), (6, .int xx), (7, .int yy), (8, .int (nI kn)), (9, .int (nI its)), (10, .int (nI col)), (11, .int (nI dk)), (12, .int (nI cd)), (13, .int (nI (S 19 dk))), (14, .int (-1000003))]) K dL_acts_278 (by decide) rfl ?_
                refine r_aload_n K dL_acts_280 rfl ?_
                refine r_iload K dL_acts_281 rfl ?_
                refine r_callO (rest := []) KE (w_collectorOf_0 l D a c S hl0 hV  cd (by omega)) 2 gL_acts_L_collectorOf rfl (by decide +kernel) rfl ⟨⟨Nat.le_of_ble_eq_true rfl, Nat.le_of_ble_eq_true rfl⟩, (by show k1 + 3 + 1 ≤ 2400; omega), (by show n1 + 18 + 6 ≤ 14400; omega)⟩ rfl (Nat.le_of_ble_eq_true rfl) dL_acts_283 (fun J277 => ?_)
                refine r_aload_n K dL_acts_286 rfl ?_
                refine r_iconst K (nI 2) dL_acts_287 (by decide) ?_
                refine r_iload K dL_acts_288 rfl ?_
                refine r_imul K dL_acts_290 ?_
                refine r_ldZ K 1 (zX_g1 _ _ _ _) (by omega) (by decide) dL_acts_291 ?_
                refine r_top (congrArg nI (show _ = S 18 dk from rel_ow hR (by omega) bdk)) ?_
                refine r_ic_ne K 299 dL_acts_292 (by decide) (by omega) (by omega) (fun hq_278 => by omega) (fun hq_278 => ?_)
                refine r_iconst K (nI 1) dL_acts_295 (by decide) ?_
                refine r_goto K 300 dL_acts_296 (by decide) ?_
                refine r_istore (lv' := [(0, .ref (a 0)), (1, .ref (b 0)), (2, .ref (e 0)), (3, .ref (e 1)), (4, .ref (e 2)), (5, .ref (e 3)), (6, .int xx), (7, .int yy), (8, .int (nI kn)), (9, .int (nI its)), (10, .int (nI col)), (11, .int (nI dk)), (12, .int (nI cd)), (13, .int (nI (S 19 dk))), (14, .int (-1000003)), (15, .int (nI 1))]) K dL_acts_300 (by decide) rfl ?_
                refine r_aload_n K dL_acts_302 rfl ?_
                refine r_iload K dL_acts_303 rfl ?_
                refine r_iload K dL_acts_305 rfl ?_
                refine r_callT (rest := []) KE (w_add_3 l D b c S hl0 hV  dk cd (by omega) (by omega) hown hheld (decide_eq_false hfull)) 3 gL_acts_L_add rfl (by decide +kernel) rfl ⟨⟨Nat.le_of_ble_eq_true rfl, Nat.le_of_ble_eq_true rfl⟩, (by show k1 + 4 + 3 ≤ 2400; omega), (by show n1 + 24 + 18 ≤ 14400; omega)⟩ rfl (Nat.le_of_ble_eq_true rfl) dL_acts_307 (fun J279 => ?_)
                refine r_iload K dL_acts_310 rfl ?_
                refine r_ic_neR K 364 dL_acts_312 (by decide) (fun hq_280 => absurd rfl hq_280) (fun hq_280 => ?_)
                refine r_iload K dL_acts_315 rfl ?_
                refine r_if_ne K 330 dL_acts_317 (by decide) (by decide) (fun hq_282 => ?_) (fun hq_282 => absurd hq_282 (by decide))
                refine r_iload K dL_acts_330 rfl ?_
                refine r_iload K dL_acts_332 rfl ?_
                refine r_iconst K (nI 1) dL_acts_334 (by decide) ?_
                refine r_iadd K dL_acts_335 ?_
                refine r_ic_eqR K 360 dL_acts_336 (by decide) (fun hq_283 => absurd hq_283 (neg_ne (by decide) (by omega))) (fun hq_283 => ?_)
                refine r_iload K dL_acts_339 rfl ?_
                refine r_ldc K (v := -1000002) (List.mem_of_getElem? (i := 3) rfl) dL_acts_341 ?_
                refine r_ic_eqR K 360 dL_acts_343 (by decide) (fun hq_284 => absurd hq_284 (by decide)) (fun hq_284 => ?_)
                refine r_iload K dL_acts_346 rfl ?_
                refine r_ldc K (v := -1000003) (List.mem_of_getElem? (i := 2) rfl) dL_acts_348 ?_
                refine r_ic_neR K 364 dL_acts_350 (by decide) (fun hq_285 => absurd rfl hq_285) (fun hq_285 => ?_)
                refine r_iload K dL_acts_353 rfl ?_
                refine r_bipush K (nI 10) dL_acts_355 (by decide) ?_
                refine r_ic_ne K 364 dL_acts_357 (by decide) (by omega) (by decide) (fun hq_286 => by omega) (fun hq_286 => ?_)
                refine r_iconst K (nI 1) dL_acts_360 (by decide) ?_
                refine r_goto K 365 dL_acts_361 (by decide) ?_
                refine r_istore (lv' := [(0, .ref (a 0)), (1, .ref (b 0)), (2, .ref (e 0)), (3, .ref (e 1)), (4, .ref (e 2)), (5, .ref (e 3)), (6, .int xx), (7, .int yy), (8, .int (nI kn)), (9, .int (nI its)), (10, .int (nI col)), (11, .int (nI dk)), (12, .int (nI cd)), (13, .int (nI (S 19 dk))), (14, .int (-1000003)), (15, .int (nI 1)), (16, .int (nI 1))]) K dL_acts_365 (by decide) rfl ?_
                refine r_aload_n K dL_acts_367 rfl ?_
                refine r_iconst K (nI 2) dL_acts_368 (by decide) ?_
                refine r_iload K dL_acts_369 rfl ?_
                refine r_imul K dL_acts_371 ?_
                refine r_iconst K (nI 1) dL_acts_372 (by decide) ?_
                refine r_iadd K dL_acts_373 ?_
                refine r_dup2 K dL_acts_374 rfl rfl ?_
                refine r_ldZ K 1 (zX_g1 _ _ _ _) (by omega) (by decide) dL_acts_375 ?_
                refine r_top (congrArg nI (show _ = S 19 dk from rel_sz hR (by omega))) ?_
                refine r_iload K dL_acts_376 rfl ?_
                refine r_if_leR K 385 dL_acts_378 (by decide) (fun hq_287 => ?_) (fun hq_287 => absurd (by decide) hq_287)
                refine r_iconst K (nI 0) dL_acts_385 (by decide) ?_
                refine r_iadd K dL_acts_386 ?_
                refine r_stZ (U' := up U 1 ((2 * dk) + 1) (S 19 dk + 0)) K 1 (zX_g1 _ _ _ _) (by omega) (by decide) dL_acts_387 (zX_s1 _ _ _ _ _ _) ?_
                refine r_iload K dL_acts_388 rfl ?_
                refine r_if_eq K 456 dL_acts_390 (by decide) (by decide) (fun hq_290 => absurd hq_290 (by decide)) (fun hq_290 => ?_)
                refine r_iload K dL_acts_393 rfl ?_
                refine r_if_ltR K 423 dL_acts_395 (by decide) (fun hq_291 => ?_) (fun hq_291 => absurd (by decide) hq_291)
                refine r_aload_n K dL_acts_423 rfl ?_
                refine r_iload K dL_acts_424 rfl ?_
                refine r_aload K dL_acts_426 rfl ?_
                refine r_iconst K (nI 0) dL_acts_428 (by decide) ?_
                refine r_ldZ K 3 (zX_g3 _ _ _ _) (by omega) (by decide) dL_acts_429 ?_
                refine r_top (congrArg nI (show _ = S 2 0 from (by rw [up_ne (by decide)]; exact hg0))) ?_
                refine r_callO (rest := []) KE (x_add_1 l D a c S hl0 hV  (nI dk) (nI (S 2 0)) (and_f2 (inB_big (by omega) (nI_le (by omega) (by omega))))) 3 gL_acts_L_add rfl (by decide +kernel) rfl ⟨⟨Nat.le_of_ble_eq_true rfl, Nat.le_of_ble_eq_true rfl⟩, (by show k1 + 7 + 3 ≤ 2400; omega), (by show n1 + 42 + 18 ≤ 14400; omega)⟩ rfl (Nat.le_of_ble_eq_true rfl) dL_acts_430 (fun J292 => ?_)
                refine r_ldc K (v := -1000001) (List.mem_of_getElem? (i := 1) rfl) dL_acts_433 ?_
                refine r_ic_neR K 456 dL_acts_435 (by decide) (fun hq_293 => absurd rfl hq_293) (fun hq_293 => ?_)
                refine r_aload_n K dL_acts_438 rfl ?_
                refine r_aload K dL_acts_439 rfl ?_
                refine r_iconst K (nI 1) dL_acts_441 (by decide) ?_
                refine r_ldZ K 3 (zX_g3 _ _ _ _) (by omega) (by decide) dL_acts_442 ?_
                refine r_top (congrArg nI (show _ = S 3 0 from (by rw [up_ne (by decide)]; exact hg1))) ?_
                refine r_iconst K (nI 0) dL_acts_443 (by decide) ?_
                refine r_callO (rest := []) KE (x_add_1 l D a c S hl0 hV  (nI (S 3 0)) (nI 0) (and_f1 (inB_big (by omega) (nI_le (by omega) (by omega))))) 3 gL_acts_L_add rfl (by decide +kernel) rfl ⟨⟨Nat.le_of_ble_eq_true rfl, Nat.le_of_ble_eq_true rfl⟩, (by show k1 + 10 + 3 ≤ 2400; omega), (by show n1 + 60 + 18 ≤ 14400; omega)⟩ rfl (Nat.le_of_ble_eq_true rfl) dL_acts_444 (fun J294 => ?_)
                refine r_ldc K (v := -1000001) (List.mem_of_getElem? (i := 1) rfl) dL_acts_447 ?_
                refine r_ic_neR K 456 dL_acts_449 (by decide) (fun hq_295 => absurd rfl hq_295) (fun hq_295 => ?_)
                refine r_iconst K (nI 1) dL_acts_452 (by decide) ?_
                refine r_goto K 457 dL_acts_453 (by decide) ?_
                exact hret _ _ _ _ _ 1 (S, J294, J279, up U 1 ((2 * dk) + 1) (S 19 dk + 0)) [] dL_acts_457 (by decide) ⟨rfl, hI.mono (by omega), (by rw [up_same2 (show U 1 (2 * dk + 1) = S 19 dk + 0 from rel_sz hR (by omega))]; exact hR)⟩ (List.append_nil _).symm (by show k1 + 13 ≤ 2400; omega) (by show n1 + 78 ≤ 14400; omega)
          ·
            refine r_aload_n K dL_acts_260 rfl ?_
            refine r_iconst K (nI 2) dL_acts_261 (by decide) ?_
            refine r_iload K dL_acts_262 rfl ?_
            refine r_imul K dL_acts_264 ?_
            refine r_iconst K (nI 1) dL_acts_265 (by decide) ?_
            refine r_iadd K dL_acts_266 ?_
            refine r_ldZ K 1 (zX_g1 _ _ _ _) (by omega) (by decide) dL_acts_267 ?_
            refine r_top (congrArg nI (show _ = S 19 dk from rel_sz hR (by omega))) ?_
            refine r_istore (lv' := [(0, .ref (a 0)), (1, .ref (b 0)), (2, .ref (e 0)), (3, .ref (e 1)), (4, .ref (e 2)), (5, .ref (e 3)), (6, .int xx), (7, .int yy), (8, .int (nI kn)), (9, .int (nI its)), (10, .int (nI col)), (11, .int (nI dk)), (12, .int (nI cd)), (13, .int (nI (S 19 dk)))]) K dL_acts_268 (by decide) rfl ?_
            refine r_aload_n K dL_acts_270 rfl ?_
            refine r_iload K dL_acts_271 rfl ?_
            refine r_iload K dL_acts_273 rfl ?_
            refine r_callO (rest := []) KE (w_add_2 l D a c S hl0 hV  dk cd (by omega) (by omega) (by rw [decide_eq_false hown]; rfl)) 3 gL_acts_L_add rfl (by decide +kernel) rfl ⟨⟨Nat.le_of_ble_eq_true rfl, Nat.le_of_ble_eq_true rfl⟩, (by show k1 + 3 ≤ 2400; omega), (by show n1 + 18 ≤ 14400; omega)⟩ rfl (Nat.le_of_ble_eq_true rfl) dL_acts_275 (fun J296 => ?_)
            refine r_istore (lv' := [(0, .ref (a 0)), (1, .ref (b 0)), (2, .ref (e 0)), (3, .ref (e 1)), (4, .ref (e 2)), (5, .ref (e 3)), (6, .int xx), (7, .int yy), (8, .int (nI kn)), (9, .int (nI its)), (10, .int (nI col)), (11, .int (nI dk)), (12, .int (nI cd)), (13, .int (nI (S 19 dk))), (14, .int (-1000002))]) K dL_acts_278 (by decide) rfl ?_
            refine r_aload_n K dL_acts_280 rfl ?_
            refine r_iload K dL_acts_281 rfl ?_
            refine r_callO (rest := []) KE (w_collectorOf_0 l D a c S hl0 hV  cd (by omega)) 2 gL_acts_L_collectorOf rfl (by decide +kernel) rfl ⟨⟨Nat.le_of_ble_eq_true rfl, Nat.le_of_ble_eq_true rfl⟩, (by show k1 + 3 + 1 ≤ 2400; omega), (by show n1 + 18 + 6 ≤ 14400; omega)⟩ rfl (Nat.le_of_ble_eq_true rfl) dL_acts_283 (fun J297 => ?_)
            refine r_aload_n K dL_acts_286 rfl ?_
            refine r_iconst K (nI 2) dL_acts_287 (by decide) ?_
            refine r_iload K dL_acts_288 rfl ?_
            refine r_imul K dL_acts_290 ?_
            refine r_ldZ K 1 (zX_g1 _ _ _ _) (by omega) (by decide) dL_acts_291 ?_
            refine r_top (congrArg nI (show _ = S 18 dk from rel_ow hR (by omega) bdk)) ?_
            refine r_ic_ne K 299 dL_acts_292 (by decide) (by omega) (by omega) (fun hq_298 => ?_) (fun hq_298 => by omega)
            refine r_iconst K (nI 0) dL_acts_299 (by decide) ?_
            refine r_istore (lv' := [(0, .ref (a 0)), (1, .ref (b 0)), (2, .ref (e 0)), (3, .ref (e 1)), (4, .ref (e 2)), (5, .ref (e 3)), (6, .int xx), (7, .int yy), (8, .int (nI kn)), (9, .int (nI its)), (10, .int (nI col)), (11, .int (nI dk)), (12, .int (nI cd)), (13, .int (nI (S 19 dk))), (14, .int (-1000002)), (15, .int (nI 0))]) K dL_acts_300 (by decide) rfl ?_
            refine r_aload_n K dL_acts_302 rfl ?_
            refine r_iload K dL_acts_303 rfl ?_
            refine r_iload K dL_acts_305 rfl ?_
            refine r_callT (rest := []) KE (w_add_2 l D b c S hl0 hV  dk cd (by omega) (by omega) (by rw [decide_eq_false hown]; rfl)) 3 gL_acts_L_add rfl (by decide +kernel) rfl ⟨⟨Nat.le_of_ble_eq_true rfl, Nat.le_of_ble_eq_true rfl⟩, (by show k1 + 4 + 3 ≤ 2400; omega), (by show n1 + 24 + 18 ≤ 14400; omega)⟩ rfl (Nat.le_of_ble_eq_true rfl) dL_acts_307 (fun J299 => ?_)
            refine r_iload K dL_acts_310 rfl ?_
            refine r_ic_neR K 364 dL_acts_312 (by decide) (fun hq_300 => absurd rfl hq_300) (fun hq_300 => ?_)
            refine r_iload K dL_acts_315 rfl ?_
            refine r_if_ne K 330 dL_acts_317 (by decide) (by decide) (fun hq_302 => absurd hq_302 (by decide)) (fun hq_302 => ?_)
            refine r_iload K dL_acts_320 rfl ?_
            refine r_ldc K (v := -1000002) (List.mem_of_getElem? (i := 3) rfl) dL_acts_322 ?_
            refine r_ic_neR K 364 dL_acts_324 (by decide) (fun hq_303 => absurd rfl hq_303) (fun hq_303 => ?_)
            refine r_goto K 360 dL_acts_327 (by decide) ?_
            refine r_iconst K (nI 1) dL_acts_360 (by decide) ?_
            refine r_goto K 365 dL_acts_361 (by decide) ?_
            refine r_istore (lv' := [(0, .ref (a 0)), (1, .ref (b 0)), (2, .ref (e 0)), (3, .ref (e 1)), (4, .ref (e 2)), (5, .ref (e 3)), (6, .int xx), (7, .int yy), (8, .int (nI kn)), (9, .int (nI its)), (10, .int (nI col)), (11, .int (nI dk)), (12, .int (nI cd)), (13, .int (nI (S 19 dk))), (14, .int (-1000002)), (15, .int (nI 0)), (16, .int (nI 1))]) K dL_acts_365 (by decide) rfl ?_
            refine r_aload_n K dL_acts_367 rfl ?_
            refine r_iconst K (nI 2) dL_acts_368 (by decide) ?_
            refine r_iload K dL_acts_369 rfl ?_
            refine r_imul K dL_acts_371 ?_
            refine r_iconst K (nI 1) dL_acts_372 (by decide) ?_
            refine r_iadd K dL_acts_373 ?_
            refine r_dup2 K dL_acts_374 rfl rfl ?_
            refine r_ldZ K 1 (zX_g1 _ _ _ _) (by omega) (by decide) dL_acts_375 ?_
            refine r_top (congrArg nI (show _ = S 19 dk from rel_sz hR (by omega))) ?_
            refine r_iload K dL_acts_376 rfl ?_
            refine r_if_leR K 385 dL_acts_378 (by decide) (fun hq_304 => ?_) (fun hq_304 => absurd (by decide) hq_304)
            refine r_iconst K (nI 0) dL_acts_385 (by decide) ?_
            refine r_iadd K dL_acts_386 ?_
            refine r_stZ (U' := up U 1 ((2 * dk) + 1) (S 19 dk + 0)) K 1 (zX_g1 _ _ _ _) (by omega) (by decide) dL_acts_387 (zX_s1 _ _ _ _ _ _) ?_
            refine r_iload K dL_acts_388 rfl ?_
            refine r_if_eq K 456 dL_acts_390 (by decide) (by decide) (fun hq_307 => absurd hq_307 (by decide)) (fun hq_307 => ?_)
            refine r_iload K dL_acts_393 rfl ?_
            refine r_if_ltR K 423 dL_acts_395 (by decide) (fun hq_308 => ?_) (fun hq_308 => absurd (by decide) hq_308)
            refine r_aload_n K dL_acts_423 rfl ?_
            refine r_iload K dL_acts_424 rfl ?_
            refine r_aload K dL_acts_426 rfl ?_
            refine r_iconst K (nI 0) dL_acts_428 (by decide) ?_
            refine r_ldZ K 3 (zX_g3 _ _ _ _) (by omega) (by decide) dL_acts_429 ?_
            refine r_top (congrArg nI (show _ = S 2 0 from (by rw [up_ne (by decide)]; exact hg0))) ?_
            refine r_callO (rest := []) KE (x_add_1 l D a c S hl0 hV  (nI dk) (nI (S 2 0)) (and_f2 (inB_big (by omega) (nI_le (by omega) (by omega))))) 3 gL_acts_L_add rfl (by decide +kernel) rfl ⟨⟨Nat.le_of_ble_eq_true rfl, Nat.le_of_ble_eq_true rfl⟩, (by show k1 + 7 + 3 ≤ 2400; omega), (by show n1 + 42 + 18 ≤ 14400; omega)⟩ rfl (Nat.le_of_ble_eq_true rfl) dL_acts_430 (fun J309 => ?_)
            refine r_ldc K (v := -1000001) (List.mem_of_getElem? (i := 1) rfl) dL_acts_433 ?_
            refine r_ic_neR K 456 dL_acts_435 (by decide) (fun hq_310 => absurd rfl hq_310) (fun hq_310 => ?_)
            refine r_aload_n K dL_acts_438 rfl ?_
            refine r_aload K dL_acts_439 rfl ?_
            refine r_iconst K (nI 1) dL_acts_441 (by decide) ?_
            refine r_ldZ K 3 (zX_g3 _ _ _ _) (by omega) (by decide) dL_acts_442 ?_
            refine r_top (congrArg nI (show _ = S 3 0 from (by rw [up_ne (by decide)]; exact hg1))) ?_
            refine r_iconst K (nI 0) dL_acts_443 (by decide) ?_
            refine r_callO (rest := []) KE (x_add_1 l D a c S hl0 hV  (nI (S 3 0)) (nI 0) (and_f1 (inB_big (by omega) (nI_le (by omega) (by omega))))) 3 gL_acts_L_add rfl (by decide +kernel) rfl ⟨⟨Nat.le_of_ble_eq_true rfl, Nat.le_of_ble_eq_true rfl⟩, (by show k1 + 10 + 3 ≤ 2400; omega), (by show n1 + 60 + 18 ≤ 14400; omega)⟩ rfl (Nat.le_of_ble_eq_true rfl) dL_acts_444 (fun J311 => ?_)
            refine r_ldc K (v := -1000001) (List.mem_of_getElem? (i := 1) rfl) dL_acts_447 ?_
            refine r_ic_neR K 456 dL_acts_449 (by decide) (fun hq_312 => absurd rfl hq_312) (fun hq_312 => ?_)
            refine r_iconst K (nI 1) dL_acts_452 (by decide) ?_
            refine r_goto K 457 dL_acts_453 (by decide) ?_
            exact hret _ _ _ _ _ 1 (S, J311, J299, up U 1 ((2 * dk) + 1) (S 19 dk + 0)) [] dL_acts_457 (by decide) ⟨rfl, hI.mono (by omega), (by rw [up_same2 (show U 1 (2 * dk + 1) = S 19 dk + 0 from rel_sz hR (by omega))]; exact hR)⟩ (List.append_nil _).symm (by show k1 + 13 ≤ 2400; omega) (by show n1 + 78 ≤ 14400; omega)
      ·
        exact HM5  _ _  (by show k1 ≤ _; omega) (by show n1 ≤ _; omega)
  have HM313 : ∀ (k1 : Nat) (n1 : Nat), (S 2 0 < 60) → (k1 ≤ 20) → (n1 ≤ 120) → G k1 n1 (wW a b e c S J S K2 U []) [(0, .ref (a 0)), (1, .ref (b 0)), (2, .ref (e 0)), (3, .ref (e 1)), (4, .ref (e 2)), (5, .ref (e 3)), (6, .int xx), (7, .int yy), (8, .int (nI kn)), (9, .int (nI its)), (10, .int (nI col))] 51 [] := by
    intro k1 n1 h59 hk1 hn1
    refine r_aload_n K dL_acts_51 rfl ?_
    refine r_iload K dL_acts_52 rfl ?_
    refine r_dup2 K dL_acts_54 rfl rfl ?_
    refine r_ldZ K 0 (zX_g0 _ _ _ _) (by omega) (by decide) dL_acts_55 ?_
    refine r_top (congrArg nI (show _ = S 13 its from rel_p hR (by omega))) ?_
    refine r_iconst K (nI 1) dL_acts_56 (by decide) ?_
    refine r_iadd K dL_acts_57 ?_
    refine r_stZ (U' := up U 0 its (S 13 its + 1)) K 0 (zX_g0 _ _ _ _) (by omega) (by decide) dL_acts_58 (zX_s0 _ _ _ _ _ _) ?_
    refine r_aload K dL_acts_59 rfl ?_
    refine r_iconst K (nI 0) dL_acts_61 (by decide) ?_
    refine r_dup2 K dL_acts_62 rfl rfl ?_
    refine r_ldZ K 3 (zX_g3 _ _ _ _) (by omega) (by decide) dL_acts_63 ?_
    refine r_top (congrArg nI (show _ = S 2 0 from (by rw [up_ne (by decide)]; exact hg0))) ?_
    refine r_iconst K (nI 1) dL_acts_64 (by decide) ?_
    refine r_iadd K dL_acts_65 ?_
    refine r_stZ (U' := up (up U 0 its (S 13 its + 1)) 3 0 (S 2 0 + 1)) K 3 (zX_g3 _ _ _ _) (by omega) (by decide) dL_acts_66 (zX_s3 _ _ _ _ _ _) ?_
    refine r_aload_n K dL_acts_67 rfl ?_
    refine r_iload K dL_acts_68 rfl ?_
    refine r_iload K dL_acts_70 rfl ?_
    refine r_callO (rest := []) KE (w_print_0 l D a c S hl0 hV h013 its col (by omega) (by omega) (by omega)) 3 gL_acts_L_print rfl (by decide +kernel) rfl ⟨⟨Nat.le_of_ble_eq_true rfl, Nat.le_of_ble_eq_true rfl⟩, (by show k1 + 3 ≤ 2400; omega), (by show n1 + 18 ≤ 14400; omega)⟩ rfl (Nat.le_of_ble_eq_true rfl) dL_acts_72 (fun J316 => ?_)
    obtain ⟨S1, hS1⟩ : ∃ X : St, X = prS S its col := ⟨_, rfl⟩
    have hI1 : Inv (m + 1) S1 := by rw [hS1]; exact inv_print hI (by omega) (by omega) (by omega)
    have hV1 := hI1.V (by omega)
    have h251 := hI1.2.2.1.lt2
    have h131 := hI1.small (show m + 1 ≤ 600 by omega) 13
    have h141 := hI1.small (show m + 1 ≤ 600 by omega) 14
    refine r_w (ws' := wW a b e c S1 J316 S K2 (up (up U 0 its (S 13 its + 1)) 3 0 (S 2 0 + 1)) []) (by rw [hS1] <;> rfl) ?_
    refine r_aload K dL_acts_75 rfl ?_
    refine r_iconst K (nI 0) dL_acts_77 (by decide) ?_
    refine r_ldZ K 3 (zX_g3 _ _ _ _) (by omega) (by decide) dL_acts_78 ?_
    refine r_top (congrArg nI (show _ = S 2 0 + 1 from up_same)) ?_
    refine r_iconst K (nI 1) dL_acts_79 (by decide) ?_
    refine r_isub K dL_acts_80 (by omega) ?_
    refine r_ic_ne K 129 dL_acts_81 (by decide) (by omega) (by omega) (fun hq_317 => by omega) (fun hq_317 => ?_)
    refine r_aload_n K dL_acts_84 rfl ?_
    refine r_iload K dL_acts_85 rfl ?_
    refine r_iload K dL_acts_87 rfl ?_
    refine r_callT (rest := []) KE (w_print_0 l D b c S hl0 hV h013 its col (by omega) (by omega) (by omega)) 3 gL_acts_L_print rfl (by decide +kernel) rfl ⟨⟨Nat.le_of_ble_eq_true rfl, Nat.le_of_ble_eq_true rfl⟩, (by show k1 + 3 + 3 ≤ 2400; omega), (by show n1 + 18 + 18 ≤ 14400; omega)⟩ rfl (Nat.le_of_ble_eq_true rfl) dL_acts_89 (fun J318 => ?_)
    refine r_w (ws' := wW a b e c S1 J316 S1 J318 (up (up U 0 its (S 13 its + 1)) 3 0 (S 2 0 + 1)) []) (by rw [hS1] <;> rfl) ?_
    refine r_aload K dL_acts_92 rfl ?_
    refine r_iconst K (nI 0) dL_acts_94 (by decide) ?_
    refine r_ldZ K 3 (zX_g3 _ _ _ _) (by omega) (by decide) dL_acts_95 ?_
    refine r_top (congrArg nI (show _ = S 2 0 + 1 from up_same)) ?_
    refine r_iconst K (nI 1) dL_acts_96 (by decide) ?_
    refine r_isub K dL_acts_97 (by omega) ?_
    refine r_ic_ne K 129 dL_acts_98 (by decide) (by omega) (by omega) (fun hq_319 => by omega) (fun hq_319 => ?_)
    refine r_aload_n K dL_acts_101 rfl ?_
    refine r_bipush K (nI 16) dL_acts_102 (by decide) ?_
    refine r_iconst K (nI 0) dL_acts_104 (by decide) ?_
    refine r_callO (rest := []) KE (x_print_1 l D a c S1 hl0 hV1 h131 (nI 16) (nI 0) (and_f1 (by decide))) 3 gL_acts_L_print rfl (by decide +kernel) rfl ⟨⟨Nat.le_of_ble_eq_true rfl, Nat.le_of_ble_eq_true rfl⟩, (by show k1 + 6 + 3 ≤ 2400; omega), (by show n1 + 36 + 18 ≤ 14400; omega)⟩ rfl (Nat.le_of_ble_eq_true rfl) dL_acts_105 (fun J320 => ?_)
    refine r_ldc K (v := -1000001) (List.mem_of_getElem? (i := 1) rfl) dL_acts_108 ?_
    refine r_ic_neR K 129 dL_acts_110 (by decide) (fun hq_321 => absurd rfl hq_321) (fun hq_321 => ?_)
    refine r_aload_n K dL_acts_113 rfl ?_
    refine r_iconst K (nI 0) dL_acts_114 (by decide) ?_
    refine r_bipush K (nI 6) dL_acts_115 (by decide) ?_
    refine r_callO (rest := []) KE (x_print_1 l D a c S1 hl0 hV1 h131 (nI 0) (nI 6) (and_f2 (by decide))) 3 gL_acts_L_print rfl (by decide +kernel) rfl ⟨⟨Nat.le_of_ble_eq_true rfl, Nat.le_of_ble_eq_true rfl⟩, (by show k1 + 9 + 3 ≤ 2400; omega), (by show n1 + 54 + 18 ≤ 14400; omega)⟩ rfl (Nat.le_of_ble_eq_true rfl) dL_acts_117 (fun J322 => ?_)
    refine r_ldc K (v := -1000001) (List.mem_of_getElem? (i := 1) rfl) dL_acts_120 ?_
    refine r_ic_neR K 129 dL_acts_122 (by decide) (fun hq_323 => absurd rfl hq_323) (fun hq_323 => ?_)
    refine r_iconst K (nI 1) dL_acts_125 (by decide) ?_
    refine r_goto K 130 dL_acts_126 (by decide) ?_
    exact hret _ _ _ _ _ 1 (S1, J322, J318, up (up U 0 its (S 13 its + 1)) 3 0 (S 2 0 + 1)) [] dL_acts_130 (by decide) ⟨rfl, hI1, (by rw [hS1]; exact rel_print hR (by omega) (by omega) (by omega))⟩ (List.append_nil _).symm (by show k1 + 12 ≤ 2400; omega) (by show n1 + 72 ≤ 14400; omega)
  refine r_iload K dL_acts_27 rfl ?_
  refine r_bipush K (nI 7) dL_acts_29 (by decide) ?_
  refine r_ic_ge K 43 dL_acts_31 (by decide) (by omega) (by decide) (fun hq_324 => ?_) (fun hq_324 => ?_)
  ·
    refine r_aload K dL_acts_43 rfl ?_
    refine r_iconst K (nI 0) dL_acts_45 (by decide) ?_
    refine r_ldZ K 3 (zX_g3 _ _ _ _) (by omega) (by decide) dL_acts_46 ?_
    refine r_top (congrArg nI (show _ = S 2 0 from hg0)) ?_
    refine r_iconst K (nI 4) dL_acts_47 (by decide) ?_
    refine r_ic_ge K 131 dL_acts_48 (by decide) (by omega) (by decide) (fun hq_325 => ?_) (fun hq_325 => ?_)
    ·
      exact HM4  _ _ (by omega) (by show 0 ≤ _; omega) (by show 0 ≤ _; omega)
    ·
      exact HM313  _ _ (by omega) (by show 0 ≤ _; omega) (by show 0 ≤ _; omega)
  ·
    refine r_aload K dL_acts_34 rfl ?_
    refine r_iconst K (nI 0) dL_acts_36 (by decide) ?_
    refine r_ldZ K 3 (zX_g3 _ _ _ _) (by omega) (by decide) dL_acts_37 ?_
    refine r_top (congrArg nI (show _ = S 2 0 from hg0)) ?_
    refine r_bipush K (nI 60) dL_acts_38 (by decide) ?_
    refine r_ic_lt K 51 dL_acts_40 (by decide) (by omega) (by decide) (fun hq_326 => ?_) (fun hq_326 => ?_)
    ·
      exact HM313  _ _ (by omega) (by show 0 ≤ _; omega) (by show 0 ≤ _; omega)
    ·
      refine r_aload K dL_acts_43 rfl ?_
      refine r_iconst K (nI 0) dL_acts_45 (by decide) ?_
      refine r_ldZ K 3 (zX_g3 _ _ _ _) (by omega) (by decide) dL_acts_46 ?_
      refine r_top (congrArg nI (show _ = S 2 0 from hg0)) ?_
      refine r_iconst K (nI 4) dL_acts_47 (by decide) ?_
      refine r_ic_ge K 131 dL_acts_48 (by decide) (by omega) (by decide) (fun hq_327 => ?_) (fun hq_327 => ?_)
      ·
        exact HM4  _ _ (by omega) (by show 0 ≤ _; omega) (by show 0 ≤ _; omega)
      ·
        exact HM313  _ _ (by omega) (by show 0 ≤ _; omega) (by show 0 ≤ _; omega)
