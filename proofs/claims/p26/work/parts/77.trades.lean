section TRADESPEC
def trS (S : St) : St := trX S (lstO (frl S)) (lenO (frl S))
theorem trS_C (S : St) : ∀ f, f ≠ 27 → trC S (lstO (frl S)) (lenO (frl S)) f = trS S f := trX_C _
theorem trS_ne {S : St} {f : Nat} (h : f ≠ 17) (h2 : f ≠ 25) (h3 : f ≠ 27) : trS S f = S f := trX_ne h h2 h3 _
theorem wW_S {a b e : Nat → Nat} {c : Nat → ClassId} {S S1 J T K U : St} {x : va_W} (h : ∀ f, f ≠ 27 → S f = S1 f) : wW a b e c S J T K U x = wW a b e c S1 J T K U x := by unfold wW; rw [wC_cong h]
theorem wW_T {a b e : Nat → Nat} {c : Nat → ClassId} {S T1 J T K U : St} {x : va_W} (h : ∀ f, f ≠ 27 → T f = T1 f) : wW a b e c S J T K U x = wW a b e c S J T1 K U x := by unfold wW; rw [wC_cong h]
/-- the law's rows when the ring's first offers are closed -/
def clU (U S : St) : Nat → St
  | 0 => U
  | i + 1 => up (clU U S i) 2 (lr S i) (clU U S i 2 (lr S i) + 65536)
theorem clU_s (U S : St) (i : Nat) : clU U S (i + 1) = up (clU U S i) 2 (lr S i) (clU U S i 2 (lr S i) + 65536) := rfl
theorem row_step {f g : Nat → Nat} {i : Nat} (h : ∀ p, p < i → f p = g p) : ∀ p, p < i + 1 → upf f i (g i) p = g p := fun p hp => by
  rw [upf_eq]
  by_cases e : p = i
  · rw [if_pos e, e]
  · rw [if_neg e]; exact h p (by omega)
theorem tr_step {S : St} {h : Nat → Nat} {N i : Nat} (hh : ∀ p, p < N → h p = trX S (lstO (frl S)) i 17 p) : ∀ p, p < N → upf h (S 21 (lr S i)) (S 24 (lr S (nxp (lstO (frl S)) i))) p = trX S (lstO (frl S)) (i + 1) 17 p := fun p hp => by
  rw [trX_s, up_ne (by decide), up_ne (by decide), up_f, upf_eq, upf_eq, hh p hp]; rfl
theorem tr_25 {S : St} {i : Nat} (hi : i < lenO (frl S)) : trS S 25 (lr S i) = 0 := by
  unfold trS
  rw [trX_25, if_pos]
  exact anyB_of (f := fun q => decide (g0 (lstO (frl S)) q = lr S i)) (i := i) (decide_eq_true rfl) hi
end TRADESPEC

def rmL_trades : Room := { frames := 13, cells := 2300, slots := 14000, locals := 392 }
set_option maxHeartbeats 4000000 in
set_option maxRecDepth 100000 in
theorem c_L_trades (l : Launch) (D : va_G) (a b e : Nat → Nat) (c : Nat → ClassId) (hl0 : l.stackTraces = false) (S J K2 U : St) {m : Nat} (hI : Inv m S) (hm : m ≤ 600) (hR : Rel S U) : Li l yL_trades wsL_trades rmL_trades D (tyW c) [.ref (a 0), .ref (b 0), .ref (e 2), .ref (e 3)] (wW a b e c S J S K2 U []) (fun r (_ : St × St) => r = nI 1) (fun u : St × St => wW a b e c (trS S) u.1 (trS S) u.2 (clU U S (lenO (frl S))) []) := by
  refine Li.ofEZ (lv0 := [(0, .ref (a 0)), (1, .ref (b 0)), (2, .ref (e 2)), (3, .ref (e 3))]) (by decide +kernel) rfl (Nat.le_of_ble_eq_true rfl) rfl (fun G KE hret => ?_)
  have K := KE.ok
  have hV := hI.V hm
  have h25 := hI.2.2.1.lt2
  have hg0 := rel_g0 hR
  have h60 := rel_60 hR
  have ho40 := V_offers hV
  obtain ⟨len, hlen⟩ : ∃ z, z = lenO (frl S) := ⟨_, rfl⟩
  have hl4 := frl_len S
  obtain ⟨S1, hS1⟩ : ∃ X : St, X = trS S := ⟨_, rfl⟩
  have hI1 : Inv m S1 := by rw [hS1]; exact inv_trade hI
  have hV1 := hI1.V hm
  have h251 := hI1.2.2.1.lt2
  have e2 : S1 2 0 = S 2 0 := by rw [hS1, trS_ne (by decide) (by decide) (by decide)]
  have e4 : S1 4 0 = S 4 0 := by rw [hS1, trS_ne (by decide) (by decide) (by decide)]
  have hll : (lstO (frl S)).length = lenO (frl S) := lstO_len _
  refine r_aload_n K dL_trades_0 rfl ?_
  refine r_aload_n K dL_trades_1 rfl ?_
  refine r_aload_n K dL_trades_2 rfl ?_
  refine r_callE (rest := []) KE (c_L_ringOf l D a b e c hl0 S J K2 U hI hm hR) 3 gL_trades_L_ringOf rfl (by decide +kernel) rfl ⟨⟨Nat.le_of_ble_eq_true rfl, Nat.le_of_ble_eq_true rfl⟩, (by show 0 + 2000 ≤ 2300; omega), (by show 0 + 12000 ≤ 14000; omega)⟩ rfl (Nat.le_of_ble_eq_true rfl) dL_trades_3 ?_
  rintro _ J1 rfl
  refine r_top (congrArg nI (show _ = len from hlen.symm)) ?_
  refine r_istore (lv' := [(0, .ref (a 0)), (1, .ref (b 0)), (2, .ref (e 2)), (3, .ref (e 3)), (4, .int (nI len))]) K dL_trades_6 (by decide) rfl ?_
  refine r_iconst K (nI 4) dL_trades_8 (by decide) ?_
  refine r_newZ K (List.mem_of_getElem? (i := 1) rfl) (by decide) ⟨(by show 2000 + 1 ≤ 2300; omega), (by show 12000 + 4 ≤ 14000; omega)⟩ dL_trades_9 (fun q2 => ?_)
  refine r_w (ws' := wW a b e c S J1 S K2 U [(q2, .inl (c 0, 4, .inl (ar (fun _ => 0))))]) rfl ?_
  refine r_astore (lv' := [(0, .ref (a 0)), (1, .ref (b 0)), (2, .ref (e 2)), (3, .ref (e 3)), (4, .int (nI len)), (5, .ref q2)]) K dL_trades_11 (by decide) rfl ?_
  refine r_bipush K (nI 60) dL_trades_13 (by decide) ?_
  refine r_newZ K (List.mem_of_getElem? (i := 1) rfl) (by decide) ⟨(by show 2001 + 1 ≤ 2300; omega), (by show 12004 + 60 ≤ 14000; omega)⟩ dL_trades_15 (fun q3 => ?_)
  refine r_w (ws' := wW a b e c S J1 S K2 U [(q2, .inl (c 0, 4, .inl (ar (fun _ => 0)))), (q3, .inl (c 0, 60, .inl (ar (fun _ => 0))))]) rfl ?_
  refine r_astore (lv' := [(0, .ref (a 0)), (1, .ref (b 0)), (2, .ref (e 2)), (3, .ref (e 3)), (4, .int (nI len)), (5, .ref q2), (6, .ref q3)]) K dL_trades_17 (by decide) rfl ?_
  refine r_iconst K (nI 0) dL_trades_19 (by decide) ?_
  refine r_istore (lv' := [(0, .ref (a 0)), (1, .ref (b 0)), (2, .ref (e 2)), (3, .ref (e 3)), (4, .int (nI len)), (5, .ref q2), (6, .ref q3), (7, .int (nI 0))]) K dL_trades_20 (by decide) rfl ?_
  have LA4 : ∀ (z5 : Nat) (i : Nat) (k1 : Nat) (n1 : Nat) (J1 : St) (f : Nat → Nat), len - i < z5 → (i ≤ len) → (∀ p, p < i → f p = lr S p) → (k1 ≤ 2002 + i) → (n1 ≤ 12064 + 6 * i) → G k1 n1 (wW a b e c S J1 S K2 U [(q2, .inl (c 0, 4, .inl (ar f))), (q3, .inl (c 0, 60, .inl (ar (fun _ => 0))))]) [(0, .ref (a 0)), (1, .ref (b 0)), (2, .ref (e 2)), (3, .ref (e 3)), (4, .int (nI len)), (5, .ref q2), (6, .ref q3), (7, .int (nI i))] 22 [] := by
    intro z5
    induction z5 with
    | zero => intro i k1 n1 J1 f hz hi hf hk1 hn1; exact absurd hz (by omega)
    | succ z5 ih6 =>
      intro i k1 n1 J1 f hz hi hf hk1 hn1
      refine r_iload K dL_trades_22 rfl ?_
      refine r_iload K dL_trades_24 rfl ?_
      refine r_ic_ge K 46 dL_trades_26 (by decide) (by omega) (by omega) (fun h7 => ?_) (fun h7 => ?_)
      ·
        refine r_iconst K (nI 0) dL_trades_46 (by decide) ?_
        refine r_istore (lv' := [(0, .ref (a 0)), (1, .ref (b 0)), (2, .ref (e 2)), (3, .ref (e 3)), (4, .int (nI len)), (5, .ref q2), (6, .ref q3), (7, .int (nI 0))]) K dL_trades_47 (by decide) rfl ?_
        have ei : i = lenO (frl S) := by omega
        rw [ei] at hf
        have LB8 : ∀ (z9 : Nat) (j : Nat) (k2 : Nat) (n2 : Nat) (J2 : St) (hd : Nat → Nat), S 2 0 - j < z9 → (j ≤ S 2 0) → (∀ p, p < j → hd p = S 17 p) → (k2 ≤ 2010 + j) → (n2 ≤ 12100 + 6 * j) → G k2 n2 (wW a b e c S J2 S K2 U [(q2, .inl (c 0, 4, .inl (ar f))), (q3, .inl (c 0, 60, .inl (ar hd)))]) [(0, .ref (a 0)), (1, .ref (b 0)), (2, .ref (e 2)), (3, .ref (e 3)), (4, .int (nI len)), (5, .ref q2), (6, .ref q3), (7, .int (nI j))] 49 [] := by
          intro z9
          induction z9 with
          | zero => intro j k2 n2 J2 hd hz hj hh hk2 hn2; exact absurd hz (by omega)
          | succ z9 ih10 =>
            intro j k2 n2 J2 hd hz hj hh hk2 hn2
            refine r_iload K dL_trades_49 rfl ?_
            refine r_aload_n K dL_trades_51 rfl ?_
            refine r_iconst K (nI 0) dL_trades_52 (by decide) ?_
            refine r_ldZ K 3 (zX_g3 _ _ _ _) (by omega) (by decide) dL_trades_53 ?_
            refine r_top (congrArg nI (show _ = S 2 0 from hg0)) ?_
            refine r_ic_ge K 74 dL_trades_54 (by decide) (by omega) (by omega) (fun h11 => ?_) (fun h11 => ?_)
            ·
              refine r_iconst K (nI 0) dL_trades_74 (by decide) ?_
              refine r_istore (lv' := [(0, .ref (a 0)), (1, .ref (b 0)), (2, .ref (e 2)), (3, .ref (e 3)), (4, .int (nI len)), (5, .ref q2), (6, .ref q3), (7, .int (nI 0))]) K dL_trades_75 (by decide) rfl ?_
              have ej : j = S 2 0 := by omega
              rw [ej] at hh
              have LC12 : ∀ (z13 : Nat) (r : Nat) (k3 : Nat) (n3 : Nat) (J3 : St) (ht : Nat → Nat), len - r < z13 → (r ≤ len) → (∀ p, p < S 2 0 → ht p = trX S (lstO (frl S)) r 17 p) → (k3 ≤ 2080) → (n3 ≤ 12500) → G k3 n3 (wW a b e c S J3 S K2 U [(q2, .inl (c 0, 4, .inl (ar f))), (q3, .inl (c 0, 60, .inl (ar ht)))]) [(0, .ref (a 0)), (1, .ref (b 0)), (2, .ref (e 2)), (3, .ref (e 3)), (4, .int (nI len)), (5, .ref q2), (6, .ref q3), (7, .int (nI r))] 77 [] := by
                intro z13
                induction z13 with
                | zero => intro r k3 n3 J3 ht hz hr hh3 hk3 hn3; exact absurd hz (by omega)
                | succ z13 ih14 =>
                  intro r k3 n3 J3 ht hz hr hh3 hk3 hn3
                  refine r_iload K dL_trades_77 rfl ?_
                  refine r_iload K dL_trades_79 rfl ?_
                  refine r_ic_ge K 137 dL_trades_81 (by decide) (by omega) (by omega) (fun h15 => ?_) (fun h15 => ?_)
                  ·
                    refine r_iload K dL_trades_137 rfl ?_
                    refine r_if_lt K 164 dL_trades_139 (by decide) (by omega) (fun h16 => by omega) (fun h16 => ?_)
                    refine r_aload_n K dL_trades_142 rfl ?_
                    refine r_callVO (rest := []) (f := fun u : St => u) K (c_X6_trade l D a c S J3 hV) 0 gL_trades_X6_trade rfl (by decide +kernel) rfl ⟨⟨Nat.le_of_ble_eq_true rfl, Nat.le_of_ble_eq_true rfl⟩, (by show k3 + 0 ≤ 2300; omega), (by show n3 + 0 ≤ 14000; omega)⟩ rfl rfl (Nat.le_of_ble_eq_true rfl) dL_trades_143 (fun J17 => ?_)
                    refine r_w (ws' := wW a b e c S1 J17 S K2 U [(q2, .inl (c 0, 4, .inl (ar f))), (q3, .inl (c 0, 60, .inl (ar ht)))]) (wW_S (by rw [hS1]; exact trS_C S)) ?_
                    refine r_top (congrArg nI (show _ = len from hlen.symm)) ?_
                    refine r_iload K dL_trades_146 rfl ?_
                    refine r_ic_ne K 164 dL_trades_148 (by decide) (by omega) (by omega) (fun h18 => by omega) (fun h18 => ?_)
                    refine r_aload_n K dL_trades_151 rfl ?_
                    refine r_callVT (rest := []) (f := fun u : St => u) K (c_X6_trade l D b c S K2 hV) 0 gL_trades_X6_trade rfl (by decide +kernel) rfl ⟨⟨Nat.le_of_ble_eq_true rfl, Nat.le_of_ble_eq_true rfl⟩, (by show k3 + 0 ≤ 2300; omega), (by show n3 + 0 ≤ 14000; omega)⟩ rfl rfl (Nat.le_of_ble_eq_true rfl) dL_trades_152 (fun J19 => ?_)
                    refine r_w (ws' := wW a b e c S1 J17 S1 J19 U [(q2, .inl (c 0, 4, .inl (ar f))), (q3, .inl (c 0, 60, .inl (ar ht)))]) (wW_T (by rw [hS1]; exact trS_C S)) ?_
                    refine r_top (congrArg nI (show _ = len from hlen.symm)) ?_
                    refine r_iload K dL_trades_155 rfl ?_
                    refine r_ic_ne K 164 dL_trades_157 (by decide) (by omega) (by omega) (fun h20 => by omega) (fun h20 => ?_)
                    refine r_iconst K (nI 1) dL_trades_160 (by decide) ?_
                    refine r_goto K 165 dL_trades_161 (by decide) ?_
                    refine r_istore (lv' := [(0, .ref (a 0)), (1, .ref (b 0)), (2, .ref (e 2)), (3, .ref (e 3)), (4, .int (nI len)), (5, .ref q2), (6, .ref q3), (7, .int (nI 1))]) K dL_trades_165 (by decide) rfl ?_
                    refine r_iconst K (nI 0) dL_trades_167 (by decide) ?_
                    refine r_istore (lv' := [(0, .ref (a 0)), (1, .ref (b 0)), (2, .ref (e 2)), (3, .ref (e 3)), (4, .int (nI len)), (5, .ref q2), (6, .ref q3), (7, .int (nI 1)), (8, .int (nI 0))]) K dL_trades_168 (by decide) rfl ?_
                    have er : r = lenO (frl S) := by omega
                    have hh4 : ∀ p, p < S 2 0 → ht p = S1 17 p := fun p hp => by rw [hh3 p hp, hS1, er]; rfl
                    have LD21 : ∀ (z22 : Nat) (x : Nat) (k4 : Nat) (n4 : Nat) (J4 : St) (K4 : St), S 2 0 - x < z22 → (x ≤ S 2 0) → (k4 ≤ 2080 + 2 * x) → (n4 ≤ 12500 + 12 * x) → G k4 n4 (wW a b e c S1 J4 S1 K4 U [(q2, .inl (c 0, 4, .inl (ar f))), (q3, .inl (c 0, 60, .inl (ar ht)))]) [(0, .ref (a 0)), (1, .ref (b 0)), (2, .ref (e 2)), (3, .ref (e 3)), (4, .int (nI len)), (5, .ref q2), (6, .ref q3), (7, .int (nI 1)), (8, .int (nI x))] 170 [] := by
                      intro z22
                      induction z22 with
                      | zero => intro x k4 n4 J4 K4 hz hx hk4 hn4; exact absurd hz (by omega)
                      | succ z22 ih23 =>
                        intro x k4 n4 J4 K4 hz hx hk4 hn4
                        refine r_iload K dL_trades_170 rfl ?_
                        refine r_aload_n K dL_trades_172 rfl ?_
                        refine r_iconst K (nI 0) dL_trades_173 (by decide) ?_
                        refine r_ldZ K 3 (zX_g3 _ _ _ _) (by omega) (by decide) dL_trades_174 ?_
                        refine r_top (congrArg nI (show _ = S 2 0 from hg0)) ?_
                        refine r_ic_ge K 224 dL_trades_175 (by decide) (by omega) (by omega) (fun h24 => ?_) (fun h24 => ?_)
                        ·
                          refine r_iconst K (nI 0) dL_trades_224 (by decide) ?_
                          refine r_istore (lv' := [(0, .ref (a 0)), (1, .ref (b 0)), (2, .ref (e 2)), (3, .ref (e 3)), (4, .int (nI len)), (5, .ref q2), (6, .ref q3), (7, .int (nI 1)), (8, .int (nI 0))]) K dL_trades_225 (by decide) rfl ?_
                          have LE25 : ∀ (z26 : Nat) (y : Nat) (k5 : Nat) (n5 : Nat) (J5 : St), len - y < z26 → (y ≤ len) → (k5 ≤ 2210 + 4 * y) → (n5 ≤ 13240 + 24 * y) → G k5 n5 (wW a b e c S1 J5 S1 K4 (clU U S y) [(q2, .inl (c 0, 4, .inl (ar f))), (q3, .inl (c 0, 60, .inl (ar ht)))]) [(0, .ref (a 0)), (1, .ref (b 0)), (2, .ref (e 2)), (3, .ref (e 3)), (4, .int (nI len)), (5, .ref q2), (6, .ref q3), (7, .int (nI 1)), (8, .int (nI y))] 227 [] := by
                            intro z26
                            induction z26 with
                            | zero => intro y k5 n5 J5 hz hy hk5 hn5; exact absurd hz (by omega)
                            | succ z26 ih27 =>
                              intro y k5 n5 J5 hz hy hk5 hn5
                              refine r_iload K dL_trades_227 rfl ?_
                              refine r_iload K dL_trades_229 rfl ?_
                              refine r_ic_ge K 290 dL_trades_231 (by decide) (by omega) (by omega) (fun h28 => ?_) (fun h28 => ?_)
                              ·
                                refine r_iload K dL_trades_290 rfl ?_
                                have ey : y = lenO (frl S) := by omega
                                exact hret _ _ _ _ _ 1 (J5, K4) _ dL_trades_292 (by decide) rfl (by rw [ey, hS1]; exact wW_app a b e c (trS S) J5 (trS S) K4 (clU U S (lenO (frl S))) _) (by show k5 ≤ 2300; omega) (by show n5 ≤ 14000; omega)
                              ·
                                have hy2 : y < lenO (frl S) := by omega
                                have hlt5 := lr_lt hy2
                                have h0 : S1 25 (lr S y) = 0 := by rw [hS1]; exact tr_25 hy2
                                refine r_aload_n K dL_trades_234 rfl ?_
                                refine r_aload K dL_trades_235 rfl ?_
                                refine r_iload K dL_trades_237 rfl ?_
                                refine r_ldZ (g := f) K 4 rfl (by omega) (by decide) dL_trades_239 ?_
                                refine r_top (congrArg nI (show _ = lr S y from hf _ hy2)) ?_
                                refine r_dup2 K dL_trades_240 rfl rfl ?_
                                refine r_ldZ K 2 (zX_g2 _ _ _ _) (by omega) (by decide) dL_trades_241 ?_
                                refine r_ldc K (v := nI 65536) (List.mem_of_getElem? (i := 2) rfl) dL_trades_242 ?_
                                refine r_iadd K dL_trades_244 ?_
                                refine r_stZ (U' := up (clU U S y) 2 (lr S y) ((clU U S y) 2 (lr S y) + 65536)) K 2 (zX_g2 _ _ _ _) (by omega) (by decide) dL_trades_245 (zX_s2 _ _ _ _ _ _) ?_
                                refine r_iload K dL_trades_246 rfl ?_
                                refine r_if_eq K 281 dL_trades_248 (by decide) (by decide) (fun h31 => absurd h31 (by decide)) (fun h31 => ?_)
                                refine r_aload_n K dL_trades_251 rfl ?_
                                refine r_aload K dL_trades_252 rfl ?_
                                refine r_iload K dL_trades_254 rfl ?_
                                refine r_ldZ (g := f) K 4 rfl (by omega) (by decide) dL_trades_256 ?_
                                refine r_top (congrArg nI (show _ = lr S y from hf _ hy2)) ?_
                                refine r_callO (rest := []) KE (w_isOpen_0 l D a c S1 hl0 hV1 h251 (lr S y) (by omega)) 2 gL_trades_L_isOpen rfl (by decide +kernel) rfl ⟨⟨Nat.le_of_ble_eq_true rfl, Nat.le_of_ble_eq_true rfl⟩, (by show k5 + 1 ≤ 2300; omega), (by show n5 + 6 ≤ 14000; omega)⟩ rfl (Nat.le_of_ble_eq_true rfl) dL_trades_257 (fun J32 => ?_)
                                refine r_if_ne K 281 dL_trades_260 (by decide) (by omega) (fun h33 => by omega) (fun h33 => ?_)
                                refine r_aload_n K dL_trades_263 rfl ?_
                                refine r_aload K dL_trades_264 rfl ?_
                                refine r_iload K dL_trades_266 rfl ?_
                                refine r_ldZ (g := f) K 4 rfl (by omega) (by decide) dL_trades_268 ?_
                                refine r_top (congrArg nI (show _ = lr S y from hf _ hy2)) ?_
                                refine r_callO (rest := []) KE (w_takeBack_2 l D a c S1 hl0 hV1  (lr S y) (by omega) (decide_eq_false (fun q => q h0))) 2 gL_trades_L_takeBack rfl (by decide +kernel) rfl ⟨⟨Nat.le_of_ble_eq_true rfl, Nat.le_of_ble_eq_true rfl⟩, (by show k5 + 1 + 2 ≤ 2300; omega), (by show n5 + 6 + 12 ≤ 14000; omega)⟩ rfl (Nat.le_of_ble_eq_true rfl) dL_trades_269 (fun J34 => ?_)
                                refine r_ldc K (v := -1000003) (List.mem_of_getElem? (i := 3) rfl) dL_trades_272 ?_
                                refine r_ic_neR K 281 dL_trades_274 (by decide) (fun h35 => absurd rfl h35) (fun h35 => ?_)
                                refine r_iconst K (nI 1) dL_trades_277 (by decide) ?_
                                refine r_goto K 282 dL_trades_278 (by decide) ?_
                                refine r_istore (lv' := [(0, .ref (a 0)), (1, .ref (b 0)), (2, .ref (e 2)), (3, .ref (e 3)), (4, .int (nI len)), (5, .ref q2), (6, .ref q3), (7, .int (nI 1)), (8, .int (nI y))]) K dL_trades_282 (by decide) rfl ?_
                                refine r_iinc (lv' := [(0, .ref (a 0)), (1, .ref (b 0)), (2, .ref (e 2)), (3, .ref (e 3)), (4, .int (nI len)), (5, .ref q2), (6, .ref q3), (7, .int (nI 1)), (8, .int (nI (y + 1)))]) K dL_trades_284 rfl (nI_1 _) (by decide) rfl ?_
                                refine r_goto K 227 dL_trades_287 (by decide) ?_
                                exact ih27 (y + 1) _ _ _ (by omega) (by omega) (by show k5 + 3 ≤ _; omega) (by show n5 + 18 ≤ _; omega)
                          exact LE25 6 0 _ _ _ (by omega) (Nat.zero_le _) (by show k4 ≤ _; omega) (by show n4 ≤ _; omega)
                        ·
                          refine r_iload K dL_trades_178 rfl ?_
                          refine r_if_eq K 215 dL_trades_180 (by decide) (by decide) (fun h37 => absurd h37 (by decide)) (fun h37 => ?_)
                          have b17 := V_b hV1 17 x
                          refine r_aload_n K dL_trades_183 rfl ?_
                          refine r_iload K dL_trades_184 rfl ?_
                          refine r_callO (rest := []) KE (w_collectorOf_0 l D a c S1 hl0 hV1  x (by omega)) 2 gL_trades_L_collectorOf rfl (by decide +kernel) rfl ⟨⟨Nat.le_of_ble_eq_true rfl, Nat.le_of_ble_eq_true rfl⟩, (by show k4 + 1 ≤ 2300; omega), (by show n4 + 6 ≤ 14000; omega)⟩ rfl (Nat.le_of_ble_eq_true rfl) dL_trades_186 (fun J38 => ?_)
                          refine r_aload K dL_trades_189 rfl ?_
                          refine r_iload K dL_trades_191 rfl ?_
                          refine r_ldZ (g := ht) K 5 rfl (by omega) (by decide) dL_trades_193 ?_
                          refine r_top (congrArg nI (show _ = S1 17 x from hh4 x (by omega))) ?_
                          refine r_ic_ne K 215 dL_trades_194 (by decide) (by omega) (by omega) (fun h39 => by omega) (fun h39 => ?_)
                          refine r_aload_n K dL_trades_197 rfl ?_
                          refine r_iload K dL_trades_198 rfl ?_
                          refine r_callT (rest := []) KE (w_collectorOf_0 l D b c S1 hl0 hV1  x (by omega)) 2 gL_trades_L_collectorOf rfl (by decide +kernel) rfl ⟨⟨Nat.le_of_ble_eq_true rfl, Nat.le_of_ble_eq_true rfl⟩, (by show k4 + 1 + 1 ≤ 2300; omega), (by show n4 + 6 + 6 ≤ 14000; omega)⟩ rfl (Nat.le_of_ble_eq_true rfl) dL_trades_200 (fun J40 => ?_)
                          refine r_aload K dL_trades_203 rfl ?_
                          refine r_iload K dL_trades_205 rfl ?_
                          refine r_ldZ (g := ht) K 5 rfl (by omega) (by decide) dL_trades_207 ?_
                          refine r_top (congrArg nI (show _ = S1 17 x from hh4 x (by omega))) ?_
                          refine r_ic_ne K 215 dL_trades_208 (by decide) (by omega) (by omega) (fun h41 => by omega) (fun h41 => ?_)
                          refine r_iconst K (nI 1) dL_trades_211 (by decide) ?_
                          refine r_goto K 216 dL_trades_212 (by decide) ?_
                          refine r_istore (lv' := [(0, .ref (a 0)), (1, .ref (b 0)), (2, .ref (e 2)), (3, .ref (e 3)), (4, .int (nI len)), (5, .ref q2), (6, .ref q3), (7, .int (nI 1)), (8, .int (nI x))]) K dL_trades_216 (by decide) rfl ?_
                          refine r_iinc (lv' := [(0, .ref (a 0)), (1, .ref (b 0)), (2, .ref (e 2)), (3, .ref (e 3)), (4, .int (nI len)), (5, .ref q2), (6, .ref q3), (7, .int (nI 1)), (8, .int (nI (x + 1)))]) K dL_trades_218 rfl (nI_1 _) (by decide) rfl ?_
                          refine r_goto K 170 dL_trades_221 (by decide) ?_
                          exact ih23 (x + 1) _ _ _ _ (by omega) (by omega) (by show k4 + 2 ≤ _; omega) (by show n4 + 12 ≤ _; omega)
                    exact LD21 61 0 _ _ _ _ (by omega) (Nat.zero_le _) (by show k3 ≤ _; omega) (by show n3 ≤ _; omega)
                  ·
                    have hr2 : r < lenO (frl S) := by omega
                    have hnx := nxp_lt hr2
                    have hlt1 := lr_lt hr2
                    have hlt2 := lr_lt hnx
                    have hc1 := of_card hI hlt1
                    have hc2 := of_card hI hlt2
                    obtain ⟨c1, c2, c3, c4, c5⟩ := rel_o hR h25 hlt1 hc1
                    obtain ⟨d1, d2, d3, d4, d5⟩ := rel_o hR h25 hlt2 hc2
                    refine r_aload K dL_trades_84 rfl ?_
                    refine r_iload K dL_trades_86 rfl ?_
                    refine r_iconst K (nI 1) dL_trades_88 (by decide) ?_
                    refine r_iadd K dL_trades_89 ?_
                    refine r_iload K dL_trades_90 rfl ?_
                    refine r_ic_ne K 99 dL_trades_92 (by decide) (by omega) (by omega) (fun h42 => ?_) (fun h42 => ?_)
                    ·
                      refine r_iload K dL_trades_99 rfl ?_
                      refine r_iconst K (nI 1) dL_trades_101 (by decide) ?_
                      refine r_iadd K dL_trades_102 ?_
                      refine r_top (congrArg nI (show _ = nxp (lstO (frl S)) r from (by unfold nxp; rw [if_pos (by omega)]))) ?_
                      refine r_ldZ (g := f) K 4 rfl (by omega) (by decide) dL_trades_103 ?_
                      refine r_top (congrArg nI (show _ = lr S (nxp (lstO (frl S)) r) from hf _ hnx)) ?_
                      refine r_istore (lv' := [(0, .ref (a 0)), (1, .ref (b 0)), (2, .ref (e 2)), (3, .ref (e 3)), (4, .int (nI len)), (5, .ref q2), (6, .ref q3), (7, .int (nI r)), (8, .int (nI (lr S (nxp (lstO (frl S)) r))))]) K dL_trades_104 (by decide) rfl ?_
                      refine r_aload K dL_trades_106 rfl ?_
                      refine r_aload_n K dL_trades_108 rfl ?_
                      refine r_aload K dL_trades_109 rfl ?_
                      refine r_iload K dL_trades_111 rfl ?_
                      refine r_ldZ (g := f) K 4 rfl (by omega) (by decide) dL_trades_113 ?_
                      refine r_top (congrArg nI (show _ = lr S r from hf _ hr2)) ?_
                      refine r_ldZ K 2 (zX_g2 _ _ _ _) (by omega) (by decide) dL_trades_114 ?_
                      refine r_sipush K (nI 128) dL_trades_115 (by decide) ?_
                      refine r_irem K dL_trades_118 (by omega) (by omega) (by omega) ?_
                      refine r_top (congrArg nI (show _ = S 21 (lr S r) from c2)) ?_
                      refine r_aload_n K dL_trades_119 rfl ?_
                      refine r_iload K dL_trades_120 rfl ?_
                      refine r_ldZ K 2 (zX_g2 _ _ _ _) (by omega) (by decide) dL_trades_122 ?_
                      refine r_sipush K (nI 4096) dL_trades_123 (by decide) ?_
                      refine r_idiv K dL_trades_126 (by omega) (by omega) (by omega) ?_
                      refine r_bipush K (nI 16) dL_trades_127 (by decide) ?_
                      refine r_irem K dL_trades_129 (by omega) (by omega) (by omega) ?_
                      refine r_top (congrArg nI (show _ = S 24 (lr S (nxp (lstO (frl S)) r)) from d3)) ?_
                      refine r_stZ (g := ht) (x' := [(q2, .inl (c 0, 4, .inl (ar f))), (q3, .inl (c 0, 60, .inl (ar (upf ht (S 21 (lr S r)) (S 24 (lr S (nxp (lstO (frl S)) r)))))))]) K 5 rfl (by omega) (by decide) dL_trades_130 rfl ?_
                      obtain ⟨f43, hf43⟩ : ∃ X : Nat → Nat, X = upf ht (S 21 (lr S r)) (S 24 (lr S (nxp (lstO (frl S)) r))) := ⟨_, rfl⟩
                      rw [← hf43]
                      refine r_iinc (lv' := [(0, .ref (a 0)), (1, .ref (b 0)), (2, .ref (e 2)), (3, .ref (e 3)), (4, .int (nI len)), (5, .ref q2), (6, .ref q3), (7, .int (nI (r + 1))), (8, .int (nI (lr S (nxp (lstO (frl S)) r))))]) K dL_trades_131 rfl (nI_1 _) (by decide) rfl ?_
                      refine r_goto K 77 dL_trades_134 (by decide) ?_
                      refine r_pick [0, 1, 2, 3, 4, 5, 6, 7] K rfl ?_
                      exact ih14 (r + 1) _ _ _ _ (by omega) (by omega) (by rw [hf43]; exact tr_step hh3) (by show k3 ≤ _; omega) (by show n3 ≤ _; omega)
                    ·
                      refine r_iconst K (nI 0) dL_trades_95 (by decide) ?_
                      refine r_top (congrArg nI (show _ = nxp (lstO (frl S)) r from (by unfold nxp; rw [if_neg (by omega)]))) ?_
                      refine r_goto K 103 dL_trades_96 (by decide) ?_
                      refine r_ldZ (g := f) K 4 rfl (by omega) (by decide) dL_trades_103 ?_
                      refine r_top (congrArg nI (show _ = lr S (nxp (lstO (frl S)) r) from hf _ hnx)) ?_
                      refine r_istore (lv' := [(0, .ref (a 0)), (1, .ref (b 0)), (2, .ref (e 2)), (3, .ref (e 3)), (4, .int (nI len)), (5, .ref q2), (6, .ref q3), (7, .int (nI r)), (8, .int (nI (lr S (nxp (lstO (frl S)) r))))]) K dL_trades_104 (by decide) rfl ?_
                      refine r_aload K dL_trades_106 rfl ?_
                      refine r_aload_n K dL_trades_108 rfl ?_
                      refine r_aload K dL_trades_109 rfl ?_
                      refine r_iload K dL_trades_111 rfl ?_
                      refine r_ldZ (g := f) K 4 rfl (by omega) (by decide) dL_trades_113 ?_
                      refine r_top (congrArg nI (show _ = lr S r from hf _ hr2)) ?_
                      refine r_ldZ K 2 (zX_g2 _ _ _ _) (by omega) (by decide) dL_trades_114 ?_
                      refine r_sipush K (nI 128) dL_trades_115 (by decide) ?_
                      refine r_irem K dL_trades_118 (by omega) (by omega) (by omega) ?_
                      refine r_top (congrArg nI (show _ = S 21 (lr S r) from c2)) ?_
                      refine r_aload_n K dL_trades_119 rfl ?_
                      refine r_iload K dL_trades_120 rfl ?_
                      refine r_ldZ K 2 (zX_g2 _ _ _ _) (by omega) (by decide) dL_trades_122 ?_
                      refine r_sipush K (nI 4096) dL_trades_123 (by decide) ?_
                      refine r_idiv K dL_trades_126 (by omega) (by omega) (by omega) ?_
                      refine r_bipush K (nI 16) dL_trades_127 (by decide) ?_
                      refine r_irem K dL_trades_129 (by omega) (by omega) (by omega) ?_
                      refine r_top (congrArg nI (show _ = S 24 (lr S (nxp (lstO (frl S)) r)) from d3)) ?_
                      refine r_stZ (g := ht) (x' := [(q2, .inl (c 0, 4, .inl (ar f))), (q3, .inl (c 0, 60, .inl (ar (upf ht (S 21 (lr S r)) (S 24 (lr S (nxp (lstO (frl S)) r)))))))]) K 5 rfl (by omega) (by decide) dL_trades_130 rfl ?_
                      obtain ⟨f44, hf44⟩ : ∃ X : Nat → Nat, X = upf ht (S 21 (lr S r)) (S 24 (lr S (nxp (lstO (frl S)) r))) := ⟨_, rfl⟩
                      rw [← hf44]
                      refine r_iinc (lv' := [(0, .ref (a 0)), (1, .ref (b 0)), (2, .ref (e 2)), (3, .ref (e 3)), (4, .int (nI len)), (5, .ref q2), (6, .ref q3), (7, .int (nI (r + 1))), (8, .int (nI (lr S (nxp (lstO (frl S)) r))))]) K dL_trades_131 rfl (nI_1 _) (by decide) rfl ?_
                      refine r_goto K 77 dL_trades_134 (by decide) ?_
                      refine r_pick [0, 1, 2, 3, 4, 5, 6, 7] K rfl ?_
                      exact ih14 (r + 1) _ _ _ _ (by omega) (by omega) (by rw [hf44]; exact tr_step hh3) (by show k3 ≤ _; omega) (by show n3 ≤ _; omega)
              exact LC12 6 0 _ _ _ _ (by omega) (Nat.zero_le _) hh (by show k2 ≤ _; omega) (by show n2 ≤ _; omega)
            ·
              refine r_aload K dL_trades_57 rfl ?_
              refine r_iload K dL_trades_59 rfl ?_
              refine r_aload_n K dL_trades_61 rfl ?_
              refine r_iload K dL_trades_62 rfl ?_
              refine r_callO (rest := [.int (nI j), .ref q3]) KE (w_collectorOf_0 l D a c S hl0 hV  j (by omega)) 2 gL_trades_L_collectorOf rfl (by decide +kernel) rfl ⟨⟨Nat.le_of_ble_eq_true rfl, Nat.le_of_ble_eq_true rfl⟩, (by show k2 + 1 ≤ 2300; omega), (by show n2 + 6 ≤ 14000; omega)⟩ rfl (Nat.le_of_ble_eq_true rfl) dL_trades_64 (fun J45 => ?_)
              refine r_stZ (g := hd) (x' := [(q2, .inl (c 0, 4, .inl (ar f))), (q3, .inl (c 0, 60, .inl (ar (upf hd j (S 17 j)))))]) K 5 rfl (by omega) (by decide) dL_trades_67 rfl ?_
              obtain ⟨f46, hf46⟩ : ∃ X : Nat → Nat, X = upf hd j (S 17 j) := ⟨_, rfl⟩
              rw [← hf46]
              refine r_iinc (lv' := [(0, .ref (a 0)), (1, .ref (b 0)), (2, .ref (e 2)), (3, .ref (e 3)), (4, .int (nI len)), (5, .ref q2), (6, .ref q3), (7, .int (nI (j + 1)))]) K dL_trades_68 rfl (nI_1 _) (by decide) rfl ?_
              refine r_goto K 49 dL_trades_71 (by decide) ?_
              exact ih10 (j + 1) _ _ _ _ (by omega) (by omega) (by rw [hf46]; exact row_step hh) (by show k2 + 1 ≤ _; omega) (by show n2 + 6 ≤ _; omega)
        exact LB8 61 0 _ _ _ _ (by omega) (Nat.zero_le _) (fun p hp => absurd hp (Nat.not_lt_zero p)) (by show k1 ≤ _; omega) (by show n1 ≤ _; omega)
      ·
        refine r_aload K dL_trades_29 rfl ?_
        refine r_iload K dL_trades_31 rfl ?_
        refine r_aload_n K dL_trades_33 rfl ?_
        refine r_iload K dL_trades_34 rfl ?_
        refine r_callO (rest := [.int (nI i), .ref q2]) KE (w_ring_0 l D a c S hl0 hV  i (by omega)) 2 gL_trades_L_ring rfl (by decide +kernel) rfl ⟨⟨Nat.le_of_ble_eq_true rfl, Nat.le_of_ble_eq_true rfl⟩, (by show k1 + 1 ≤ 2300; omega), (by show n1 + 6 ≤ 14000; omega)⟩ rfl (Nat.le_of_ble_eq_true rfl) dL_trades_36 (fun J47 => ?_)
        refine r_top (show _ = nI (lr S i) from rg_in (by omega)) ?_
        refine r_stZ (g := f) (x' := [(q2, .inl (c 0, 4, .inl (ar (upf f i (lr S i))))), (q3, .inl (c 0, 60, .inl (ar (fun _ => 0))))]) K 4 rfl (by omega) (by decide) dL_trades_39 rfl ?_
        obtain ⟨f48, hf48⟩ : ∃ X : Nat → Nat, X = upf f i (lr S i) := ⟨_, rfl⟩
        rw [← hf48]
        refine r_iinc (lv' := [(0, .ref (a 0)), (1, .ref (b 0)), (2, .ref (e 2)), (3, .ref (e 3)), (4, .int (nI len)), (5, .ref q2), (6, .ref q3), (7, .int (nI (i + 1)))]) K dL_trades_40 rfl (nI_1 _) (by decide) rfl ?_
        refine r_goto K 22 dL_trades_43 (by decide) ?_
        exact ih6 (i + 1) _ _ _ _ (by omega) (by omega) (by rw [hf48]; exact row_step hf) (by show k1 + 1 ≤ _; omega) (by show n1 + 6 ≤ _; omega)
  exact LA4 6 0 _ _ _ _ (by omega) (Nat.zero_le _) (fun p hp => absurd hp (Nat.not_lt_zero p)) (by show 2002 ≤ _; omega) (by show 12064 ≤ _; omega)
