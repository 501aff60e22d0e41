section DECK74
theorem lN_shr {n j : Nat} (h : n < 2 ^ 60) (hj : j < 60) : lN n >>> ((nI j).toInt64 &&& 63) = lN (n / 2 ^ j) := by
  have hs : ∀ j, j < 60 → (((nI j).toInt64 &&& 63).toBitVec.smod 64).toNat = j := by decide +kernel
  have h2 : n / 2 ^ j ≤ n := Nat.div_le_self _ _
  have h3 : n < 2 ^ 63 := Nat.lt_of_lt_of_le h (by decide)
  apply Int64.toInt_inj.mp
  show ((lN n).toBitVec.sshiftRight (((nI j).toInt64 &&& 63).toBitVec.smod 64).toNat).toInt = _
  rw [hs j hj, BitVec.toInt_sshiftRight]
  show (lN n).toInt >>> j = _
  rw [pk_lT h3, pk_lT (Nat.lt_of_le_of_lt h2 h3), Int.shiftRight_eq_div_pow]
  rfl
theorem lN_bit (s j : Nat) : lN (s / 2 ^ j) &&& lN 1 = lN ((s.testBit j).toNat) := by
  rw [lN_and, Nat.and_one_is_mod, ← Nat.toNat_testBit]
end DECK74

def rmL_isDeckSo : Room := { frames := 12, cells := 300, slots := 2000, locals := 438 }
set_option maxHeartbeats 4000000 in
set_option maxRecDepth 100000 in
theorem c_L_isDeckSo (l : Launch) (D : va_G) (a b e : Nat → Nat) (c : Nat → ClassId) (hl0 : l.stackTraces = false) (S J K2 U : St) {m : Nat} (hI : Inv m S) (hm : m ≤ 600) (hR : Rel S U) (its : Nat) (hits : its < S 3 0) (x : Int32) : Li l yL_isDeckSo wsL_isDeckSo rmL_isDeckSo D (tyW c) [.ref (a 0), .ref (e 0), .ref (e 1), .ref (e 3), .int (nI its), .int x] (wW a b e c S J S K2 U []) (fun r (_ : St) => r = nI 1) (fun u => wW a b e c S u S K2 U []) := by
  refine Li.ofEZ (lv0 := [(0, .ref (a 0)), (1, .ref (e 0)), (2, .ref (e 1)), (3, .ref (e 3)), (4, .int (nI its)), (5, .int x)]) (by decide +kernel) rfl (Nat.le_of_ble_eq_true rfl) rfl (fun G KE hret => ?_)
  have K := KE.ok
  have hV := hI.V hm
  have h25 := hI.2.2.1.lt2
  have hg0 := rel_g0 hR
  have hg1 := rel_g1 hR
  have hg3 := rel_g3 hR
  have hg4 := rel_g4 hR
  have h60 := rel_60 hR
  have hd12 := V_decks hV
  have hsz := V_size hV its
  have hit : its < 12 := by omega
  have h32 := V_b hV 3 2
  have h31 := V_b hV 3 1
  refine r_aload_n K dL_isDeckSo_0 rfl ?_
  refine r_iconst K (nI 2) dL_isDeckSo_1 (by decide) ?_
  refine r_iload K dL_isDeckSo_2 rfl ?_
  refine r_imul K dL_isDeckSo_4 ?_
  refine r_iconst K (nI 1) dL_isDeckSo_5 (by decide) ?_
  refine r_iadd K dL_isDeckSo_6 ?_
  refine r_ldZ K 1 (zX_g1 _ _ _ _) (by omega) (by decide) dL_isDeckSo_7 ?_
  refine r_top (congrArg nI (show _ = S 19 its from rel_sz hR hit)) ?_
  refine r_istore (lv' := [(0, .ref (a 0)), (1, .ref (e 0)), (2, .ref (e 1)), (3, .ref (e 3)), (4, .int (nI its)), (5, .int x), (6, .int (nI (S 19 its)))]) K dL_isDeckSo_8 (by decide) rfl ?_
  refine r_iload K dL_isDeckSo_10 rfl ?_
  refine r_ldc K (v := nI 2147483647) (List.mem_of_getElem? (i := 1) rfl) dL_isDeckSo_12 ?_
  refine r_iandR K dL_isDeckSo_14 ?_
  obtain ⟨sd1, hsd1, esd1⟩ := low31 x
  refine r_top (show _ = nI sd1 from esd1) ?_
  obtain ⟨sd, hsd⟩ : ∃ z, z = sd1 := ⟨_, rfl⟩
  refine r_top (congrArg nI (show _ = sd from hsd.symm)) ?_
  refine r_istore (lv' := [(0, .ref (a 0)), (1, .ref (e 0)), (2, .ref (e 1)), (3, .ref (e 3)), (4, .int (nI its)), (5, .int x), (6, .int (nI (S 19 its))), (7, .int (nI sd))]) K dL_isDeckSo_15 (by decide) rfl ?_
  refine r_lconst K (lN 0) dL_isDeckSo_17 (by decide) ?_
  refine r_lstore (lv' := [(0, .ref (a 0)), (1, .ref (e 0)), (2, .ref (e 1)), (3, .ref (e 3)), (4, .int (nI its)), (5, .int x), (6, .int (nI (S 19 its))), (7, .int (nI sd)), (8, .long (lN 0))]) K dL_isDeckSo_18 (by decide) rfl ?_
  refine r_lconst K (lN 0) dL_isDeckSo_20 (by decide) ?_
  refine r_lstore (lv' := [(0, .ref (a 0)), (1, .ref (e 0)), (2, .ref (e 1)), (3, .ref (e 3)), (4, .int (nI its)), (5, .int x), (6, .int (nI (S 19 its))), (7, .int (nI sd)), (8, .long (lN 0)), (10, .long (lN 0))]) K dL_isDeckSo_21 (by decide) rfl ?_
  refine r_bipush K (nI 16) dL_isDeckSo_23 (by decide) ?_
  refine r_newZ K (List.mem_of_getElem? (i := 2) rfl) (by decide) ⟨(by show 0 + 1 ≤ 300; omega), (by show 0 + 16 ≤ 2000; omega)⟩ dL_isDeckSo_25 (fun q2 => ?_)
  refine r_w (ws' := wW a b e c S J S K2 U [(q2, .inl (c 0, 16, .inl (ar (fun _ => 0))))]) rfl ?_
  refine r_astore (lv' := [(0, .ref (a 0)), (1, .ref (e 0)), (2, .ref (e 1)), (3, .ref (e 3)), (4, .int (nI its)), (5, .int x), (6, .int (nI (S 19 its))), (7, .int (nI sd)), (8, .long (lN 0)), (10, .long (lN 0)), (12, .ref q2)]) K dL_isDeckSo_27 (by decide) rfl ?_
  have hsl : sd < 2147483648 := by rw [hsd]; assumption
  have HM3 : ∀ (k : Nat) (n : Nat) (J0 : St), (k ≤ 1) → (n ≤ 16) → G k n (wW a b e c S J0 S K2 U [(q2, .inl (c 0, 16, .inl (ar (fun _ => 0))))]) [(0, .ref (a 0)), (1, .ref (e 0)), (2, .ref (e 1)), (3, .ref (e 3)), (4, .int (nI its)), (5, .int x), (6, .int (nI (S 19 its))), (7, .int (nI sd)), (8, .long (lN 0)), (10, .long (lN 0)), (12, .ref q2)] 42 [.int (nI ((alR S its sd 0).toNat))] := by
    intro k n J0 hk hn
    refine r_istore (lv' := [(0, .ref (a 0)), (1, .ref (e 0)), (2, .ref (e 1)), (3, .ref (e 3)), (4, .int (nI its)), (5, .int x), (6, .int (nI (S 19 its))), (7, .int (nI sd)), (8, .long (lN 0)), (10, .long (lN 0)), (12, .ref q2), (13, .int (nI ((alR S its sd 0).toNat)))]) K dL_isDeckSo_42 (by decide) rfl ?_
    refine r_iconst K (nI 0) dL_isDeckSo_44 (by decide) ?_
    refine r_istore (lv' := [(0, .ref (a 0)), (1, .ref (e 0)), (2, .ref (e 1)), (3, .ref (e 3)), (4, .int (nI its)), (5, .int x), (6, .int (nI (S 19 its))), (7, .int (nI sd)), (8, .long (lN 0)), (10, .long (lN 0)), (12, .ref q2), (13, .int (nI ((alR S its sd 0).toNat))), (14, .int (nI 0))]) K dL_isDeckSo_45 (by decide) rfl ?_
    have LA4 : ∀ (z5 : Nat) (i : Nat) (k1 : Nat) (n1 : Nat) (J1 : St) (f : Nat → Nat), S 19 its - i < z5 → (i ≤ S 19 its) → (∀ d, f d = cnt (skB S its sd d) i) → (k1 ≤ 1 + 7 * i) → (n1 ≤ 16 + 42 * i) → G k1 n1 (wW a b e c S J1 S K2 U [(q2, .inl (c 0, 16, .inl (ar f)))]) [(0, .ref (a 0)), (1, .ref (e 0)), (2, .ref (e 1)), (3, .ref (e 3)), (4, .int (nI its)), (5, .int x), (6, .int (nI (S 19 its))), (7, .int (nI sd)), (8, .long (lN (sbN S its sd i))), (10, .long (lN i)), (12, .ref q2), (13, .int (nI ((alR S its sd i).toNat))), (14, .int (nI i))] 47 [] := by
      intro z5
      induction z5 with
      | zero => intro i k1 n1 J1 f hz hi hf hk1 hn1; exact absurd hz (by omega)
      | succ z5 ih6 =>
        intro i k1 n1 J1 f hz hi hf hk1 hn1
        refine r_iload K dL_isDeckSo_47 rfl ?_
        refine r_iload K dL_isDeckSo_49 rfl ?_
        refine r_ic_ge K 202 dL_isDeckSo_51 (by decide) (by omega) (by omega) (fun h7 => ?_) (fun h7 => ?_)
        ·
          refine r_iconst K (nI 0) dL_isDeckSo_202 (by decide) ?_
          refine r_istore (lv' := [(0, .ref (a 0)), (1, .ref (e 0)), (2, .ref (e 1)), (3, .ref (e 3)), (4, .int (nI its)), (5, .int x), (6, .int (nI (S 19 its))), (7, .int (nI sd)), (8, .long (lN (sbN S its sd i))), (10, .long (lN i)), (12, .ref q2), (13, .int (nI ((alR S its sd i).toNat))), (14, .int (nI 0))]) K dL_isDeckSo_203 (by decide) rfl ?_
          have ei : i = S 19 its := by omega
          have hfS : ∀ d, f d = mo S its d := fun d => by rw [hf, ei, sk_mo]
          have hsb := sbN_cnt hR (s := sd) hit i hi
          have hsl2 := sbN_lt hR (s := sd) hit i hi
          obtain ⟨sb, esb⟩ : ∃ z, z = sbN S its sd i := ⟨_, rfl⟩
          rw [← esb] at hsb hsl2
          have hal : alR S its sd i = alw S its := by rw [ei, alR_alw]
          refine r_lv (lv' := [(0, .ref (a 0)), (1, .ref (e 0)), (2, .ref (e 1)), (3, .ref (e 3)), (4, .int (nI its)), (5, .int x), (6, .int (nI (S 19 its))), (7, .int (nI sd)), (8, .long (lN sb)), (10, .long (lN (i - cnt (fun t => sb.testBit t) 0))), (12, .ref q2), (13, .int (nI ((alw S its).toNat))), (14, .int (nI 0))]) (by rw [esb, hal]; rfl) ?_
          have LB8 : ∀ (z9 : Nat) (j : Nat) (k2 : Nat) (n2 : Nat) (J2 : St), 60 - j < z9 → (j ≤ 60) → (k2 ≤ 80) → (n2 ≤ 500) → G k2 n2 (wW a b e c S J2 S K2 U [(q2, .inl (c 0, 16, .inl (ar f)))]) [(0, .ref (a 0)), (1, .ref (e 0)), (2, .ref (e 1)), (3, .ref (e 3)), (4, .int (nI its)), (5, .int x), (6, .int (nI (S 19 its))), (7, .int (nI sd)), (8, .long (lN sb)), (10, .long (lN (i - cnt (fun t => sb.testBit t) j))), (12, .ref q2), (13, .int (nI ((alw S its).toNat))), (14, .int (nI j))] 205 [] := by
            intro z9
            induction z9 with
            | zero => intro j k2 n2 J2 hz hj hk2 hn2; exact absurd hz (by omega)
            | succ z9 ih10 =>
              intro j k2 n2 J2 hz hj hk2 hn2
              refine r_iload K dL_isDeckSo_205 rfl ?_
              refine r_bipush K (nI 60) dL_isDeckSo_207 (by decide) ?_
              refine r_ic_ge K 230 dL_isDeckSo_209 (by decide) (by omega) (by decide) (fun h11 => ?_) (fun h11 => ?_)
              ·
                refine r_iload K dL_isDeckSo_230 rfl ?_
                refine r_bipush K (nI 16) dL_isDeckSo_232 (by decide) ?_
                refine r_callS0 (rest := []) K (c_L_low l D c x 16 (by omega) (by omega)) 2 gL_isDeckSo_L_low rfl (by decide +kernel) rfl ⟨⟨Nat.le_of_ble_eq_true rfl, Nat.le_of_ble_eq_true rfl⟩, (by show k2 + 0 ≤ 300; omega), (by show n2 + 0 ≤ 2000; omega)⟩ rfl (Nat.le_of_ble_eq_true rfl) dL_isDeckSo_234 ?_
                rintro _ _ ⟨k12, hk12, rfl⟩
                refine r_istore (lv' := [(0, .ref (a 0)), (1, .ref (e 0)), (2, .ref (e 1)), (3, .ref (e 3)), (4, .int (nI its)), (5, .int x), (6, .int (nI (S 19 its))), (7, .int (nI sd)), (8, .long (lN sb)), (10, .long (lN (i - cnt (fun t => sb.testBit t) j))), (12, .ref q2), (13, .int (nI ((alw S its).toNat))), (14, .int (nI k12))]) K dL_isDeckSo_237 (by decide) rfl ?_
                refine r_iconst K (nI 1) dL_isDeckSo_239 (by decide) ?_
                refine r_istore (lv' := [(0, .ref (a 0)), (1, .ref (e 0)), (2, .ref (e 1)), (3, .ref (e 3)), (4, .int (nI its)), (5, .int x), (6, .int (nI (S 19 its))), (7, .int (nI sd)), (8, .long (lN sb)), (10, .long (lN (i - cnt (fun t => sb.testBit t) j))), (12, .ref q2), (13, .int (nI ((alw S its).toNat))), (14, .int (nI k12)), (15, .int (nI 1))]) K dL_isDeckSo_240 (by decide) rfl ?_
                refine r_iconst K (nI 2) dL_isDeckSo_242 (by decide) ?_
                refine r_istore (lv' := [(0, .ref (a 0)), (1, .ref (e 0)), (2, .ref (e 1)), (3, .ref (e 3)), (4, .int (nI its)), (5, .int x), (6, .int (nI (S 19 its))), (7, .int (nI sd)), (8, .long (lN sb)), (10, .long (lN (i - cnt (fun t => sb.testBit t) j))), (12, .ref q2), (13, .int (nI ((alw S its).toNat))), (14, .int (nI k12)), (15, .int (nI 1)), (16, .int (nI 2))]) K dL_isDeckSo_243 (by decide) rfl ?_
                have ej : j = 60 := by omega
                have hz0 : i - cnt (fun t => sb.testBit t) j = 0 := by rw [ej, hsb.1]; omega
                have LC13 : ∀ (z14 : Nat) (t : Nat) (k3 : Nat) (n3 : Nat) (J3 : St), 11 - t < z14 → (1 ≤ t ∧ (t ≤ S 19 its ∨ t ≤ 1)) → (k3 ≤ 80) → (n3 ≤ 500) → G k3 n3 (wW a b e c S J3 S K2 U [(q2, .inl (c 0, 16, .inl (ar f)))]) [(0, .ref (a 0)), (1, .ref (e 0)), (2, .ref (e 1)), (3, .ref (e 3)), (4, .int (nI its)), (5, .int x), (6, .int (nI (S 19 its))), (7, .int (nI sd)), (8, .long (lN sb)), (10, .long (lN (i - cnt (fun t => sb.testBit t) j))), (12, .ref q2), (13, .int (nI ((alw S its).toNat))), (14, .int (nI k12)), (15, .int (nI (fc t))), (16, .int (nI (t + 1)))] 245 [] := by
                  intro z14
                  induction z14 with
                  | zero => intro t k3 n3 J3 hz ht hk3 hn3; exact absurd hz (by omega)
                  | succ z14 ih15 =>
                    intro t k3 n3 J3 hz ht hk3 hn3
                    refine r_iload K dL_isDeckSo_245 rfl ?_
                    refine r_iload K dL_isDeckSo_247 rfl ?_
                    refine r_ic_gt K 265 dL_isDeckSo_249 (by decide) (by omega) (by omega) (fun h16 => ?_) (fun h16 => ?_)
                    ·
                      have hfc : fc t = fc (S 19 its) := by rcases (show S 19 its = 0 ∨ t = S 19 its by omega) with q9 | q9; (· rw [show t = 1 by omega, q9]; rfl); (· rw [q9])
                      have hfcb := fc_10 hsz
                      have hkk15 : k12 ≤ 15 := by omega
                      have hfkk := hfS k12
                      have hmob := mo_sz S its k12
                      refine r_lv (lv' := [(0, .ref (a 0)), (1, .ref (e 0)), (2, .ref (e 1)), (3, .ref (e 3)), (4, .int (nI its)), (5, .int x), (6, .int (nI (S 19 its))), (7, .int (nI sd)), (8, .long (lN sb)), (10, .long (lN 0)), (12, .ref q2), (13, .int (nI ((alw S its).toNat))), (14, .int (nI k12)), (15, .int (nI (fc (S 19 its)))), (16, .int (nI (t + 1)))]) (by rw [hz0, hfc]) ?_
                      have HM17 : ∀ (k4 : Nat) (n4 : Nat) (J4 : St), (k4 ≤ 200) → (n4 ≤ 1200) → G k4 n4 (wW a b e c S J4 S K2 U [(q2, .inl (c 0, 16, .inl (ar f)))]) [(0, .ref (a 0)), (1, .ref (e 0)), (2, .ref (e 1)), (3, .ref (e 3)), (4, .int (nI its)), (5, .int x), (6, .int (nI (S 19 its))), (7, .int (nI sd))] 542 [] := by
                        intro k4 n4 J4 hk4 hn4
                        refine r_aload_n K dL_isDeckSo_542 rfl ?_
                        refine r_iload K dL_isDeckSo_543 rfl ?_
                        refine r_bipush K (nI 16) dL_isDeckSo_545 (by decide) ?_
                        refine r_iconst K (nI 0) dL_isDeckSo_547 (by decide) ?_
                        refine r_callO (rest := []) KE (x_orders_1 l D a c S hl0 hV  (nI its) (nI 16) (nI 0) (and_f2 (by decide))) 4 gL_isDeckSo_L_orders rfl (by decide +kernel) rfl ⟨⟨Nat.le_of_ble_eq_true rfl, Nat.le_of_ble_eq_true rfl⟩, (by show k4 + 3 ≤ 300; omega), (by show n4 + 18 ≤ 2000; omega)⟩ rfl (Nat.le_of_ble_eq_true rfl) dL_isDeckSo_548 (fun J18 => ?_)
                        refine r_ldc K (v := -1000001) (List.mem_of_getElem? (i := 4) rfl) dL_isDeckSo_551 ?_
                        refine r_ic_neR K 613 dL_isDeckSo_553 (by decide) (fun h19 => absurd rfl h19) (fun h19 => ?_)
                        refine r_aload_n K dL_isDeckSo_556 rfl ?_
                        refine r_iload K dL_isDeckSo_557 rfl ?_
                        refine r_iconst K (nI 0) dL_isDeckSo_559 (by decide) ?_
                        refine r_bipush K (nI 11) dL_isDeckSo_560 (by decide) ?_
                        refine r_callO (rest := []) KE (w_orders_2 l D a c S hl0 hV  its 0 11 (by omega) (by omega) (by omega) (by decide)) 4 gL_isDeckSo_L_orders rfl (by decide +kernel) rfl ⟨⟨Nat.le_of_ble_eq_true rfl, Nat.le_of_ble_eq_true rfl⟩, (by show k4 + 3 + 3 ≤ 300; omega), (by show n4 + 18 + 18 ≤ 2000; omega)⟩ rfl (Nat.le_of_ble_eq_true rfl) dL_isDeckSo_562 (fun J20 => ?_)
                        refine r_ldc K (v := -1000002) (List.mem_of_getElem? (i := 5) rfl) dL_isDeckSo_565 ?_
                        refine r_ic_neR K 613 dL_isDeckSo_567 (by decide) (fun h21 => absurd rfl h21) (fun h21 => ?_)
                        refine r_aload_n K dL_isDeckSo_570 rfl ?_
                        refine r_aload_n K dL_isDeckSo_571 rfl ?_
                        refine r_iconst K (nI 1) dL_isDeckSo_572 (by decide) ?_
                        refine r_ldZ K 3 (zX_g3 _ _ _ _) (by omega) (by decide) dL_isDeckSo_573 ?_
                        refine r_top (congrArg nI (show _ = S 3 0 from hg1)) ?_
                        refine r_iconst K (nI 0) dL_isDeckSo_574 (by decide) ?_
                        refine r_iconst K (nI 0) dL_isDeckSo_575 (by decide) ?_
                        refine r_callO (rest := []) KE (x_ordersByAll_1 l D a c S hl0 hV  (nI (S 3 0)) (nI 0) (nI 0) (and_f1 (inB_big (by omega) (Int32.le_refl _)))) 4 gL_isDeckSo_L_ordersByAll rfl (by decide +kernel) rfl ⟨⟨Nat.le_of_ble_eq_true rfl, Nat.le_of_ble_eq_true rfl⟩, (by show k4 + 6 + 4 ≤ 300; omega), (by show n4 + 36 + 24 ≤ 2000; omega)⟩ rfl (Nat.le_of_ble_eq_true rfl) dL_isDeckSo_576 (fun J22 => ?_)
                        refine r_ldc K (v := -1000001) (List.mem_of_getElem? (i := 4) rfl) dL_isDeckSo_579 ?_
                        refine r_ic_neR K 613 dL_isDeckSo_581 (by decide) (fun h23 => absurd rfl h23) (fun h23 => ?_)
                        refine r_aload_n K dL_isDeckSo_584 rfl ?_
                        refine r_iload K dL_isDeckSo_585 rfl ?_
                        refine r_iconst K (nI 0) dL_isDeckSo_587 (by decide) ?_
                        refine r_iconst K (nI 0) dL_isDeckSo_588 (by decide) ?_
                        refine r_callO (rest := []) KE (w_ordersByAll_2 l D a c S hl0 hV  its 0 0 (by omega) (by omega) (by omega) (by decide)) 4 gL_isDeckSo_L_ordersByAll rfl (by decide +kernel) rfl ⟨⟨Nat.le_of_ble_eq_true rfl, Nat.le_of_ble_eq_true rfl⟩, (by show k4 + 10 + 4 ≤ 300; omega), (by show n4 + 60 + 24 ≤ 2000; omega)⟩ rfl (Nat.le_of_ble_eq_true rfl) dL_isDeckSo_589 (fun J24 => ?_)
                        refine r_ldc K (v := -1000002) (List.mem_of_getElem? (i := 5) rfl) dL_isDeckSo_592 ?_
                        refine r_ic_neR K 613 dL_isDeckSo_594 (by decide) (fun h25 => absurd rfl h25) (fun h25 => ?_)
                        refine r_aload_n K dL_isDeckSo_597 rfl ?_
                        refine r_aload_n K dL_isDeckSo_598 rfl ?_
                        refine r_iconst K (nI 1) dL_isDeckSo_599 (by decide) ?_
                        refine r_ldZ K 3 (zX_g3 _ _ _ _) (by omega) (by decide) dL_isDeckSo_600 ?_
                        refine r_top (congrArg nI (show _ = S 3 0 from hg1)) ?_
                        refine r_callO (rest := []) KE (x_isAllowed_1 l D a c S hl0 hV  (nI (S 3 0)) (inB_big (by omega) (Int32.le_refl _))) 2 gL_isDeckSo_L_isAllowed rfl (by decide +kernel) rfl ⟨⟨Nat.le_of_ble_eq_true rfl, Nat.le_of_ble_eq_true rfl⟩, (by show k4 + 14 + 1 ≤ 300; omega), (by show n4 + 84 + 6 ≤ 2000; omega)⟩ rfl (Nat.le_of_ble_eq_true rfl) dL_isDeckSo_601 (fun J26 => ?_)
                        refine r_ldc K (v := -1000001) (List.mem_of_getElem? (i := 4) rfl) dL_isDeckSo_604 ?_
                        refine r_ic_neR K 613 dL_isDeckSo_606 (by decide) (fun h27 => absurd rfl h27) (fun h27 => ?_)
                        refine r_iconst K (nI 1) dL_isDeckSo_609 (by decide) ?_
                        refine r_goto K 614 dL_isDeckSo_610 (by decide) ?_
                        exact hret _ _ _ _ _ 1 J26 _ dL_isDeckSo_614 (by decide) rfl (wW_app a b e c S J26 S K2 U _) (by show k4 + 15 ≤ 300; omega) (by show n4 + 90 ≤ 2000; omega)
                      have HM28 : ∀ (k5 : Nat) (n5 : Nat) (J5 : St), (k5 ≤ 180) → (n5 ≤ 1100) → G k5 n5 (wW a b e c S J5 S K2 U [(q2, .inl (c 0, 16, .inl (ar f)))]) [(0, .ref (a 0)), (1, .ref (e 0)), (2, .ref (e 1)), (3, .ref (e 3)), (4, .int (nI its)), (5, .int x), (6, .int (nI (S 19 its))), (7, .int (nI sd))] 484 [] := by
                        intro k5 n5 J5 hk5 hn5
                        refine r_iconst K (nI 1) dL_isDeckSo_484 (by decide) ?_
                        refine r_goto K 489 dL_isDeckSo_485 (by decide) ?_
                        refine r_istore (lv' := [(0, .ref (a 0)), (1, .ref (e 0)), (2, .ref (e 1)), (3, .ref (e 3)), (4, .int (nI its)), (5, .int x), (6, .int (nI (S 19 its))), (7, .int (nI sd)), (17, .int (nI 1))]) K dL_isDeckSo_489 (by decide) rfl ?_
                        refine r_iload K dL_isDeckSo_491 rfl ?_
                        refine r_if_eq K 613 dL_isDeckSo_493 (by decide) (by decide) (fun h30 => absurd h30 (by decide)) (fun h30 => ?_)
                        refine r_aload_n K dL_isDeckSo_496 rfl ?_
                        refine r_iload K dL_isDeckSo_497 rfl ?_
                        refine r_iload K dL_isDeckSo_499 rfl ?_
                        refine r_iload K dL_isDeckSo_501 rfl ?_
                        refine r_callO (rest := []) KE (x_shuffled_1 l D a c S hl0 hV  (nI its) (nI sd) (nI (S 19 its)) (and_f2 (by rw [tn_nI (show its < 2147483648 by omega)]; exact inB_big (by omega) (Int32.le_refl _)))) 4 gL_isDeckSo_L_shuffled rfl (by decide +kernel) rfl ⟨⟨Nat.le_of_ble_eq_true rfl, Nat.le_of_ble_eq_true rfl⟩, (by show k5 + 3 ≤ 300; omega), (by show n5 + 18 ≤ 2000; omega)⟩ rfl (Nat.le_of_ble_eq_true rfl) dL_isDeckSo_503 (fun J31 => ?_)
                        refine r_ldc K (v := -1000001) (List.mem_of_getElem? (i := 4) rfl) dL_isDeckSo_506 ?_
                        refine r_ic_neR K 613 dL_isDeckSo_508 (by decide) (fun h32 => absurd rfl h32) (fun h32 => ?_)
                        refine r_aload_n K dL_isDeckSo_511 rfl ?_
                        refine r_iload K dL_isDeckSo_512 rfl ?_
                        refine r_iconst K (-1) dL_isDeckSo_514 (by decide) ?_
                        refine r_iconst K (-1) dL_isDeckSo_515 (by decide) ?_
                        refine r_callO (rest := []) KE (x_shuffled_1 l D a c S hl0 hV  (nI its) (-1) (-1) (and_f2 (inB_neg (by decide)))) 4 gL_isDeckSo_L_shuffled rfl (by decide +kernel) rfl ⟨⟨Nat.le_of_ble_eq_true rfl, Nat.le_of_ble_eq_true rfl⟩, (by show k5 + 3 + 3 ≤ 300; omega), (by show n5 + 18 + 18 ≤ 2000; omega)⟩ rfl (Nat.le_of_ble_eq_true rfl) dL_isDeckSo_516 (fun J33 => ?_)
                        refine r_ldc K (v := -1000001) (List.mem_of_getElem? (i := 4) rfl) dL_isDeckSo_519 ?_
                        refine r_ic_neR K 613 dL_isDeckSo_521 (by decide) (fun h34 => absurd rfl h34) (fun h34 => ?_)
                        refine r_iload K dL_isDeckSo_524 rfl ?_
                        refine r_if_eq K 542 dL_isDeckSo_526 (by decide) (by omega) (fun h35 => ?_) (fun h35 => ?_)
                        ·
                          refine r_pick [0, 1, 2, 3, 4, 5, 6, 7] K rfl ?_
                          exact HM17 _ _ _ (by show k5 + 6 ≤ _; omega) (by show n5 + 36 ≤ _; omega)
                        ·
                          refine r_aload_n K dL_isDeckSo_529 rfl ?_
                          refine r_iload K dL_isDeckSo_530 rfl ?_
                          refine r_iconst K (-1) dL_isDeckSo_532 (by decide) ?_
                          refine r_iconst K (nI 0) dL_isDeckSo_533 (by decide) ?_
                          refine r_callO (rest := []) KE (x_shuffled_2 l D a c S hl0 hV  (nI its) (-1) (nI 0) (and_t (inB_nI (by omega) (by omega) (by omega)) (by rw [tn_nI (show its < 2147483648 by omega)]; exact inB_nI (by omega) (by omega) (by omega))) (by decide)) 4 gL_isDeckSo_L_shuffled rfl (by decide +kernel) rfl ⟨⟨Nat.le_of_ble_eq_true rfl, Nat.le_of_ble_eq_true rfl⟩, (by show k5 + 6 + 3 ≤ 300; omega), (by show n5 + 36 + 18 ≤ 2000; omega)⟩ rfl (Nat.le_of_ble_eq_true rfl) dL_isDeckSo_534 (fun J36 => ?_)
                          refine r_ldc K (v := -1000002) (List.mem_of_getElem? (i := 5) rfl) dL_isDeckSo_537 ?_
                          refine r_ic_neR K 613 dL_isDeckSo_539 (by decide) (fun h37 => absurd rfl h37) (fun h37 => ?_)
                          refine r_pick [0, 1, 2, 3, 4, 5, 6, 7] K rfl ?_
                          exact HM17 _ _ _ (by show k5 + 9 ≤ _; omega) (by show n5 + 54 ≤ _; omega)
                      have HM38 : ∀ (k6 : Nat) (n6 : Nat) (J6 : St), (k6 ≤ 100) → (n6 ≤ 620) → G k6 n6 (wW a b e c S J6 S K2 U [(q2, .inl (c 0, 16, .inl (ar f)))]) [(0, .ref (a 0)), (1, .ref (e 0)), (2, .ref (e 1)), (3, .ref (e 3)), (4, .int (nI its)), (5, .int x), (6, .int (nI (S 19 its))), (7, .int (nI sd)), (12, .ref q2), (14, .int (nI k12)), (15, .int (nI (fc (S 19 its)))), (16, .int (nI 0))] 294 [] := by
                        intro k6 n6 J6 hk6 hn6
                        refine r_iconst K (nI 1) dL_isDeckSo_294 (by decide) ?_
                        refine r_goto K 299 dL_isDeckSo_295 (by decide) ?_
                        refine r_istore (lv' := [(0, .ref (a 0)), (1, .ref (e 0)), (2, .ref (e 1)), (3, .ref (e 3)), (4, .int (nI its)), (5, .int x), (6, .int (nI (S 19 its))), (7, .int (nI sd)), (12, .ref q2), (14, .int (nI k12)), (15, .int (nI (fc (S 19 its)))), (16, .int (nI 0)), (17, .int (nI 1))]) K dL_isDeckSo_299 (by decide) rfl ?_
                        refine r_iconst K (nI 1) dL_isDeckSo_301 (by decide) ?_
                        refine r_istore (lv' := [(0, .ref (a 0)), (1, .ref (e 0)), (2, .ref (e 1)), (3, .ref (e 3)), (4, .int (nI its)), (5, .int x), (6, .int (nI (S 19 its))), (7, .int (nI sd)), (12, .ref q2), (14, .int (nI k12)), (15, .int (nI (fc (S 19 its)))), (16, .int (nI 0)), (17, .int (nI 1)), (18, .int (nI 1))]) K dL_isDeckSo_302 (by decide) rfl ?_
                        have LD39 : ∀ (z40 : Nat) (u : Nat) (k7 : Nat) (n7 : Nat) (J7 : St), 11 - u < z40 → (1 ≤ u ∧ u ≤ 11) → (k7 ≤ 100 + 3 * u) → (n7 ≤ 620 + 18 * u) → G k7 n7 (wW a b e c S J7 S K2 U [(q2, .inl (c 0, 16, .inl (ar f)))]) [(0, .ref (a 0)), (1, .ref (e 0)), (2, .ref (e 1)), (3, .ref (e 3)), (4, .int (nI its)), (5, .int x), (6, .int (nI (S 19 its))), (7, .int (nI sd)), (12, .ref q2), (14, .int (nI k12)), (15, .int (nI (fc (S 19 its)))), (16, .int (nI (bfN S its k12 u))), (17, .int (nI 1)), (18, .int (nI u))] 304 [] := by
                          intro z40
                          induction z40 with
                          | zero => intro u k7 n7 J7 hz hu hk7 hn7; exact absurd hz (by omega)
                          | succ z40 ih41 =>
                            intro u k7 n7 J7 hz hu hk7 hn7
                            refine r_iload K dL_isDeckSo_304 rfl ?_
                            refine r_bipush K (nI 11) dL_isDeckSo_306 (by decide) ?_
                            refine r_ic_ge K 412 dL_isDeckSo_308 (by decide) (by omega) (by decide) (fun h42 => ?_) (fun h42 => ?_)
                            ·
                              refine r_iconst K (nI 1) dL_isDeckSo_412 (by decide) ?_
                              refine r_iload K dL_isDeckSo_413 rfl ?_
                              refine r_iconst K (nI 5) dL_isDeckSo_415 (by decide) ?_
                              refine r_ishrR K dL_isDeckSo_416 ?_
                              refine r_bipush K (nI 10) dL_isDeckSo_417 (by decide) ?_
                              refine r_callS0 (rest := [.int (nI 1)]) K (c_L_low l D c (x >>> (nI 5 &&& 31)) 10 (by omega) (by omega)) 2 gL_isDeckSo_L_low rfl (by decide +kernel) rfl ⟨⟨Nat.le_of_ble_eq_true rfl, Nat.le_of_ble_eq_true rfl⟩, (by show k7 + 0 ≤ 300; omega), (by show n7 + 0 ≤ 2000; omega)⟩ rfl (Nat.le_of_ble_eq_true rfl) dL_isDeckSo_419 ?_
                              rintro _ _ ⟨k43, hk43, rfl⟩
                              refine r_iadd K dL_isDeckSo_422 ?_
                              refine r_istore (lv' := [(0, .ref (a 0)), (1, .ref (e 0)), (2, .ref (e 1)), (3, .ref (e 3)), (4, .int (nI its)), (5, .int x), (6, .int (nI (S 19 its))), (7, .int (nI sd)), (12, .ref q2), (14, .int (nI k12)), (15, .int (nI (fc (S 19 its)))), (16, .int (nI (bfN S its k12 u))), (17, .int (nI 1)), (18, .int (nI (1 + k43)))]) K dL_isDeckSo_423 (by decide) rfl ?_
                              refine r_iload K dL_isDeckSo_425 rfl ?_
                              refine r_if_eq K 488 dL_isDeckSo_427 (by decide) (by decide) (fun h45 => absurd h45 (by decide)) (fun h45 => ?_)
                              refine r_iload K dL_isDeckSo_430 rfl ?_
                              refine r_bipush K (nI 7) dL_isDeckSo_432 (by decide) ?_
                              refine r_ic_le K 455 dL_isDeckSo_434 (by decide) (by omega) (by decide) (fun h46 => ?_) (fun h46 => ?_)
                              ·
                                refine r_iload K dL_isDeckSo_455 rfl ?_
                                refine r_iconst K (nI 5) dL_isDeckSo_457 (by decide) ?_
                                refine r_ic_gt K 484 dL_isDeckSo_458 (by decide) (by omega) (by decide) (fun h47 => ?_) (fun h47 => ?_)
                                ·
                                  refine r_pick [0, 1, 2, 3, 4, 5, 6, 7] K rfl ?_
                                  exact HM28 _ _ _ (by show k7 ≤ _; omega) (by show n7 ≤ _; omega)
                                ·
                                  refine r_aload_n K dL_isDeckSo_461 rfl ?_
                                  refine r_iload K dL_isDeckSo_462 rfl ?_
                                  refine r_iload K dL_isDeckSo_464 rfl ?_
                                  refine r_iload K dL_isDeckSo_466 rfl ?_
                                  refine r_callO (rest := []) KE (w_ordersByAll_0 l D a c S hl0 hV  its k12 (1 + k43) (by omega) (by omega) (by omega) (by omega)) 4 gL_isDeckSo_L_ordersByAll rfl (by decide +kernel) rfl ⟨⟨Nat.le_of_ble_eq_true rfl, Nat.le_of_ble_eq_true rfl⟩, (by show k7 + 4 ≤ 300; omega), (by show n7 + 24 ≤ 2000; omega)⟩ rfl (Nat.le_of_ble_eq_true rfl) dL_isDeckSo_468 (fun J48 => ?_)
                                  refine r_top (congrArg nI (show _ = ordN S its k12 (1 + k43) from co_ord _ _ _ _)) ?_
                                  have ho9 := ord_le S its k12 (1 + k43)
                                  refine r_aload_n K dL_isDeckSo_471 rfl ?_
                                  refine r_iload K dL_isDeckSo_472 rfl ?_
                                  refine r_iload K dL_isDeckSo_474 rfl ?_
                                  refine r_iload K dL_isDeckSo_476 rfl ?_
                                  refine r_callO (rest := [.int (nI (ordN S its k12 (1 + k43)))]) KE (w_orders_0 l D a c S hl0 hV  its k12 (1 + k43) (by omega) (by omega) (by omega)) 4 gL_isDeckSo_L_orders rfl (by decide +kernel) rfl ⟨⟨Nat.le_of_ble_eq_true rfl, Nat.le_of_ble_eq_true rfl⟩, (by show k7 + 4 + 3 ≤ 300; omega), (by show n7 + 24 + 18 ≤ 2000; omega)⟩ rfl (Nat.le_of_ble_eq_true rfl) dL_isDeckSo_478 (fun J49 => ?_)
                                  refine r_ic_ne K 488 dL_isDeckSo_481 (by decide) (by omega) (by omega) (fun h50 => by omega) (fun h50 => ?_)
                                  refine r_pick [0, 1, 2, 3, 4, 5, 6, 7] K rfl ?_
                                  exact HM28 _ _ _ (by show k7 + 7 ≤ _; omega) (by show n7 + 42 ≤ _; omega)
                              ·
                                refine r_aload_n K dL_isDeckSo_437 rfl ?_
                                refine r_iload K dL_isDeckSo_438 rfl ?_
                                refine r_iload K dL_isDeckSo_440 rfl ?_
                                refine r_iload K dL_isDeckSo_442 rfl ?_
                                refine r_callO (rest := []) KE (w_ordersByAll_3 l D a c S hl0 hV  its k12 (1 + k43) (by omega) (by omega) (by omega) (decide_eq_false (by omega))) 4 gL_isDeckSo_L_ordersByAll rfl (by decide +kernel) rfl ⟨⟨Nat.le_of_ble_eq_true rfl, Nat.le_of_ble_eq_true rfl⟩, (by show k7 + 4 ≤ 300; omega), (by show n7 + 24 ≤ 2000; omega)⟩ rfl (Nat.le_of_ble_eq_true rfl) dL_isDeckSo_444 (fun J51 => ?_)
                                refine r_ldc K (v := -1000003) (List.mem_of_getElem? (i := 3) rfl) dL_isDeckSo_447 ?_
                                refine r_ic_neR K 488 dL_isDeckSo_449 (by decide) (fun h52 => absurd rfl h52) (fun h52 => ?_)
                                refine r_goto K 484 dL_isDeckSo_452 (by decide) ?_
                                refine r_pick [0, 1, 2, 3, 4, 5, 6, 7] K rfl ?_
                                exact HM28 _ _ _ (by show k7 + 4 ≤ _; omega) (by show n7 + 24 ≤ _; omega)
                            ·
                              refine r_iload K dL_isDeckSo_311 rfl ?_
                              refine r_if_eq K 412 dL_isDeckSo_313 (by decide) (by decide) (fun h54 => absurd h54 (by decide)) (fun h54 => ?_)
                              refine r_aload_n K dL_isDeckSo_316 rfl ?_
                              refine r_iload K dL_isDeckSo_317 rfl ?_
                              refine r_iload K dL_isDeckSo_319 rfl ?_
                              refine r_iload K dL_isDeckSo_321 rfl ?_
                              refine r_callO (rest := []) KE (w_orders_0 l D a c S hl0 hV  its k12 u (by omega) (by omega) (by omega)) 4 gL_isDeckSo_L_orders rfl (by decide +kernel) rfl ⟨⟨Nat.le_of_ble_eq_true rfl, Nat.le_of_ble_eq_true rfl⟩, (by show k7 + 3 ≤ 300; omega), (by show n7 + 18 ≤ 2000; omega)⟩ rfl (Nat.le_of_ble_eq_true rfl) dL_isDeckSo_323 (fun J55 => ?_)
                              have ho1 := ord_le S its k12 u
                              have ho2 := bf_le S its k12 u
                              have ho3 := ord_end (S := S) (d := its) (k := k12) (f := u)
                              refine r_istore (lv' := [(0, .ref (a 0)), (1, .ref (e 0)), (2, .ref (e 1)), (3, .ref (e 3)), (4, .int (nI its)), (5, .int x), (6, .int (nI (S 19 its))), (7, .int (nI sd)), (12, .ref q2), (14, .int (nI k12)), (15, .int (nI (fc (S 19 its)))), (16, .int (nI (bfN S its k12 u))), (17, .int (nI 1)), (18, .int (nI u)), (19, .int (nI (ordN S its k12 u)))]) K dL_isDeckSo_326 (by decide) rfl ?_
                              refine r_iload K dL_isDeckSo_328 rfl ?_
                              refine r_iload K dL_isDeckSo_330 rfl ?_
                              refine r_ic_lt K 399 dL_isDeckSo_332 (by decide) (by omega) (by omega) (fun h56 => by omega) (fun h56 => ?_)
                              refine r_iload K dL_isDeckSo_335 rfl ?_
                              refine r_iload K dL_isDeckSo_337 rfl ?_
                              refine r_ic_gt K 399 dL_isDeckSo_339 (by decide) (by omega) (by omega) (fun h57 => by omega) (fun h57 => ?_)
                              refine r_iload K dL_isDeckSo_342 rfl ?_
                              refine r_iload K dL_isDeckSo_344 rfl ?_
                              refine r_ic_lt K 368 dL_isDeckSo_346 (by decide) (by omega) (by omega) (fun h58 => ?_) (fun h58 => ?_)
                              ·
                                refine r_iload K dL_isDeckSo_368 rfl ?_
                                refine r_iconst K (nI 1) dL_isDeckSo_370 (by decide) ?_
                                refine r_ic_gt K 395 dL_isDeckSo_371 (by decide) (by omega) (by decide) (fun h59 => ?_) (fun h59 => ?_)
                                ·
                                  refine r_iconst K (nI 1) dL_isDeckSo_395 (by decide) ?_
                                  refine r_goto K 400 dL_isDeckSo_396 (by decide) ?_
                                  refine r_istore (lv' := [(0, .ref (a 0)), (1, .ref (e 0)), (2, .ref (e 1)), (3, .ref (e 3)), (4, .int (nI its)), (5, .int x), (6, .int (nI (S 19 its))), (7, .int (nI sd)), (12, .ref q2), (14, .int (nI k12)), (15, .int (nI (fc (S 19 its)))), (16, .int (nI (bfN S its k12 u))), (17, .int (nI 1)), (18, .int (nI u)), (19, .int (nI (ordN S its k12 u)))]) K dL_isDeckSo_400 (by decide) rfl ?_
                                  refine r_iload K dL_isDeckSo_402 rfl ?_
                                  refine r_top (congrArg nI (show _ = bfN S its k12 (u + 1) from (bf_s hu.1).symm)) ?_
                                  refine r_istore (lv' := [(0, .ref (a 0)), (1, .ref (e 0)), (2, .ref (e 1)), (3, .ref (e 3)), (4, .int (nI its)), (5, .int x), (6, .int (nI (S 19 its))), (7, .int (nI sd)), (12, .ref q2), (14, .int (nI k12)), (15, .int (nI (fc (S 19 its)))), (16, .int (nI (bfN S its k12 (u + 1)))), (17, .int (nI 1)), (18, .int (nI u)), (19, .int (nI (ordN S its k12 u)))]) K dL_isDeckSo_404 (by decide) rfl ?_
                                  refine r_iinc (lv' := [(0, .ref (a 0)), (1, .ref (e 0)), (2, .ref (e 1)), (3, .ref (e 3)), (4, .int (nI its)), (5, .int x), (6, .int (nI (S 19 its))), (7, .int (nI sd)), (12, .ref q2), (14, .int (nI k12)), (15, .int (nI (fc (S 19 its)))), (16, .int (nI (bfN S its k12 (u + 1)))), (17, .int (nI 1)), (18, .int (nI (u + 1))), (19, .int (nI (ordN S its k12 u)))]) K dL_isDeckSo_406 rfl (nI_1 _) (by decide) rfl ?_
                                  refine r_goto K 304 dL_isDeckSo_409 (by decide) ?_
                                  refine r_pick [0, 1, 2, 3, 4, 5, 6, 7, 8, 9, 10, 11, 12, 13] K rfl ?_
                                  exact ih41 (u + 1) _ _ _ (by omega) (by omega) (by show k7 + 3 ≤ _; omega) (by show n7 + 18 ≤ _; omega)
                                ·
                                  refine r_iload K dL_isDeckSo_374 rfl ?_
                                  refine r_if_eq K 395 dL_isDeckSo_376 (by decide) (by omega) (fun h60 => ?_) (fun h60 => ?_)
                                  ·
                                    refine r_iconst K (nI 1) dL_isDeckSo_395 (by decide) ?_
                                    refine r_goto K 400 dL_isDeckSo_396 (by decide) ?_
                                    refine r_istore (lv' := [(0, .ref (a 0)), (1, .ref (e 0)), (2, .ref (e 1)), (3, .ref (e 3)), (4, .int (nI its)), (5, .int x), (6, .int (nI (S 19 its))), (7, .int (nI sd)), (12, .ref q2), (14, .int (nI k12)), (15, .int (nI (fc (S 19 its)))), (16, .int (nI (bfN S its k12 u))), (17, .int (nI 1)), (18, .int (nI u)), (19, .int (nI (ordN S its k12 u)))]) K dL_isDeckSo_400 (by decide) rfl ?_
                                    refine r_iload K dL_isDeckSo_402 rfl ?_
                                    refine r_top (congrArg nI (show _ = bfN S its k12 (u + 1) from (bf_s hu.1).symm)) ?_
                                    refine r_istore (lv' := [(0, .ref (a 0)), (1, .ref (e 0)), (2, .ref (e 1)), (3, .ref (e 3)), (4, .int (nI its)), (5, .int x), (6, .int (nI (S 19 its))), (7, .int (nI sd)), (12, .ref q2), (14, .int (nI k12)), (15, .int (nI (fc (S 19 its)))), (16, .int (nI (bfN S its k12 (u + 1)))), (17, .int (nI 1)), (18, .int (nI u)), (19, .int (nI (ordN S its k12 u)))]) K dL_isDeckSo_404 (by decide) rfl ?_
                                    refine r_iinc (lv' := [(0, .ref (a 0)), (1, .ref (e 0)), (2, .ref (e 1)), (3, .ref (e 3)), (4, .int (nI its)), (5, .int x), (6, .int (nI (S 19 its))), (7, .int (nI sd)), (12, .ref q2), (14, .int (nI k12)), (15, .int (nI (fc (S 19 its)))), (16, .int (nI (bfN S its k12 (u + 1)))), (17, .int (nI 1)), (18, .int (nI (u + 1))), (19, .int (nI (ordN S its k12 u)))]) K dL_isDeckSo_406 rfl (nI_1 _) (by decide) rfl ?_
                                    refine r_goto K 304 dL_isDeckSo_409 (by decide) ?_
                                    refine r_pick [0, 1, 2, 3, 4, 5, 6, 7, 8, 9, 10, 11, 12, 13] K rfl ?_
                                    exact ih41 (u + 1) _ _ _ (by omega) (by omega) (by show k7 + 3 ≤ _; omega) (by show n7 + 18 ≤ _; omega)
                                  ·
                                    refine r_iload K dL_isDeckSo_379 rfl ?_
                                    refine r_iload K dL_isDeckSo_381 rfl ?_
                                    refine r_iload K dL_isDeckSo_383 rfl ?_
                                    refine r_idiv K dL_isDeckSo_385 (by omega) (by omega) (by omega) ?_
                                    refine r_aload K dL_isDeckSo_386 rfl ?_
                                    refine r_iload K dL_isDeckSo_388 rfl ?_
                                    refine r_ldZ (g := f) K 4 rfl (by omega) (by decide) dL_isDeckSo_390 ?_
                                    refine r_top (congrArg nI (show _ = mo S its k12 from hfkk)) ?_
                                    refine r_imul K dL_isDeckSo_391 ?_
                                    refine r_top (congrArg nI (show _ = ordN S its k12 u from (by rw [show u = 1 by omega]; exact ord_1 h60))) ?_
                                    refine r_ic_ne K 399 dL_isDeckSo_392 (by decide) (by omega) (by omega) (fun h61 => by omega) (fun h61 => ?_)
                                    refine r_iconst K (nI 1) dL_isDeckSo_395 (by decide) ?_
                                    refine r_goto K 400 dL_isDeckSo_396 (by decide) ?_
                                    refine r_istore (lv' := [(0, .ref (a 0)), (1, .ref (e 0)), (2, .ref (e 1)), (3, .ref (e 3)), (4, .int (nI its)), (5, .int x), (6, .int (nI (S 19 its))), (7, .int (nI sd)), (12, .ref q2), (14, .int (nI k12)), (15, .int (nI (fc (S 19 its)))), (16, .int (nI (bfN S its k12 u))), (17, .int (nI 1)), (18, .int (nI u)), (19, .int (nI (ordN S its k12 u)))]) K dL_isDeckSo_400 (by decide) rfl ?_
                                    refine r_iload K dL_isDeckSo_402 rfl ?_
                                    refine r_top (congrArg nI (show _ = bfN S its k12 (u + 1) from (bf_s hu.1).symm)) ?_
                                    refine r_istore (lv' := [(0, .ref (a 0)), (1, .ref (e 0)), (2, .ref (e 1)), (3, .ref (e 3)), (4, .int (nI its)), (5, .int x), (6, .int (nI (S 19 its))), (7, .int (nI sd)), (12, .ref q2), (14, .int (nI k12)), (15, .int (nI (fc (S 19 its)))), (16, .int (nI (bfN S its k12 (u + 1)))), (17, .int (nI 1)), (18, .int (nI u)), (19, .int (nI (ordN S its k12 u)))]) K dL_isDeckSo_404 (by decide) rfl ?_
                                    refine r_iinc (lv' := [(0, .ref (a 0)), (1, .ref (e 0)), (2, .ref (e 1)), (3, .ref (e 3)), (4, .int (nI its)), (5, .int x), (6, .int (nI (S 19 its))), (7, .int (nI sd)), (12, .ref q2), (14, .int (nI k12)), (15, .int (nI (fc (S 19 its)))), (16, .int (nI (bfN S its k12 (u + 1)))), (17, .int (nI 1)), (18, .int (nI (u + 1))), (19, .int (nI (ordN S its k12 u)))]) K dL_isDeckSo_406 rfl (nI_1 _) (by decide) rfl ?_
                                    refine r_goto K 304 dL_isDeckSo_409 (by decide) ?_
                                    refine r_pick [0, 1, 2, 3, 4, 5, 6, 7, 8, 9, 10, 11, 12, 13] K rfl ?_
                                    exact ih41 (u + 1) _ _ _ (by omega) (by omega) (by show k7 + 3 ≤ _; omega) (by show n7 + 18 ≤ _; omega)
                              ·
                                refine r_iload K dL_isDeckSo_349 rfl ?_
                                refine r_aload K dL_isDeckSo_351 rfl ?_
                                refine r_iload K dL_isDeckSo_353 rfl ?_
                                refine r_ldZ (g := f) K 4 rfl (by omega) (by decide) dL_isDeckSo_355 ?_
                                refine r_top (congrArg nI (show _ = mo S its k12 from hfkk)) ?_
                                refine r_if_le K 364 dL_isDeckSo_356 (by decide) (by omega) (fun h62 => ?_) (fun h62 => ?_)
                                ·
                                  refine r_iconst K (nI 0) dL_isDeckSo_364 (by decide) ?_
                                  refine r_ic_ne K 399 dL_isDeckSo_365 (by decide) (by omega) (by decide) (fun h63 => absurd (by rw [ho3 h58]; first | rw [if_pos h62] | rw [if_neg (by omega)]) h63) (fun h63 => ?_)
                                  refine r_iload K dL_isDeckSo_368 rfl ?_
                                  refine r_iconst K (nI 1) dL_isDeckSo_370 (by decide) ?_
                                  refine r_ic_gt K 395 dL_isDeckSo_371 (by decide) (by omega) (by decide) (fun h64 => ?_) (fun h64 => ?_)
                                  ·
                                    refine r_iconst K (nI 1) dL_isDeckSo_395 (by decide) ?_
                                    refine r_goto K 400 dL_isDeckSo_396 (by decide) ?_
                                    refine r_istore (lv' := [(0, .ref (a 0)), (1, .ref (e 0)), (2, .ref (e 1)), (3, .ref (e 3)), (4, .int (nI its)), (5, .int x), (6, .int (nI (S 19 its))), (7, .int (nI sd)), (12, .ref q2), (14, .int (nI k12)), (15, .int (nI (fc (S 19 its)))), (16, .int (nI (bfN S its k12 u))), (17, .int (nI 1)), (18, .int (nI u)), (19, .int (nI (ordN S its k12 u)))]) K dL_isDeckSo_400 (by decide) rfl ?_
                                    refine r_iload K dL_isDeckSo_402 rfl ?_
                                    refine r_top (congrArg nI (show _ = bfN S its k12 (u + 1) from (bf_s hu.1).symm)) ?_
                                    refine r_istore (lv' := [(0, .ref (a 0)), (1, .ref (e 0)), (2, .ref (e 1)), (3, .ref (e 3)), (4, .int (nI its)), (5, .int x), (6, .int (nI (S 19 its))), (7, .int (nI sd)), (12, .ref q2), (14, .int (nI k12)), (15, .int (nI (fc (S 19 its)))), (16, .int (nI (bfN S its k12 (u + 1)))), (17, .int (nI 1)), (18, .int (nI u)), (19, .int (nI (ordN S its k12 u)))]) K dL_isDeckSo_404 (by decide) rfl ?_
                                    refine r_iinc (lv' := [(0, .ref (a 0)), (1, .ref (e 0)), (2, .ref (e 1)), (3, .ref (e 3)), (4, .int (nI its)), (5, .int x), (6, .int (nI (S 19 its))), (7, .int (nI sd)), (12, .ref q2), (14, .int (nI k12)), (15, .int (nI (fc (S 19 its)))), (16, .int (nI (bfN S its k12 (u + 1)))), (17, .int (nI 1)), (18, .int (nI (u + 1))), (19, .int (nI (ordN S its k12 u)))]) K dL_isDeckSo_406 rfl (nI_1 _) (by decide) rfl ?_
                                    refine r_goto K 304 dL_isDeckSo_409 (by decide) ?_
                                    refine r_pick [0, 1, 2, 3, 4, 5, 6, 7, 8, 9, 10, 11, 12, 13] K rfl ?_
                                    exact ih41 (u + 1) _ _ _ (by omega) (by omega) (by show k7 + 3 ≤ _; omega) (by show n7 + 18 ≤ _; omega)
                                  ·
                                    refine r_iload K dL_isDeckSo_374 rfl ?_
                                    refine r_if_eq K 395 dL_isDeckSo_376 (by decide) (by omega) (fun h65 => ?_) (fun h65 => ?_)
                                    ·
                                      refine r_iconst K (nI 1) dL_isDeckSo_395 (by decide) ?_
                                      refine r_goto K 400 dL_isDeckSo_396 (by decide) ?_
                                      refine r_istore (lv' := [(0, .ref (a 0)), (1, .ref (e 0)), (2, .ref (e 1)), (3, .ref (e 3)), (4, .int (nI its)), (5, .int x), (6, .int (nI (S 19 its))), (7, .int (nI sd)), (12, .ref q2), (14, .int (nI k12)), (15, .int (nI (fc (S 19 its)))), (16, .int (nI (bfN S its k12 u))), (17, .int (nI 1)), (18, .int (nI u)), (19, .int (nI (ordN S its k12 u)))]) K dL_isDeckSo_400 (by decide) rfl ?_
                                      refine r_iload K dL_isDeckSo_402 rfl ?_
                                      refine r_top (congrArg nI (show _ = bfN S its k12 (u + 1) from (bf_s hu.1).symm)) ?_
                                      refine r_istore (lv' := [(0, .ref (a 0)), (1, .ref (e 0)), (2, .ref (e 1)), (3, .ref (e 3)), (4, .int (nI its)), (5, .int x), (6, .int (nI (S 19 its))), (7, .int (nI sd)), (12, .ref q2), (14, .int (nI k12)), (15, .int (nI (fc (S 19 its)))), (16, .int (nI (bfN S its k12 (u + 1)))), (17, .int (nI 1)), (18, .int (nI u)), (19, .int (nI (ordN S its k12 u)))]) K dL_isDeckSo_404 (by decide) rfl ?_
                                      refine r_iinc (lv' := [(0, .ref (a 0)), (1, .ref (e 0)), (2, .ref (e 1)), (3, .ref (e 3)), (4, .int (nI its)), (5, .int x), (6, .int (nI (S 19 its))), (7, .int (nI sd)), (12, .ref q2), (14, .int (nI k12)), (15, .int (nI (fc (S 19 its)))), (16, .int (nI (bfN S its k12 (u + 1)))), (17, .int (nI 1)), (18, .int (nI (u + 1))), (19, .int (nI (ordN S its k12 u)))]) K dL_isDeckSo_406 rfl (nI_1 _) (by decide) rfl ?_
                                      refine r_goto K 304 dL_isDeckSo_409 (by decide) ?_
                                      refine r_pick [0, 1, 2, 3, 4, 5, 6, 7, 8, 9, 10, 11, 12, 13] K rfl ?_
                                      exact ih41 (u + 1) _ _ _ (by omega) (by omega) (by show k7 + 3 ≤ _; omega) (by show n7 + 18 ≤ _; omega)
                                    ·
                                      refine r_iload K dL_isDeckSo_379 rfl ?_
                                      refine r_iload K dL_isDeckSo_381 rfl ?_
                                      refine r_iload K dL_isDeckSo_383 rfl ?_
                                      refine r_idiv K dL_isDeckSo_385 (by omega) (by omega) (by omega) ?_
                                      refine r_aload K dL_isDeckSo_386 rfl ?_
                                      refine r_iload K dL_isDeckSo_388 rfl ?_
                                      refine r_ldZ (g := f) K 4 rfl (by omega) (by decide) dL_isDeckSo_390 ?_
                                      refine r_top (congrArg nI (show _ = mo S its k12 from hfkk)) ?_
                                      refine r_imul K dL_isDeckSo_391 ?_
                                      refine r_top (congrArg nI (show _ = ordN S its k12 u from (by rw [show u = 1 by omega]; exact ord_1 h65))) ?_
                                      refine r_ic_ne K 399 dL_isDeckSo_392 (by decide) (by omega) (by omega) (fun h66 => by omega) (fun h66 => ?_)
                                      refine r_iconst K (nI 1) dL_isDeckSo_395 (by decide) ?_
                                      refine r_goto K 400 dL_isDeckSo_396 (by decide) ?_
                                      refine r_istore (lv' := [(0, .ref (a 0)), (1, .ref (e 0)), (2, .ref (e 1)), (3, .ref (e 3)), (4, .int (nI its)), (5, .int x), (6, .int (nI (S 19 its))), (7, .int (nI sd)), (12, .ref q2), (14, .int (nI k12)), (15, .int (nI (fc (S 19 its)))), (16, .int (nI (bfN S its k12 u))), (17, .int (nI 1)), (18, .int (nI u)), (19, .int (nI (ordN S its k12 u)))]) K dL_isDeckSo_400 (by decide) rfl ?_
                                      refine r_iload K dL_isDeckSo_402 rfl ?_
                                      refine r_top (congrArg nI (show _ = bfN S its k12 (u + 1) from (bf_s hu.1).symm)) ?_
                                      refine r_istore (lv' := [(0, .ref (a 0)), (1, .ref (e 0)), (2, .ref (e 1)), (3, .ref (e 3)), (4, .int (nI its)), (5, .int x), (6, .int (nI (S 19 its))), (7, .int (nI sd)), (12, .ref q2), (14, .int (nI k12)), (15, .int (nI (fc (S 19 its)))), (16, .int (nI (bfN S its k12 (u + 1)))), (17, .int (nI 1)), (18, .int (nI u)), (19, .int (nI (ordN S its k12 u)))]) K dL_isDeckSo_404 (by decide) rfl ?_
                                      refine r_iinc (lv' := [(0, .ref (a 0)), (1, .ref (e 0)), (2, .ref (e 1)), (3, .ref (e 3)), (4, .int (nI its)), (5, .int x), (6, .int (nI (S 19 its))), (7, .int (nI sd)), (12, .ref q2), (14, .int (nI k12)), (15, .int (nI (fc (S 19 its)))), (16, .int (nI (bfN S its k12 (u + 1)))), (17, .int (nI 1)), (18, .int (nI (u + 1))), (19, .int (nI (ordN S its k12 u)))]) K dL_isDeckSo_406 rfl (nI_1 _) (by decide) rfl ?_
                                      refine r_goto K 304 dL_isDeckSo_409 (by decide) ?_
                                      refine r_pick [0, 1, 2, 3, 4, 5, 6, 7, 8, 9, 10, 11, 12, 13] K rfl ?_
                                      exact ih41 (u + 1) _ _ _ (by omega) (by omega) (by show k7 + 3 ≤ _; omega) (by show n7 + 18 ≤ _; omega)
                                ·
                                  refine r_iload K dL_isDeckSo_359 rfl ?_
                                  refine r_goto K 365 dL_isDeckSo_361 (by decide) ?_
                                  refine r_ic_ne K 399 dL_isDeckSo_365 (by decide) (by omega) (by omega) (fun h67 => absurd (by rw [ho3 h58]; first | rw [if_pos h62] | rw [if_neg (by omega)]) h67) (fun h67 => ?_)
                                  refine r_iload K dL_isDeckSo_368 rfl ?_
                                  refine r_iconst K (nI 1) dL_isDeckSo_370 (by decide) ?_
                                  refine r_ic_gt K 395 dL_isDeckSo_371 (by decide) (by omega) (by decide) (fun h68 => ?_) (fun h68 => ?_)
                                  ·
                                    refine r_iconst K (nI 1) dL_isDeckSo_395 (by decide) ?_
                                    refine r_goto K 400 dL_isDeckSo_396 (by decide) ?_
                                    refine r_istore (lv' := [(0, .ref (a 0)), (1, .ref (e 0)), (2, .ref (e 1)), (3, .ref (e 3)), (4, .int (nI its)), (5, .int x), (6, .int (nI (S 19 its))), (7, .int (nI sd)), (12, .ref q2), (14, .int (nI k12)), (15, .int (nI (fc (S 19 its)))), (16, .int (nI (bfN S its k12 u))), (17, .int (nI 1)), (18, .int (nI u)), (19, .int (nI (ordN S its k12 u)))]) K dL_isDeckSo_400 (by decide) rfl ?_
                                    refine r_iload K dL_isDeckSo_402 rfl ?_
                                    refine r_top (congrArg nI (show _ = bfN S its k12 (u + 1) from (bf_s hu.1).symm)) ?_
                                    refine r_istore (lv' := [(0, .ref (a 0)), (1, .ref (e 0)), (2, .ref (e 1)), (3, .ref (e 3)), (4, .int (nI its)), (5, .int x), (6, .int (nI (S 19 its))), (7, .int (nI sd)), (12, .ref q2), (14, .int (nI k12)), (15, .int (nI (fc (S 19 its)))), (16, .int (nI (bfN S its k12 (u + 1)))), (17, .int (nI 1)), (18, .int (nI u)), (19, .int (nI (ordN S its k12 u)))]) K dL_isDeckSo_404 (by decide) rfl ?_
                                    refine r_iinc (lv' := [(0, .ref (a 0)), (1, .ref (e 0)), (2, .ref (e 1)), (3, .ref (e 3)), (4, .int (nI its)), (5, .int x), (6, .int (nI (S 19 its))), (7, .int (nI sd)), (12, .ref q2), (14, .int (nI k12)), (15, .int (nI (fc (S 19 its)))), (16, .int (nI (bfN S its k12 (u + 1)))), (17, .int (nI 1)), (18, .int (nI (u + 1))), (19, .int (nI (ordN S its k12 u)))]) K dL_isDeckSo_406 rfl (nI_1 _) (by decide) rfl ?_
                                    refine r_goto K 304 dL_isDeckSo_409 (by decide) ?_
                                    refine r_pick [0, 1, 2, 3, 4, 5, 6, 7, 8, 9, 10, 11, 12, 13] K rfl ?_
                                    exact ih41 (u + 1) _ _ _ (by omega) (by omega) (by show k7 + 3 ≤ _; omega) (by show n7 + 18 ≤ _; omega)
                                  ·
                                    refine r_iload K dL_isDeckSo_374 rfl ?_
                                    refine r_if_eq K 395 dL_isDeckSo_376 (by decide) (by omega) (fun h69 => ?_) (fun h69 => ?_)
                                    ·
                                      refine r_iconst K (nI 1) dL_isDeckSo_395 (by decide) ?_
                                      refine r_goto K 400 dL_isDeckSo_396 (by decide) ?_
                                      refine r_istore (lv' := [(0, .ref (a 0)), (1, .ref (e 0)), (2, .ref (e 1)), (3, .ref (e 3)), (4, .int (nI its)), (5, .int x), (6, .int (nI (S 19 its))), (7, .int (nI sd)), (12, .ref q2), (14, .int (nI k12)), (15, .int (nI (fc (S 19 its)))), (16, .int (nI (bfN S its k12 u))), (17, .int (nI 1)), (18, .int (nI u)), (19, .int (nI (ordN S its k12 u)))]) K dL_isDeckSo_400 (by decide) rfl ?_
                                      refine r_iload K dL_isDeckSo_402 rfl ?_
                                      refine r_top (congrArg nI (show _ = bfN S its k12 (u + 1) from (bf_s hu.1).symm)) ?_
                                      refine r_istore (lv' := [(0, .ref (a 0)), (1, .ref (e 0)), (2, .ref (e 1)), (3, .ref (e 3)), (4, .int (nI its)), (5, .int x), (6, .int (nI (S 19 its))), (7, .int (nI sd)), (12, .ref q2), (14, .int (nI k12)), (15, .int (nI (fc (S 19 its)))), (16, .int (nI (bfN S its k12 (u + 1)))), (17, .int (nI 1)), (18, .int (nI u)), (19, .int (nI (ordN S its k12 u)))]) K dL_isDeckSo_404 (by decide) rfl ?_
                                      refine r_iinc (lv' := [(0, .ref (a 0)), (1, .ref (e 0)), (2, .ref (e 1)), (3, .ref (e 3)), (4, .int (nI its)), (5, .int x), (6, .int (nI (S 19 its))), (7, .int (nI sd)), (12, .ref q2), (14, .int (nI k12)), (15, .int (nI (fc (S 19 its)))), (16, .int (nI (bfN S its k12 (u + 1)))), (17, .int (nI 1)), (18, .int (nI (u + 1))), (19, .int (nI (ordN S its k12 u)))]) K dL_isDeckSo_406 rfl (nI_1 _) (by decide) rfl ?_
                                      refine r_goto K 304 dL_isDeckSo_409 (by decide) ?_
                                      refine r_pick [0, 1, 2, 3, 4, 5, 6, 7, 8, 9, 10, 11, 12, 13] K rfl ?_
                                      exact ih41 (u + 1) _ _ _ (by omega) (by omega) (by show k7 + 3 ≤ _; omega) (by show n7 + 18 ≤ _; omega)
                                    ·
                                      refine r_iload K dL_isDeckSo_379 rfl ?_
                                      refine r_iload K dL_isDeckSo_381 rfl ?_
                                      refine r_iload K dL_isDeckSo_383 rfl ?_
                                      refine r_idiv K dL_isDeckSo_385 (by omega) (by omega) (by omega) ?_
                                      refine r_aload K dL_isDeckSo_386 rfl ?_
                                      refine r_iload K dL_isDeckSo_388 rfl ?_
                                      refine r_ldZ (g := f) K 4 rfl (by omega) (by decide) dL_isDeckSo_390 ?_
                                      refine r_top (congrArg nI (show _ = mo S its k12 from hfkk)) ?_
                                      refine r_imul K dL_isDeckSo_391 ?_
                                      refine r_top (congrArg nI (show _ = ordN S its k12 u from (by rw [show u = 1 by omega]; exact ord_1 h69))) ?_
                                      refine r_ic_ne K 399 dL_isDeckSo_392 (by decide) (by omega) (by omega) (fun h70 => by omega) (fun h70 => ?_)
                                      refine r_iconst K (nI 1) dL_isDeckSo_395 (by decide) ?_
                                      refine r_goto K 400 dL_isDeckSo_396 (by decide) ?_
                                      refine r_istore (lv' := [(0, .ref (a 0)), (1, .ref (e 0)), (2, .ref (e 1)), (3, .ref (e 3)), (4, .int (nI its)), (5, .int x), (6, .int (nI (S 19 its))), (7, .int (nI sd)), (12, .ref q2), (14, .int (nI k12)), (15, .int (nI (fc (S 19 its)))), (16, .int (nI (bfN S its k12 u))), (17, .int (nI 1)), (18, .int (nI u)), (19, .int (nI (ordN S its k12 u)))]) K dL_isDeckSo_400 (by decide) rfl ?_
                                      refine r_iload K dL_isDeckSo_402 rfl ?_
                                      refine r_top (congrArg nI (show _ = bfN S its k12 (u + 1) from (bf_s hu.1).symm)) ?_
                                      refine r_istore (lv' := [(0, .ref (a 0)), (1, .ref (e 0)), (2, .ref (e 1)), (3, .ref (e 3)), (4, .int (nI its)), (5, .int x), (6, .int (nI (S 19 its))), (7, .int (nI sd)), (12, .ref q2), (14, .int (nI k12)), (15, .int (nI (fc (S 19 its)))), (16, .int (nI (bfN S its k12 (u + 1)))), (17, .int (nI 1)), (18, .int (nI u)), (19, .int (nI (ordN S its k12 u)))]) K dL_isDeckSo_404 (by decide) rfl ?_
                                      refine r_iinc (lv' := [(0, .ref (a 0)), (1, .ref (e 0)), (2, .ref (e 1)), (3, .ref (e 3)), (4, .int (nI its)), (5, .int x), (6, .int (nI (S 19 its))), (7, .int (nI sd)), (12, .ref q2), (14, .int (nI k12)), (15, .int (nI (fc (S 19 its)))), (16, .int (nI (bfN S its k12 (u + 1)))), (17, .int (nI 1)), (18, .int (nI (u + 1))), (19, .int (nI (ordN S its k12 u)))]) K dL_isDeckSo_406 rfl (nI_1 _) (by decide) rfl ?_
                                      refine r_goto K 304 dL_isDeckSo_409 (by decide) ?_
                                      refine r_pick [0, 1, 2, 3, 4, 5, 6, 7, 8, 9, 10, 11, 12, 13] K rfl ?_
                                      exact ih41 (u + 1) _ _ _ (by omega) (by omega) (by show k7 + 3 ≤ _; omega) (by show n7 + 18 ≤ _; omega)
                        exact LD39 12 1 _ _ _ (by omega) (by omega) (by show k6 ≤ _; omega) (by show n6 ≤ _; omega)
                      refine r_iconst K (nI 0) dL_isDeckSo_265 (by decide) ?_
                      refine r_istore (lv' := [(0, .ref (a 0)), (1, .ref (e 0)), (2, .ref (e 1)), (3, .ref (e 3)), (4, .int (nI its)), (5, .int x), (6, .int (nI (S 19 its))), (7, .int (nI sd)), (8, .long (lN sb)), (10, .long (lN 0)), (12, .ref q2), (13, .int (nI ((alw S its).toNat))), (14, .int (nI k12)), (15, .int (nI (fc (S 19 its)))), (16, .int (nI 0))]) K dL_isDeckSo_266 (by decide) rfl ?_
                      refine r_lload K dL_isDeckSo_268 rfl ?_
                      refine r_lconst K (lN 0) dL_isDeckSo_270 (by decide) ?_
                      refine r_lcmpR K dL_isDeckSo_271 ?_
                      refine r_top (lcmp_0 _) ?_
                      refine r_if_ne K 298 dL_isDeckSo_272 (by decide) (by decide) (fun h72 => absurd h72 (by decide)) (fun h72 => ?_)
                      refine r_aload_n K dL_isDeckSo_275 rfl ?_
                      refine r_iload K dL_isDeckSo_276 rfl ?_
                      refine r_callO (rest := []) KE (w_isAllowed_0 l D a c S hl0 hV  its (by omega)) 2 gL_isDeckSo_L_isAllowed rfl (by decide +kernel) rfl ⟨⟨Nat.le_of_ble_eq_true rfl, Nat.le_of_ble_eq_true rfl⟩, (by show k3 + 1 ≤ 300; omega), (by show n3 + 6 ≤ 2000; omega)⟩ rfl (Nat.le_of_ble_eq_true rfl) dL_isDeckSo_278 (fun J73 => ?_)
                      refine r_iload K dL_isDeckSo_281 rfl ?_
                      refine r_if_eqB K 290 dL_isDeckSo_283 (by decide) (fun h74 => ?_) (fun h74 => ?_)
                      ·
                        refine r_iconst K (nI 0) dL_isDeckSo_290 (by decide) ?_
                        refine r_ic_ne K 298 dL_isDeckSo_291 (by decide) (Nat.lt_trans (toNat_lt2 _) (by decide)) (by decide) (fun h75 => absurd (by rw [h74]; rfl) h75) (fun h75 => ?_)
                        refine r_pick [0, 1, 2, 3, 4, 5, 6, 7, 10, 12, 13, 14] K rfl ?_
                        exact HM38 _ _ _ (by show k3 + 1 ≤ _; omega) (by show n3 + 6 ≤ _; omega)
                      ·
                        refine r_iconst K (nI 1) dL_isDeckSo_286 (by decide) ?_
                        refine r_goto K 291 dL_isDeckSo_287 (by decide) ?_
                        refine r_ic_ne K 298 dL_isDeckSo_291 (by decide) (Nat.lt_trans (toNat_lt2 _) (by decide)) (by decide) (fun h76 => absurd (by rw [h74]; rfl) h76) (fun h76 => ?_)
                        refine r_pick [0, 1, 2, 3, 4, 5, 6, 7, 10, 12, 13, 14] K rfl ?_
                        exact HM38 _ _ _ (by show k3 + 1 ≤ _; omega) (by show n3 + 6 ≤ _; omega)
                    ·
                      refine r_iload K dL_isDeckSo_252 rfl ?_
                      refine r_iload K dL_isDeckSo_254 rfl ?_
                      refine r_imul K dL_isDeckSo_256 ?_
                      refine r_top (congrArg nI (show _ = fc (t + 1) from (by rw [fc_s, Nat.mul_comm]))) ?_
                      refine r_istore (lv' := [(0, .ref (a 0)), (1, .ref (e 0)), (2, .ref (e 1)), (3, .ref (e 3)), (4, .int (nI its)), (5, .int x), (6, .int (nI (S 19 its))), (7, .int (nI sd)), (8, .long (lN sb)), (10, .long (lN (i - cnt (fun t => sb.testBit t) j))), (12, .ref q2), (13, .int (nI ((alw S its).toNat))), (14, .int (nI k12)), (15, .int (nI (fc (t + 1)))), (16, .int (nI (t + 1)))]) K dL_isDeckSo_257 (by decide) rfl ?_
                      refine r_iinc (lv' := [(0, .ref (a 0)), (1, .ref (e 0)), (2, .ref (e 1)), (3, .ref (e 3)), (4, .int (nI its)), (5, .int x), (6, .int (nI (S 19 its))), (7, .int (nI sd)), (8, .long (lN sb)), (10, .long (lN (i - cnt (fun t => sb.testBit t) j))), (12, .ref q2), (13, .int (nI ((alw S its).toNat))), (14, .int (nI k12)), (15, .int (nI (fc (t + 1)))), (16, .int (nI (t + 1 + 1)))]) K dL_isDeckSo_259 rfl (nI_1 _) (by decide) rfl ?_
                      refine r_goto K 245 dL_isDeckSo_262 (by decide) ?_
                      exact ih15 (t + 1) _ _ _ (by omega) (by omega) (by show k3 ≤ _; omega) (by show n3 ≤ _; omega)
                exact LC13 12 1 _ _ _ (by omega) (by omega) (by show k2 ≤ _; omega) (by show n2 ≤ _; omega)
              ·
                refine r_lload K dL_isDeckSo_212 rfl ?_
                refine r_lload K dL_isDeckSo_214 rfl ?_
                refine r_iload K dL_isDeckSo_216 rfl ?_
                refine r_lshr (v := lN (sb / 2 ^ j)) K dL_isDeckSo_218 (lN_shr hsl2 (by omega)) ?_
                refine r_lconst K (lN 1) dL_isDeckSo_219 (by decide) ?_
                refine r_land (v := lN ((sb.testBit j).toNat)) K dL_isDeckSo_220 (lN_bit _ _) ?_
                have hbs := bit_step hsb.1 (show j < 60 by omega)
                refine r_lsub K dL_isDeckSo_221 hbs.1 ?_
                refine r_topL (congrArg lN (show _ = i - cnt (fun t => sb.testBit t) (j + 1) from hbs.2)) ?_
                refine r_lstore (lv' := [(0, .ref (a 0)), (1, .ref (e 0)), (2, .ref (e 1)), (3, .ref (e 3)), (4, .int (nI its)), (5, .int x), (6, .int (nI (S 19 its))), (7, .int (nI sd)), (8, .long (lN sb)), (10, .long (lN (i - cnt (fun t => sb.testBit t) (j + 1)))), (12, .ref q2), (13, .int (nI ((alw S its).toNat))), (14, .int (nI j))]) K dL_isDeckSo_222 (by decide) rfl ?_
                refine r_iinc (lv' := [(0, .ref (a 0)), (1, .ref (e 0)), (2, .ref (e 1)), (3, .ref (e 3)), (4, .int (nI its)), (5, .int x), (6, .int (nI (S 19 its))), (7, .int (nI sd)), (8, .long (lN sb)), (10, .long (lN (i - cnt (fun t => sb.testBit t) (j + 1)))), (12, .ref q2), (13, .int (nI ((alw S its).toNat))), (14, .int (nI (j + 1)))]) K dL_isDeckSo_224 rfl (nI_1 _) (by decide) rfl ?_
                refine r_goto K 205 dL_isDeckSo_227 (by decide) ?_
                exact ih10 (j + 1) _ _ _ (by omega) (by omega) (by show k2 ≤ _; omega) (by show n2 ≤ _; omega)
          exact LB8 61 0 _ _ _ (by omega) (by omega) (by show k1 ≤ _; omega) (by show n1 ≤ _; omega)
        ·
          have hi2 : i < S 19 its := by omega
          have hcd := rel_shuf hR (s := sd) hit hi2
          have h16 := rel_no_le hR hcd
          have h15 := V_kind hV (shuf S its sd i)
          have hfi : f (S 15 (shuf S its sd i)) ≤ 10 := by rw [hf]; exact Nat.le_trans (cnt_le _ _) (by omega)
          refine r_aload_n K dL_isDeckSo_54 rfl ?_
          refine r_iload K dL_isDeckSo_55 rfl ?_
          refine r_iload K dL_isDeckSo_57 rfl ?_
          refine r_iload K dL_isDeckSo_59 rfl ?_
          refine r_callO (rest := []) KE (w_shuffled_0 l D a c S hl0 hV  its sd i (by omega) (by omega) (by omega)) 4 gL_isDeckSo_L_shuffled rfl (by decide +kernel) rfl ⟨⟨Nat.le_of_ble_eq_true rfl, Nat.le_of_ble_eq_true rfl⟩, (by show k1 + 3 ≤ 300; omega), (by show n1 + 18 ≤ 2000; omega)⟩ rfl (Nat.le_of_ble_eq_true rfl) dL_isDeckSo_61 (fun J77 => ?_)
          refine r_istore (lv' := [(0, .ref (a 0)), (1, .ref (e 0)), (2, .ref (e 1)), (3, .ref (e 3)), (4, .int (nI its)), (5, .int x), (6, .int (nI (S 19 its))), (7, .int (nI sd)), (8, .long (lN (sbN S its sd i))), (10, .long (lN i)), (12, .ref q2), (13, .int (nI ((alR S its sd i).toNat))), (14, .int (nI i)), (15, .int (nI (shuf S its sd i)))]) K dL_isDeckSo_64 (by decide) rfl ?_
          refine r_iload K dL_isDeckSo_66 rfl ?_
          refine r_if_lt K 79 dL_isDeckSo_68 (by decide) (by omega) (fun h78 => by omega) (fun h78 => ?_)
          refine r_iload K dL_isDeckSo_71 rfl ?_
          refine r_aload_n K dL_isDeckSo_73 rfl ?_
          refine r_iconst K (nI 0) dL_isDeckSo_74 (by decide) ?_
          refine r_ldZ K 3 (zX_g3 _ _ _ _) (by omega) (by decide) dL_isDeckSo_75 ?_
          refine r_top (congrArg nI (show _ = S 2 0 from hg0)) ?_
          refine r_ic_lt K 81 dL_isDeckSo_76 (by decide) (by omega) (by omega) (fun h79 => ?_) (fun h79 => by omega)
          refine r_lload K dL_isDeckSo_81 rfl ?_
          refine r_iload K dL_isDeckSo_83 rfl ?_
          refine r_bipush K (nI 60) dL_isDeckSo_85 (by decide) ?_
          refine r_ic_ge K 97 dL_isDeckSo_87 (by decide) (by omega) (by decide) (fun h80 => by omega) (fun h80 => ?_)
          refine r_lconst K (lN 1) dL_isDeckSo_90 (by decide) ?_
          refine r_iload K dL_isDeckSo_91 rfl ?_
          refine r_lshl (v := lN (2 ^ (shuf S its sd i))) K dL_isDeckSo_93 (lshl_1 _ (by omega)) ?_
          refine r_goto K 98 dL_isDeckSo_94 (by decide) ?_
          refine r_lor (v := lN (sbN S its sd i ||| (2 ^ (shuf S its sd i)))) K dL_isDeckSo_98 (lN_or _ _) ?_
          refine r_lstore (lv' := [(0, .ref (a 0)), (1, .ref (e 0)), (2, .ref (e 1)), (3, .ref (e 3)), (4, .int (nI its)), (5, .int x), (6, .int (nI (S 19 its))), (7, .int (nI sd)), (8, .long (lN (sbN S its sd i ||| (2 ^ (shuf S its sd i))))), (10, .long (lN i)), (12, .ref q2), (13, .int (nI ((alR S its sd i).toNat))), (14, .int (nI i)), (15, .int (nI (shuf S its sd i)))]) K dL_isDeckSo_99 (by decide) rfl ?_
          refine r_lload K dL_isDeckSo_101 rfl ?_
          refine r_iload K dL_isDeckSo_103 rfl ?_
          refine r_bipush K (nI 60) dL_isDeckSo_105 (by decide) ?_
          refine r_ic_ge K 114 dL_isDeckSo_107 (by decide) (by omega) (by decide) (fun h81 => by omega) (fun h81 => ?_)
          refine r_lconst K (lN 1) dL_isDeckSo_110 (by decide) ?_
          refine r_goto K 115 dL_isDeckSo_111 (by decide) ?_
          refine r_ladd K dL_isDeckSo_115 ?_
          refine r_lstore (lv' := [(0, .ref (a 0)), (1, .ref (e 0)), (2, .ref (e 1)), (3, .ref (e 3)), (4, .int (nI its)), (5, .int x), (6, .int (nI (S 19 its))), (7, .int (nI sd)), (8, .long (lN (sbN S its sd i ||| (2 ^ (shuf S its sd i))))), (10, .long (lN (i + 1))), (12, .ref q2), (13, .int (nI ((alR S its sd i).toNat))), (14, .int (nI i)), (15, .int (nI (shuf S its sd i)))]) K dL_isDeckSo_116 (by decide) rfl ?_
          refine r_aload K dL_isDeckSo_118 rfl ?_
          refine r_aload_n K dL_isDeckSo_120 rfl ?_
          refine r_iload K dL_isDeckSo_121 rfl ?_
          refine r_callO (rest := [.ref q2]) KE (w_printOf_0 l D a c S hl0 hV  (shuf S its sd i) (by omega)) 2 gL_isDeckSo_L_printOf rfl (by decide +kernel) rfl ⟨⟨Nat.le_of_ble_eq_true rfl, Nat.le_of_ble_eq_true rfl⟩, (by show k1 + 3 + 1 ≤ 300; omega), (by show n1 + 18 + 6 ≤ 2000; omega)⟩ rfl (Nat.le_of_ble_eq_true rfl) dL_isDeckSo_123 (fun J82 => ?_)
          refine r_bipush K (nI 100) dL_isDeckSo_126 (by decide) ?_
          refine r_idiv K dL_isDeckSo_128 (by omega) (by omega) (by omega) ?_
          refine r_top (congrArg nI (show _ = S 15 (shuf S its sd i) from (by omega))) ?_
          refine r_dup2 K dL_isDeckSo_129 rfl rfl ?_
          refine r_ldZ (g := f) K 4 rfl (by omega) (by decide) dL_isDeckSo_130 ?_
          refine r_iconst K (nI 1) dL_isDeckSo_131 (by decide) ?_
          refine r_iadd K dL_isDeckSo_132 ?_
          refine r_stZ (g := f) (x' := [(q2, .inl (c 0, 16, .inl (ar (upf f (S 15 (shuf S its sd i)) (f (S 15 (shuf S its sd i)) + 1)))))]) K 4 rfl (by omega) (by decide) dL_isDeckSo_133 rfl ?_
          obtain ⟨f83, hf83⟩ : ∃ X : Nat → Nat, X = upf f (S 15 (shuf S its sd i)) (f (S 15 (shuf S its sd i)) + 1) := ⟨_, rfl⟩
          rw [← hf83]
          have hst := sk_step hf
          rw [← hf83] at hst
          have hfk := hst (S 15 (shuf S its sd i))
          have hfb := cnt_le (skB S its sd (S 15 (shuf S its sd i))) (i + 1)
          have h17b := V_b hV 17 (shuf S its sd i)
          have h18b := V_b hV 18 its
          have h12b := V_b hV 12 (S 15 (shuf S its sd i))
          refine r_iload K dL_isDeckSo_134 rfl ?_
          refine r_if_eqB K 193 dL_isDeckSo_136 (by decide) (fun h84 => ?_) (fun h84 => ?_)
          ·
            refine r_iconst K (nI 0) dL_isDeckSo_193 (by decide) ?_
            refine r_top (congrArg nI (show _ = (alR S its sd (i + 1)).toNat from (by rw [alR_n0 h84]; rfl))) ?_
            refine r_istore (lv' := [(0, .ref (a 0)), (1, .ref (e 0)), (2, .ref (e 1)), (3, .ref (e 3)), (4, .int (nI its)), (5, .int x), (6, .int (nI (S 19 its))), (7, .int (nI sd)), (8, .long (lN (sbN S its sd i ||| (2 ^ (shuf S its sd i))))), (10, .long (lN (i + 1))), (12, .ref q2), (13, .int (nI ((alR S its sd (i + 1)).toNat))), (14, .int (nI i)), (15, .int (nI (shuf S its sd i)))]) K dL_isDeckSo_194 (by decide) rfl ?_
            refine r_iinc (lv' := [(0, .ref (a 0)), (1, .ref (e 0)), (2, .ref (e 1)), (3, .ref (e 3)), (4, .int (nI its)), (5, .int x), (6, .int (nI (S 19 its))), (7, .int (nI sd)), (8, .long (lN (sbN S its sd i ||| (2 ^ (shuf S its sd i))))), (10, .long (lN (i + 1))), (12, .ref q2), (13, .int (nI ((alR S its sd (i + 1)).toNat))), (14, .int (nI (i + 1))), (15, .int (nI (shuf S its sd i)))]) K dL_isDeckSo_196 rfl (nI_1 _) (by decide) rfl ?_
            refine r_goto K 47 dL_isDeckSo_199 (by decide) ?_
            refine r_pick [0, 1, 2, 3, 4, 5, 6, 7, 8, 9, 10, 11, 12] K rfl ?_
            exact ih6 (i + 1) _ _ _ _ (by omega) (by omega) hst (by show k1 + 4 ≤ _; omega) (by show n1 + 24 ≤ _; omega)
          ·
            refine r_aload_n K dL_isDeckSo_139 rfl ?_
            refine r_iload K dL_isDeckSo_140 rfl ?_
            refine r_callO (rest := []) KE (w_collectorOf_0 l D a c S hl0 hV  (shuf S its sd i) (by omega)) 2 gL_isDeckSo_L_collectorOf rfl (by decide +kernel) rfl ⟨⟨Nat.le_of_ble_eq_true rfl, Nat.le_of_ble_eq_true rfl⟩, (by show k1 + 4 + 1 ≤ 300; omega), (by show n1 + 24 + 6 ≤ 2000; omega)⟩ rfl (Nat.le_of_ble_eq_true rfl) dL_isDeckSo_142 (fun J85 => ?_)
            refine r_aload_n K dL_isDeckSo_145 rfl ?_
            refine r_iconst K (nI 2) dL_isDeckSo_146 (by decide) ?_
            refine r_iload K dL_isDeckSo_147 rfl ?_
            refine r_imul K dL_isDeckSo_149 ?_
            refine r_ldZ K 1 (zX_g1 _ _ _ _) (by omega) (by decide) dL_isDeckSo_150 ?_
            refine r_top (congrArg nI (show _ = S 18 its from rel_ow hR hit hits)) ?_
            refine r_ic_ne K 193 dL_isDeckSo_151 (by decide) (by omega) (by omega) (fun h86 => ?_) (fun h86 => ?_)
            ·
              refine r_iconst K (nI 0) dL_isDeckSo_193 (by decide) ?_
              refine r_top (congrArg nI (show _ = (alR S its sd (i + 1)).toNat from (by rw [alR_n1 h86]; rfl))) ?_
              refine r_istore (lv' := [(0, .ref (a 0)), (1, .ref (e 0)), (2, .ref (e 1)), (3, .ref (e 3)), (4, .int (nI its)), (5, .int x), (6, .int (nI (S 19 its))), (7, .int (nI sd)), (8, .long (lN (sbN S its sd i ||| (2 ^ (shuf S its sd i))))), (10, .long (lN (i + 1))), (12, .ref q2), (13, .int (nI ((alR S its sd (i + 1)).toNat))), (14, .int (nI i)), (15, .int (nI (shuf S its sd i)))]) K dL_isDeckSo_194 (by decide) rfl ?_
              refine r_iinc (lv' := [(0, .ref (a 0)), (1, .ref (e 0)), (2, .ref (e 1)), (3, .ref (e 3)), (4, .int (nI its)), (5, .int x), (6, .int (nI (S 19 its))), (7, .int (nI sd)), (8, .long (lN (sbN S its sd i ||| (2 ^ (shuf S its sd i))))), (10, .long (lN (i + 1))), (12, .ref q2), (13, .int (nI ((alR S its sd (i + 1)).toNat))), (14, .int (nI (i + 1))), (15, .int (nI (shuf S its sd i)))]) K dL_isDeckSo_196 rfl (nI_1 _) (by decide) rfl ?_
              refine r_goto K 47 dL_isDeckSo_199 (by decide) ?_
              refine r_pick [0, 1, 2, 3, 4, 5, 6, 7, 8, 9, 10, 11, 12] K rfl ?_
              exact ih6 (i + 1) _ _ _ _ (by omega) (by omega) hst (by show k1 + 5 ≤ _; omega) (by show n1 + 30 ≤ _; omega)
            ·
              refine r_aload_n K dL_isDeckSo_154 rfl ?_
              refine r_bipush K (nI 16) dL_isDeckSo_155 (by decide) ?_
              refine r_aload_n K dL_isDeckSo_157 rfl ?_
              refine r_iload K dL_isDeckSo_158 rfl ?_
              refine r_callO (rest := [.int (nI 16), .ref (e 0)]) KE (w_printOf_0 l D a c S hl0 hV  (shuf S its sd i) (by omega)) 2 gL_isDeckSo_L_printOf rfl (by decide +kernel) rfl ⟨⟨Nat.le_of_ble_eq_true rfl, Nat.le_of_ble_eq_true rfl⟩, (by show k1 + 5 + 1 ≤ 300; omega), (by show n1 + 30 + 6 ≤ 2000; omega)⟩ rfl (Nat.le_of_ble_eq_true rfl) dL_isDeckSo_160 (fun J87 => ?_)
              refine r_bipush K (nI 100) dL_isDeckSo_163 (by decide) ?_
              refine r_idiv K dL_isDeckSo_165 (by omega) (by omega) (by omega) ?_
              refine r_top (congrArg nI (show _ = S 15 (shuf S its sd i) from (by omega))) ?_
              refine r_iadd K dL_isDeckSo_166 ?_
              refine r_ldZ K 0 (zX_g0 _ _ _ _) (by omega) (by decide) dL_isDeckSo_167 ?_
              refine r_top (congrArg nI (show _ = S 12 (S 15 (shuf S its sd i)) from rel_b hR h15)) ?_
              refine r_if_ne K 193 dL_isDeckSo_168 (by decide) (by omega) (fun h88 => ?_) (fun h88 => ?_)
              ·
                refine r_iconst K (nI 0) dL_isDeckSo_193 (by decide) ?_
                refine r_top (congrArg nI (show _ = (alR S its sd (i + 1)).toNat from (by rw [alR_n2 h88]; rfl))) ?_
                refine r_istore (lv' := [(0, .ref (a 0)), (1, .ref (e 0)), (2, .ref (e 1)), (3, .ref (e 3)), (4, .int (nI its)), (5, .int x), (6, .int (nI (S 19 its))), (7, .int (nI sd)), (8, .long (lN (sbN S its sd i ||| (2 ^ (shuf S its sd i))))), (10, .long (lN (i + 1))), (12, .ref q2), (13, .int (nI ((alR S its sd (i + 1)).toNat))), (14, .int (nI i)), (15, .int (nI (shuf S its sd i)))]) K dL_isDeckSo_194 (by decide) rfl ?_
                refine r_iinc (lv' := [(0, .ref (a 0)), (1, .ref (e 0)), (2, .ref (e 1)), (3, .ref (e 3)), (4, .int (nI its)), (5, .int x), (6, .int (nI (S 19 its))), (7, .int (nI sd)), (8, .long (lN (sbN S its sd i ||| (2 ^ (shuf S its sd i))))), (10, .long (lN (i + 1))), (12, .ref q2), (13, .int (nI ((alR S its sd (i + 1)).toNat))), (14, .int (nI (i + 1))), (15, .int (nI (shuf S its sd i)))]) K dL_isDeckSo_196 rfl (nI_1 _) (by decide) rfl ?_
                refine r_goto K 47 dL_isDeckSo_199 (by decide) ?_
                refine r_pick [0, 1, 2, 3, 4, 5, 6, 7, 8, 9, 10, 11, 12] K rfl ?_
                exact ih6 (i + 1) _ _ _ _ (by omega) (by omega) hst (by show k1 + 6 ≤ _; omega) (by show n1 + 36 ≤ _; omega)
              ·
                refine r_aload K dL_isDeckSo_171 rfl ?_
                refine r_aload_n K dL_isDeckSo_173 rfl ?_
                refine r_iload K dL_isDeckSo_174 rfl ?_
                refine r_callO (rest := [.ref q2]) KE (w_printOf_0 l D a c S hl0 hV  (shuf S its sd i) (by omega)) 2 gL_isDeckSo_L_printOf rfl (by decide +kernel) rfl ⟨⟨Nat.le_of_ble_eq_true rfl, Nat.le_of_ble_eq_true rfl⟩, (by show k1 + 6 + 1 ≤ 300; omega), (by show n1 + 36 + 6 ≤ 2000; omega)⟩ rfl (Nat.le_of_ble_eq_true rfl) dL_isDeckSo_176 (fun J89 => ?_)
                refine r_bipush K (nI 100) dL_isDeckSo_179 (by decide) ?_
                refine r_idiv K dL_isDeckSo_181 (by omega) (by omega) (by omega) ?_
                refine r_top (congrArg nI (show _ = S 15 (shuf S its sd i) from (by omega))) ?_
                refine r_ldZ (g := f83) K 4 rfl (by omega) (by decide) dL_isDeckSo_182 ?_
                refine r_top (congrArg nI (show _ = cnt (skB S its sd (S 15 (shuf S its sd i))) (i + 1) from hfk)) ?_
                refine r_aload_n K dL_isDeckSo_183 rfl ?_
                refine r_iconst K (nI 4) dL_isDeckSo_184 (by decide) ?_
                refine r_ldZ K 3 (zX_g3 _ _ _ _) (by omega) (by decide) dL_isDeckSo_185 ?_
                refine r_top (congrArg nI (show _ = S 3 2 from hg4)) ?_
                refine r_ic_gt K 193 dL_isDeckSo_186 (by decide) (by omega) (by omega) (fun h90 => ?_) (fun h90 => ?_)
                ·
                  refine r_iconst K (nI 0) dL_isDeckSo_193 (by decide) ?_
                  refine r_top (congrArg nI (show _ = (alR S its sd (i + 1)).toNat from (by rw [alR_n3 h90]; rfl))) ?_
                  refine r_istore (lv' := [(0, .ref (a 0)), (1, .ref (e 0)), (2, .ref (e 1)), (3, .ref (e 3)), (4, .int (nI its)), (5, .int x), (6, .int (nI (S 19 its))), (7, .int (nI sd)), (8, .long (lN (sbN S its sd i ||| (2 ^ (shuf S its sd i))))), (10, .long (lN (i + 1))), (12, .ref q2), (13, .int (nI ((alR S its sd (i + 1)).toNat))), (14, .int (nI i)), (15, .int (nI (shuf S its sd i)))]) K dL_isDeckSo_194 (by decide) rfl ?_
                  refine r_iinc (lv' := [(0, .ref (a 0)), (1, .ref (e 0)), (2, .ref (e 1)), (3, .ref (e 3)), (4, .int (nI its)), (5, .int x), (6, .int (nI (S 19 its))), (7, .int (nI sd)), (8, .long (lN (sbN S its sd i ||| (2 ^ (shuf S its sd i))))), (10, .long (lN (i + 1))), (12, .ref q2), (13, .int (nI ((alR S its sd (i + 1)).toNat))), (14, .int (nI (i + 1))), (15, .int (nI (shuf S its sd i)))]) K dL_isDeckSo_196 rfl (nI_1 _) (by decide) rfl ?_
                  refine r_goto K 47 dL_isDeckSo_199 (by decide) ?_
                  refine r_pick [0, 1, 2, 3, 4, 5, 6, 7, 8, 9, 10, 11, 12] K rfl ?_
                  exact ih6 (i + 1) _ _ _ _ (by omega) (by omega) hst (by show k1 + 7 ≤ _; omega) (by show n1 + 42 ≤ _; omega)
                ·
                  refine r_iconst K (nI 1) dL_isDeckSo_189 (by decide) ?_
                  refine r_top (congrArg nI (show _ = (alR S its sd (i + 1)).toNat from (by rw [alR_y h84 h86 h88 h90]; rfl))) ?_
                  refine r_goto K 194 dL_isDeckSo_190 (by decide) ?_
                  refine r_istore (lv' := [(0, .ref (a 0)), (1, .ref (e 0)), (2, .ref (e 1)), (3, .ref (e 3)), (4, .int (nI its)), (5, .int x), (6, .int (nI (S 19 its))), (7, .int (nI sd)), (8, .long (lN (sbN S its sd i ||| (2 ^ (shuf S its sd i))))), (10, .long (lN (i + 1))), (12, .ref q2), (13, .int (nI ((alR S its sd (i + 1)).toNat))), (14, .int (nI i)), (15, .int (nI (shuf S its sd i)))]) K dL_isDeckSo_194 (by decide) rfl ?_
                  refine r_iinc (lv' := [(0, .ref (a 0)), (1, .ref (e 0)), (2, .ref (e 1)), (3, .ref (e 3)), (4, .int (nI its)), (5, .int x), (6, .int (nI (S 19 its))), (7, .int (nI sd)), (8, .long (lN (sbN S its sd i ||| (2 ^ (shuf S its sd i))))), (10, .long (lN (i + 1))), (12, .ref q2), (13, .int (nI ((alR S its sd (i + 1)).toNat))), (14, .int (nI (i + 1))), (15, .int (nI (shuf S its sd i)))]) K dL_isDeckSo_196 rfl (nI_1 _) (by decide) rfl ?_
                  refine r_goto K 47 dL_isDeckSo_199 (by decide) ?_
                  refine r_pick [0, 1, 2, 3, 4, 5, 6, 7, 8, 9, 10, 11, 12] K rfl ?_
                  exact ih6 (i + 1) _ _ _ _ (by omega) (by omega) hst (by show k1 + 7 ≤ _; omega) (by show n1 + 42 ≤ _; omega)
    exact LA4 11 0 _ _ _ _ (by omega) (Nat.zero_le _) (fun d => rfl) (by show k ≤ _; omega) (by show n ≤ _; omega)
  refine r_iload K dL_isDeckSo_29 rfl ?_
  refine r_aload_n K dL_isDeckSo_31 rfl ?_
  refine r_iconst K (nI 3) dL_isDeckSo_32 (by decide) ?_
  refine r_ldZ K 3 (zX_g3 _ _ _ _) (by omega) (by decide) dL_isDeckSo_33 ?_
  refine r_top (congrArg nI (show _ = S 3 1 from hg3)) ?_
  refine r_ic_ne K 41 dL_isDeckSo_34 (by decide) (by omega) (by omega) (fun h91 => ?_) (fun h91 => ?_)
  ·
    refine r_iconst K (nI 0) dL_isDeckSo_41 (by decide) ?_
    refine r_top (congrArg nI (show _ = (alR S its sd 0).toNat from (by unfold alR; rw [decide_eq_false h91]; rfl))) ?_
    exact HM3 _ _ _ (by show 1 ≤ _; omega) (by show 16 ≤ _; omega)
  ·
    refine r_iconst K (nI 1) dL_isDeckSo_37 (by decide) ?_
    refine r_top (congrArg nI (show _ = (alR S its sd 0).toNat from (by unfold alR; rw [decide_eq_true h91]; rfl))) ?_
    refine r_goto K 42 dL_isDeckSo_38 (by decide) ?_
    exact HM3 _ _ _ (by show 1 ≤ _; omega) (by show 16 ≤ _; omega)
