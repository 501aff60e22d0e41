def rmX7_play : Room := { frames := 3, cells := 0, slots := 0, locals := 70 }
theorem hin_X7_play_7 : ∀ w ∈ wsX70, w ∈ wsX7_play := fun _ h => List.mem_cons_of_mem _ (List.mem_append_right _ h)
set_option maxHeartbeats 4000000 in
set_option maxRecDepth 100000 in
theorem c_X7_play (l : Launch) (D : va_G) (b : Nat → Nat) (c : Nat → ClassId) (S J : St) (hV : V S) (hw14 : ∀ k, S 14 k < 999999) (x : Int32) (y : Int32) (p : Int32) (q : Int32) : Ci l yX7_play wsX7_play rmX7_play D (tyW c) [.ref (b 0), .int x, .int y, .int p, .int q] (wM b c S J) (fun r (J1 : St) => mPost (thr (inB x 0 ((S 3 0 : Nat) - 1) && inB y 0 ((S 3 0 : Nat) - 1)) ((inB x 0 ((S 3 0 : Nat) - 1) && inB y 0 ((S 3 0 : Nat) - 1)) && (sdB p && (sdB q && decide (S 18 (tn x) ≠ S 18 (tn y))))) (((inB x 0 ((S 3 0 : Nat) - 1) && inB y 0 ((S 3 0 : Nat) - 1)) && (sdB p && (sdB q && decide (S 18 (tn x) ≠ S 18 (tn y))))) && (alw S (tn x) && alw S (tn y)))) (nI (gmF S (tn x) (tn y) (tn p) (tn q)).1 - nI (gmF S (tn x) (tn y) (tn p) (tn q)).2.2.1) r J1) (fun J1 => wM b c (if thr (inB x 0 ((S 3 0 : Nat) - 1) && inB y 0 ((S 3 0 : Nat) - 1)) ((inB x 0 ((S 3 0 : Nat) - 1) && inB y 0 ((S 3 0 : Nat) - 1)) && (sdB p && (sdB q && decide (S 18 (tn x) ≠ S 18 (tn y))))) (((inB x 0 ((S 3 0 : Nat) - 1) && inB y 0 ((S 3 0 : Nat) - 1)) && (sdB p && (sdB q && decide (S 18 (tn x) ≠ S 18 (tn y))))) && (alw S (tn x) && alw S (tn y))) = 0 then wonS S (tn x) (tn y) (gmF S (tn x) (tn y) (tn p) (tn q)).1 (gmF S (tn x) (tn y) (tn p) (tn q)).2.2.1 else S) J1) := by
  refine Ci.of (lv0 := [(0, .ref (b 0)), (1, .int x), (2, .int y), (3, .int p), (4, .int q)]) (by decide +kernel) rfl (Nat.le_of_ble_eq_true rfl) rfl (fun G K hret => ?_)
  have hdk := V_decks hV
  have HM90 : G 0 0 (wM b c S J) [(0, .ref (b 0)), (1, .int x), (2, .int y), (3, .int p), (4, .int q), (5, .int (nI ((inB x 0 ((S 3 0 : Nat) - 1) && inB y 0 ((S 3 0 : Nat) - 1)).toNat))), (6, .int (nI (((inB x 0 ((S 3 0 : Nat) - 1) && inB y 0 ((S 3 0 : Nat) - 1)) && (sdB p && (sdB q && decide (S 18 (tn x) ≠ S 18 (tn y))))).toNat)))] 90 [.int (nI ((((inB x 0 ((S 3 0 : Nat) - 1) && inB y 0 ((S 3 0 : Nat) - 1)) && (sdB p && (sdB q && decide (S 18 (tn x) ≠ S 18 (tn y))))) && (alw S (tn x) && alw S (tn y))).toNat)), .int (nI (((inB x 0 ((S 3 0 : Nat) - 1) && inB y 0 ((S 3 0 : Nat) - 1)) && (sdB p && (sdB q && decide (S 18 (tn x) ≠ S 18 (tn y))))).toNat)), .int (nI ((inB x 0 ((S 3 0 : Nat) - 1) && inB y 0 ((S 3 0 : Nat) - 1)).toNat)), .ref (b 0)] := by
    refine r_callVs (rest := []) K (c_X7_goes l D b c S J (inB x 0 ((S 3 0 : Nat) - 1) && inB y 0 ((S 3 0 : Nat) - 1)) ((inB x 0 ((S 3 0 : Nat) - 1) && inB y 0 ((S 3 0 : Nat) - 1)) && (sdB p && (sdB q && decide (S 18 (tn x) ≠ S 18 (tn y))))) (((inB x 0 ((S 3 0 : Nat) - 1) && inB y 0 ((S 3 0 : Nat) - 1)) && (sdB p && (sdB q && decide (S 18 (tn x) ≠ S 18 (tn y))))) && (alw S (tn x) && alw S (tn y)))) 3 gX7_play_X7_goes rfl (by decide +kernel) rfl (by decide) 0 (wM_g0 _ _ _ _) rfl rfl (Nat.le_of_ble_eq_true rfl) dX7_play_90 rfl rfl ?_
    refine r_if_neB K 98 dX7_play_93 (by decide) (fun h1 => ?_) (fun h1 => ?_)
    ·
      have hth := of_decide_eq_true h1
      obtain ⟨hb1, hb2, hb3⟩ := thr_eq0 hth
      obtain ⟨hs2, hs3⟩ := Bool.and_eq_true_iff.mp hb1
      obtain ⟨xk, hxka, hxkb, hexk, hxkc⟩ := inB_ex (by decide) hs2
      subst hexk
      obtain ⟨yk, hyka, hykb, heyk, hykc⟩ := inB_ex (by decide) hs3
      subst heyk
      obtain ⟨hs4, hs5⟩ := Bool.and_eq_true_iff.mp hb2
      obtain ⟨hs6, hs7⟩ := Bool.and_eq_true_iff.mp hs4
      obtain ⟨hs8, hs9⟩ := Bool.and_eq_true_iff.mp hs5
      obtain ⟨pk, hpkc, hepk⟩ := sdB_ex hs8
      subst hepk
      obtain ⟨hs10, hs11⟩ := Bool.and_eq_true_iff.mp hs9
      obtain ⟨qk, hqkc, heqk⟩ := sdB_ex hs10
      subst heqk
      have hs11 := of_decide_eq_true hs11
      simp only [tn_nI hxkc, tn_nI hykc, tn_nI hpkc, tn_nI hqkc] at hs11
      obtain ⟨hs12, hs13⟩ := Bool.and_eq_true_iff.mp hb3
      obtain ⟨hs14, hs15⟩ := Bool.and_eq_true_iff.mp hs12
      obtain ⟨hs16, hs17⟩ := Bool.and_eq_true_iff.mp hs14
      obtain ⟨hs18, hs19⟩ := Bool.and_eq_true_iff.mp hs15
      obtain ⟨hs20, hs21⟩ := Bool.and_eq_true_iff.mp hs19
      have hs21 := of_decide_eq_true hs21
      simp only [tn_nI hxkc, tn_nI hykc, tn_nI hpkc, tn_nI hqkc] at hs21
      obtain ⟨hs22, hs23⟩ := Bool.and_eq_true_iff.mp hs13
      simp only [tn_nI hxkc, tn_nI hykc, tn_nI hpkc, tn_nI hqkc] at hs22
      simp only [tn_nI hxkc, tn_nI hykc, tn_nI hpkc, tn_nI hqkc] at hs23
      have hsx : S 19 xk = S 3 1 := alw_sz (by assumption)
      have hsy : S 19 yk = S 3 1 := alw_sz (by assumption)
      have hfs := V_fsize hV
      refine r_aload_n K dX7_play_98 rfl ?_
      refine r_iload_n K dX7_play_99 rfl ?_
      refine r_iload_n K dX7_play_100 rfl ?_
      refine r_iconst K (nI 0) dX7_play_101 (by decide) ?_
      refine r_callVv (rest := []) K (c_X7_shuffles l D b c S (up J 0 0 (thr (inB (nI xk) 0 ((S 3 0 : Nat) - 1) && inB (nI yk) 0 ((S 3 0 : Nat) - 1)) ((inB (nI xk) 0 ((S 3 0 : Nat) - 1) && inB (nI yk) 0 ((S 3 0 : Nat) - 1)) && (sdB (nI pk) && (sdB (nI qk) && decide (S 18 (tn (nI xk)) ≠ S 18 (tn (nI yk)))))) (((inB (nI xk) 0 ((S 3 0 : Nat) - 1) && inB (nI yk) 0 ((S 3 0 : Nat) - 1)) && (sdB (nI pk) && (sdB (nI qk) && decide (S 18 (tn (nI xk)) ≠ S 18 (tn (nI yk)))))) && (alw S (tn (nI xk)) && alw S (tn (nI yk)))))) hV xk pk 0 (by omega) (by omega) hpkc (by omega)) 3 gX7_play_X7_shuffles rfl (by decide +kernel) rfl (by decide) 0 (wM_g0 _ _ _ _) rfl rfl (Nat.le_of_ble_eq_true rfl) dX7_play_102 (fun J24 hpJ24 => ?_)
      obtain ⟨hoJ24, huJ24, hrJ24⟩ := hpJ24
      refine r_aload_n K dX7_play_105 rfl ?_
      refine r_iload_n K dX7_play_106 rfl ?_
      refine r_iload K dX7_play_107 rfl ?_
      refine r_bipush K (nI 10) dX7_play_109 (by decide) ?_
      refine r_callVv (rest := []) K (c_X7_shuffles l D b c S J24 hV yk qk 10 (by omega) (by omega) hqkc (by omega)) 3 gX7_play_X7_shuffles rfl (by decide +kernel) rfl (by decide) 0 (wM_g0 _ _ _ _) rfl rfl (Nat.le_of_ble_eq_true rfl) dX7_play_111 (fun J25 hpJ25 => ?_)
      obtain ⟨hoJ25, huJ25, hrJ25⟩ := hpJ25
      obtain ⟨R1, hR1⟩ : ∃ f : Nat → Nat, f = shuf S xk pk := ⟨_, rfl⟩
      obtain ⟨R2, hR2⟩ : ∃ f : Nat → Nat, f = shuf S yk qk := ⟨_, rfl⟩
      have hrw1 : ∀ k, k < S 19 xk → J25 26 k = R1 k := fun k hk => (huJ25 k (Or.inl (by omega))).trans ((congrArg (J24 26) (Nat.zero_add k).symm).trans ((hrJ24 k hk).trans (congrFun hR1 k).symm))
      have hrw2 : ∀ k, k < S 19 yk → J25 26 (10 + k) = R2 k := fun k hk => (hrJ25 k hk).trans (congrFun hR2 k).symm
      have hlt1 : ∀ k, R1 k < 80 := fun k => by rw [hR1]; exact shuf_lt hV (by omega) _ _
      have hlt2 : ∀ k, R2 k < 80 := fun k => by rw [hR2]; exact shuf_lt hV (by omega) _ _
      refine r_iconst K (nI 0) dX7_play_114 (by decide) ?_
      refine r_istore (lv' := [(0, .ref (b 0)), (1, .int (nI xk)), (2, .int (nI yk)), (3, .int (nI pk)), (4, .int (nI qk)), (5, .int (nI ((inB (nI xk) 0 ((S 3 0 : Nat) - 1) && inB (nI yk) 0 ((S 3 0 : Nat) - 1)).toNat))), (6, .int (nI (((inB (nI xk) 0 ((S 3 0 : Nat) - 1) && inB (nI yk) 0 ((S 3 0 : Nat) - 1)) && (sdB (nI pk) && (sdB (nI qk) && decide (S 18 (tn (nI xk)) ≠ S 18 (tn (nI yk)))))).toNat))), (7, .int (nI 0))]) K dX7_play_115 (by decide) rfl ?_
      refine r_iconst K (nI 0) dX7_play_117 (by decide) ?_
      refine r_istore (lv' := [(0, .ref (b 0)), (1, .int (nI xk)), (2, .int (nI yk)), (3, .int (nI pk)), (4, .int (nI qk)), (5, .int (nI ((inB (nI xk) 0 ((S 3 0 : Nat) - 1) && inB (nI yk) 0 ((S 3 0 : Nat) - 1)).toNat))), (6, .int (nI (((inB (nI xk) 0 ((S 3 0 : Nat) - 1) && inB (nI yk) 0 ((S 3 0 : Nat) - 1)) && (sdB (nI pk) && (sdB (nI qk) && decide (S 18 (tn (nI xk)) ≠ S 18 (tn (nI yk)))))).toNat))), (7, .int (nI 0)), (8, .int (nI 0))]) K dX7_play_118 (by decide) rfl ?_
      refine r_iconst K (nI 0) dX7_play_120 (by decide) ?_
      refine r_istore (lv' := [(0, .ref (b 0)), (1, .int (nI xk)), (2, .int (nI yk)), (3, .int (nI pk)), (4, .int (nI qk)), (5, .int (nI ((inB (nI xk) 0 ((S 3 0 : Nat) - 1) && inB (nI yk) 0 ((S 3 0 : Nat) - 1)).toNat))), (6, .int (nI (((inB (nI xk) 0 ((S 3 0 : Nat) - 1) && inB (nI yk) 0 ((S 3 0 : Nat) - 1)) && (sdB (nI pk) && (sdB (nI qk) && decide (S 18 (tn (nI xk)) ≠ S 18 (tn (nI yk)))))).toNat))), (7, .int (nI 0)), (8, .int (nI 0)), (9, .int (nI 0))]) K dX7_play_121 (by decide) rfl ?_
      refine r_iconst K (nI 0) dX7_play_123 (by decide) ?_
      refine r_lv (lv' := [(0, .ref (b 0)), (1, .int (nI xk)), (2, .int (nI yk)), (3, .int (nI pk)), (4, .int (nI qk)), (5, .int (nI ((inB (nI xk) 0 ((S 3 0 : Nat) - 1) && inB (nI yk) 0 ((S 3 0 : Nat) - 1)).toNat))), (6, .int (nI (((inB (nI xk) 0 ((S 3 0 : Nat) - 1) && inB (nI yk) 0 ((S 3 0 : Nat) - 1)) && (sdB (nI pk) && (sdB (nI qk) && decide (S 18 (tn (nI xk)) ≠ S 18 (tn (nI yk)))))).toNat))), (7, .int (nI 0 - nI 0)), (8, .int (nI 0)), (9, .int (nI 0))]) (congrArg (fun u : Int32 => ([(0, Value.ref (b 0)), (1, .int (nI xk)), (2, .int (nI yk)), (3, .int (nI pk)), (4, .int (nI qk)), (5, .int (nI ((inB (nI xk) 0 ((S 3 0 : Nat) - 1) && inB (nI yk) 0 ((S 3 0 : Nat) - 1)).toNat))), (6, .int (nI (((inB (nI xk) 0 ((S 3 0 : Nat) - 1) && inB (nI yk) 0 ((S 3 0 : Nat) - 1)) && (sdB (nI pk) && (sdB (nI qk) && decide (S 18 (tn (nI xk)) ≠ S 18 (tn (nI yk)))))).toNat))), (7, .int u), (8, .int (nI 0)), (9, .int (nI 0))] : List (Nat × Value))) (by decide : nI 0 = nI 0 - nI 0)) ?_
      refine r_istore (lv' := [(0, .ref (b 0)), (1, .int (nI xk)), (2, .int (nI yk)), (3, .int (nI pk)), (4, .int (nI qk)), (5, .int (nI ((inB (nI xk) 0 ((S 3 0 : Nat) - 1) && inB (nI yk) 0 ((S 3 0 : Nat) - 1)).toNat))), (6, .int (nI (((inB (nI xk) 0 ((S 3 0 : Nat) - 1) && inB (nI yk) 0 ((S 3 0 : Nat) - 1)) && (sdB (nI pk) && (sdB (nI qk) && decide (S 18 (tn (nI xk)) ≠ S 18 (tn (nI yk)))))).toNat))), (7, .int (nI 0 - nI 0)), (8, .int (nI 0)), (9, .int (nI 0)), (10, .int (nI 0))]) K dX7_play_124 (by decide) rfl ?_
      have L26 : ∀ (z : Nat) (i pA pB pC pD : Nat), S 3 1 < i + z → (i ≤ S 3 1) → (gmI S R1 R2 i pA pB pC pD) → G 0 0 (wM b c S J25) [(0, .ref (b 0)), (1, .int (nI xk)), (2, .int (nI yk)), (7, .int (nI pA - nI pC)), (8, .int (nI pB)), (9, .int (nI pD)), (10, .int (nI i))] 126 [] := by
        intro z
        induction z with
        | zero => intro i pA pB pC pD hz hi hI; exact absurd hz (by omega)
        | succ z ih =>
          intro i pA pB pC pD hz hi hI
          refine r_iload K dX7_play_126 rfl ?_
          refine r_aload_n K dX7_play_128 rfl ?_
          refine r_get K hin_X7_play_7 0 (wM_g0 _ _ _ _) rfl 5 (by decide) (List.mem_of_getElem? (i := 2) rfl) rfl dX7_play_129 ?_
          have hf27 := V_b hV 3 1
          refine r_ic_ge K 309 dX7_play_132 (by decide) (by omega) (by omega) (fun h28 => ?_) (fun h28 => ?_)
          ·
            have hin : i = S 3 1 := by omega
            subst hin
            have hgl := gmI_le hI
            have hA30 : pA < 2 ^ 30 := Nat.lt_of_le_of_lt hgl.1 (by omega)
            have hC30 : pC < 2 ^ 30 := Nat.lt_of_le_of_lt hgl.2.2.1 (by omega)
            refine r_iload K dX7_play_309 rfl ?_
            refine r_if_eqR K 328 dX7_play_311 (by decide) (fun h29 => ?_) (fun h29 => ?_)
            ·
              refine r_iload K dX7_play_328 rfl ?_
              exact hret 0 0 _ _ _ _ _ dX7_play_330 ⟨((congrFun (hoJ25 0 (by decide)) 0).trans ((congrFun (hoJ24 0 (by decide)) 0).trans up_same)), fun _ => by rw [tn_nI hxkc, tn_nI hykc, tn_nI hpkc, tn_nI hqkc, gmI_A hI hR1 hR2, gmI_C hI hR1 hR2]⟩ (by rw [if_pos hth, tn_nI hxkc, tn_nI hykc, tn_nI hpkc, tn_nI hqkc, gmI_A hI hR1 hR2, gmI_C hI hR1 hR2, show wonS S xk yk pA pC = _ from (if_neg (by have := dif_0 hA30 hC30 h29; omega)).trans (if_neg (by have := dif_0 hA30 hC30 h29; omega))]) (Nat.le_of_ble_eq_true rfl) (Nat.le_of_ble_eq_true rfl)
            ·
              refine r_aload_n K dX7_play_314 rfl ?_
              refine r_iload K dX7_play_315 rfl ?_
              refine r_if_leR K 324 dX7_play_317 (by decide) (fun h30 => ?_) (fun h30 => ?_)
              ·
                refine r_iload_n K dX7_play_324 rfl ?_
                refine r_callVsv (rest := []) K (c_X7_wonBy l D b c S J25 hV hw14 yk (by omega)) 1 gX7_play_X7_wonBy rfl (by decide +kernel) rfl (by decide) 0 (wM_g0 _ _ _ _) rfl rfl (Nat.le_of_ble_eq_true rfl) dX7_play_325 rfl rfl ?_
                refine r_iload K dX7_play_328 rfl ?_
                exact hret 0 0 _ _ _ _ _ dX7_play_330 ⟨((congrFun (hoJ25 0 (by decide)) 0).trans ((congrFun (hoJ24 0 (by decide)) 0).trans up_same)), fun _ => by rw [tn_nI hxkc, tn_nI hykc, tn_nI hpkc, tn_nI hqkc, gmI_A hI hR1 hR2, gmI_C hI hR1 hR2]⟩ (by rw [if_pos hth, tn_nI hxkc, tn_nI hykc, tn_nI hpkc, tn_nI hqkc, gmI_A hI hR1 hR2, gmI_C hI hR1 hR2, show wonS S xk yk pA pC = _ from (if_neg (by have := (sub_le hA30 hC30).mp h30; omega)).trans (if_pos (by have := (sub_le hA30 hC30).mp h30; have : pA ≠ pC := fun q => h29 (by rw [q, Int32.sub_self]); omega))]) (Nat.le_of_ble_eq_true rfl) (Nat.le_of_ble_eq_true rfl)
              ·
                refine r_iload_n K dX7_play_320 rfl ?_
                refine r_goto K 325 dX7_play_321 (by decide) ?_
                refine r_callVsv (rest := []) K (c_X7_wonBy l D b c S J25 hV hw14 xk (by omega)) 1 gX7_play_X7_wonBy rfl (by decide +kernel) rfl (by decide) 0 (wM_g0 _ _ _ _) rfl rfl (Nat.le_of_ble_eq_true rfl) dX7_play_325 rfl rfl ?_
                refine r_iload K dX7_play_328 rfl ?_
                exact hret 0 0 _ _ _ _ _ dX7_play_330 ⟨((congrFun (hoJ25 0 (by decide)) 0).trans ((congrFun (hoJ24 0 (by decide)) 0).trans up_same)), fun _ => by rw [tn_nI hxkc, tn_nI hykc, tn_nI hpkc, tn_nI hqkc, gmI_A hI hR1 hR2, gmI_C hI hR1 hR2]⟩ (by rw [if_pos hth, tn_nI hxkc, tn_nI hykc, tn_nI hpkc, tn_nI hqkc, gmI_A hI hR1 hR2, gmI_C hI hR1 hR2, show wonS S xk yk pA pC = _ from if_pos (by have : ¬ pA ≤ pC := fun q => h30 ((sub_le hA30 hC30).mpr q); omega)]) (Nat.le_of_ble_eq_true rfl) (Nat.le_of_ble_eq_true rfl)
          ·
            refine r_aload_n K dX7_play_135 rfl ?_
            refine r_get K hin_X7_play_7 0 (wM_g0 _ _ _ _) rfl 8 (by decide) (List.mem_of_getElem? (i := 3) rfl) rfl dX7_play_136 ?_
            refine r_aload_n K dX7_play_139 rfl ?_
            refine r_get K hin_X7_play_7 0 (wM_g0 _ _ _ _) rfl 15 (by decide) (List.mem_of_getElem? (i := 4) rfl) rfl dX7_play_140 ?_
            refine r_iload K dX7_play_143 rfl ?_
            refine r_iald K 12 0 (wM_g12 _ _ _ _) rfl (by omega) (by decide) dX7_play_145 ?_
            refine r_top (congrArg nI (hrw1 i (by omega))) ?_
            have hb1 := hlt1 i
            refine r_iald K 6 0 (wM_g6 _ _ _ _) rfl (by omega) (by decide) dX7_play_146 ?_
            have hf31 := V_kind hV (R1 i)
            obtain ⟨u1, hu1⟩ : ∃ y, y = S 15 (R1 i) := ⟨_, rfl⟩
            refine r_top (congrArg nI hu1.symm) ?_
            have hu1l : u1 < 16 := by rw [hu1]; exact V_kind hV _
            refine r_istore (lv' := [(0, .ref (b 0)), (1, .int (nI xk)), (2, .int (nI yk)), (7, .int (nI pA - nI pC)), (8, .int (nI pB)), (9, .int (nI pD)), (10, .int (nI i)), (11, .int (nI u1))]) K dX7_play_147 (by decide) rfl ?_
            refine r_aload_n K dX7_play_149 rfl ?_
            refine r_get K hin_X7_play_7 0 (wM_g0 _ _ _ _) rfl 8 (by decide) (List.mem_of_getElem? (i := 3) rfl) rfl dX7_play_150 ?_
            refine r_aload_n K dX7_play_153 rfl ?_
            refine r_get K hin_X7_play_7 0 (wM_g0 _ _ _ _) rfl 15 (by decide) (List.mem_of_getElem? (i := 4) rfl) rfl dX7_play_154 ?_
            refine r_bipush K (nI 10) dX7_play_157 (by decide) ?_
            refine r_iload K dX7_play_159 rfl ?_
            refine r_iadd K dX7_play_161 ?_
            refine r_iald K 12 0 (wM_g12 _ _ _ _) rfl (by omega) (by decide) dX7_play_162 ?_
            refine r_top (congrArg nI (hrw2 i (by omega))) ?_
            have hb2 := hlt2 i
            refine r_iald K 6 0 (wM_g6 _ _ _ _) rfl (by omega) (by decide) dX7_play_163 ?_
            have hf32 := V_kind hV (R2 i)
            obtain ⟨u2, hu2⟩ : ∃ y, y = S 15 (R2 i) := ⟨_, rfl⟩
            refine r_top (congrArg nI hu2.symm) ?_
            have hu2l : u2 < 16 := by rw [hu2]; exact V_kind hV _
            refine r_istore (lv' := [(0, .ref (b 0)), (1, .int (nI xk)), (2, .int (nI yk)), (7, .int (nI pA - nI pC)), (8, .int (nI pB)), (9, .int (nI pD)), (10, .int (nI i)), (11, .int (nI u1)), (12, .int (nI u2))]) K dX7_play_164 (by decide) rfl ?_
            obtain ⟨hgA, hgB, hgC, hgD⟩ := gmI_le hI
            refine r_aload_n K dX7_play_166 rfl ?_
            refine r_get K hin_X7_play_7 0 (wM_g0 _ _ _ _) rfl 0 (by decide) (List.mem_of_getElem? (i := 5) rfl) rfl dX7_play_167 ?_
            refine r_iload K dX7_play_170 rfl ?_
            refine r_iald K 1 0 (wM_g1 _ _ _ _) rfl (by omega) (by decide) dX7_play_172 ?_
            have hf33 := V_b hV 10 u1
            refine r_iload K dX7_play_173 rfl ?_
            refine r_iadd K dX7_play_175 ?_
            refine r_aload_n K dX7_play_176 rfl ?_
            refine r_get K hin_X7_play_7 0 (wM_g0 _ _ _ _) rfl 0 (by decide) (List.mem_of_getElem? (i := 5) rfl) rfl dX7_play_177 ?_
            refine r_iload K dX7_play_180 rfl ?_
            refine r_iald K 1 0 (wM_g1 _ _ _ _) rfl (by omega) (by decide) dX7_play_182 ?_
            have hf34 := V_b hV 10 u2
            refine r_isubR K dX7_play_183 ?_
            refine r_iload K dX7_play_184 rfl ?_
            refine r_isubR K dX7_play_186 ?_
            obtain ⟨M, hM⟩ : ∃ M : Int32, M = ((nI (S 10 u1 + pB) - nI (S 10 u2)) - (nI pD)) := ⟨_, rfl⟩
            refine r_top hM.symm ?_
            have hm1 : S 10 u1 < 1000000 := by have := V_b hV 10 u1; omega
            have hm2 : S 10 u2 < 1000000 := by have := V_b hV 10 u2; omega
            have hm3 : pB < 1000000 := by omega
            have hm4 : pD < 1000000 := by omega
            refine r_istore (lv' := [(0, .ref (b 0)), (1, .int (nI xk)), (2, .int (nI yk)), (7, .int (nI pA - nI pC)), (8, .int (nI pB)), (9, .int (nI pD)), (10, .int (nI i)), (11, .int (nI u1)), (12, .int (nI u2)), (13, .int M)]) K dX7_play_187 (by decide) rfl ?_
            refine r_aload_n K dX7_play_189 rfl ?_
            refine r_iload K dX7_play_190 rfl ?_
            refine r_iload K dX7_play_192 rfl ?_
            refine r_iload K dX7_play_194 rfl ?_
            refine r_if_leR K 203 dX7_play_196 (by decide) (fun h35 => ?_) (fun h35 => ?_)
            ·
              have hq196 := (more_le hM hm1 hm3 hm2 hm4).mp h35
              refine r_iconst K (nI 0) dX7_play_203 (by decide) ?_
              refine r_callVs (rest := []) K (c_X7_effect l D b c S J25 hV u1 u2 false (by omega) (by omega)) 3 gX7_play_X7_effect rfl (by decide +kernel) rfl (by decide) 0 (wM_g0 _ _ _ _) rfl rfl (Nat.le_of_ble_eq_true rfl) dX7_play_204 rfl rfl ?_
              obtain ⟨e1, he1⟩ : ∃ y, y = (effN S u1 u2 false) := ⟨_, rfl⟩
              refine r_top (congrArg nI he1.symm) ?_
              have he1l : e1 ≤ 2 := by rw [he1]; exact effN_le _ _ _ _
              refine r_istore (lv' := [(0, .ref (b 0)), (1, .int (nI xk)), (2, .int (nI yk)), (7, .int (nI pA - nI pC)), (8, .int (nI pB)), (9, .int (nI pD)), (10, .int (nI i)), (11, .int (nI u1)), (12, .int (nI u2)), (13, .int M), (14, .int (nI e1))]) K dX7_play_207 (by decide) rfl ?_
              refine r_aload_n K dX7_play_209 rfl ?_
              refine r_iload K dX7_play_210 rfl ?_
              refine r_iload K dX7_play_212 rfl ?_
              refine r_iload K dX7_play_214 rfl ?_
              refine r_if_geR K 223 dX7_play_216 (by decide) (fun h36 => ?_) (fun h36 => ?_)
              ·
                have hq216 := (more_ge hM hm1 hm3 hm2 hm4).mp h36
                refine r_iconst K (nI 0) dX7_play_223 (by decide) ?_
                refine r_callVs (rest := []) K (c_X7_effect l D b c S J25 hV u2 u1 false (by omega) (by omega)) 3 gX7_play_X7_effect rfl (by decide +kernel) rfl (by decide) 0 (wM_g0 _ _ _ _) rfl rfl (Nat.le_of_ble_eq_true rfl) dX7_play_224 rfl rfl ?_
                obtain ⟨e2, he2⟩ : ∃ y, y = (effN S u2 u1 false) := ⟨_, rfl⟩
                refine r_top (congrArg nI he2.symm) ?_
                have he2l : e2 ≤ 2 := by rw [he2]; exact effN_le _ _ _ _
                refine r_istore (lv' := [(0, .ref (b 0)), (1, .int (nI xk)), (2, .int (nI yk)), (7, .int (nI pA - nI pC)), (8, .int (nI pB)), (9, .int (nI pD)), (10, .int (nI i)), (11, .int (nI u1)), (12, .int (nI u2)), (13, .int M), (14, .int (nI e1)), (15, .int (nI e2))]) K dX7_play_227 (by decide) rfl ?_
                refine r_iload K dX7_play_229 rfl ?_
                refine r_iload K dX7_play_231 rfl ?_
                refine r_if_leR K 240 dX7_play_233 (by decide) (fun h37 => ?_) (fun h37 => ?_)
                ·
                  refine r_iload K dX7_play_240 rfl ?_
                  refine r_if_geR K 249 dX7_play_242 (by decide) (fun h38 => ?_) (fun h38 => ?_)
                  ·
                    refine r_iconst K (nI 0) dX7_play_249 (by decide) ?_
                    refine r_iload K dX7_play_250 rfl ?_
                    refine r_iconst K (nI 1) dX7_play_252 (by decide) ?_
                    refine r_ic_ne K 260 dX7_play_253 (by decide) (by omega) (by decide) (fun h39 => ?_) (fun h39 => ?_)
                    ·
                      refine r_iconst K (nI 0) dX7_play_260 (by decide) ?_
                      refine r_iadd K dX7_play_261 ?_
                      refine r_iload K dX7_play_262 rfl ?_
                      refine r_iconst K (nI 1) dX7_play_264 (by decide) ?_
                      refine r_ic_ne K 272 dX7_play_265 (by decide) (by omega) (by decide) (fun h40 => ?_) (fun h40 => ?_)
                      ·
                        refine r_iconst K (nI 0) dX7_play_272 (by decide) ?_
                        refine r_isubR K dX7_play_273 ?_
                        refine r_iaddR K dX7_play_274 ?_
                        refine r_istore (lv' := [(0, .ref (b 0)), (1, .int (nI xk)), (2, .int (nI yk)), (7, .int ((nI pA - nI pC) + ((nI (0 + 0)) - (nI 0)))), (8, .int (nI pB)), (9, .int (nI pD)), (10, .int (nI i)), (11, .int (nI u1)), (12, .int (nI u2)), (13, .int M), (14, .int (nI e1)), (15, .int (nI e2))]) K dX7_play_275 (by decide) rfl ?_
                        refine r_iload K dX7_play_277 rfl ?_
                        refine r_iconst K (nI 2) dX7_play_279 (by decide) ?_
                        refine r_ic_ne K 287 dX7_play_280 (by decide) (by omega) (by decide) (fun h41 => ?_) (fun h41 => ?_)
                        ·
                          refine r_iconst K (nI 0) dX7_play_287 (by decide) ?_
                          refine r_istore (lv' := [(0, .ref (b 0)), (1, .int (nI xk)), (2, .int (nI yk)), (7, .int ((nI pA - nI pC) + ((nI (0 + 0)) - (nI 0)))), (8, .int (nI 0)), (9, .int (nI pD)), (10, .int (nI i)), (11, .int (nI u1)), (12, .int (nI u2)), (13, .int M), (14, .int (nI e1)), (15, .int (nI e2))]) K dX7_play_288 (by decide) rfl ?_
                          refine r_iload K dX7_play_290 rfl ?_
                          refine r_iconst K (nI 2) dX7_play_292 (by decide) ?_
                          refine r_ic_ne K 300 dX7_play_293 (by decide) (by omega) (by decide) (fun h42 => ?_) (fun h42 => ?_)
                          ·
                            refine r_iconst K (nI 0) dX7_play_300 (by decide) ?_
                            refine r_istore (lv' := [(0, .ref (b 0)), (1, .int (nI xk)), (2, .int (nI yk)), (7, .int ((nI pA - nI pC) + ((nI (0 + 0)) - (nI 0)))), (8, .int (nI 0)), (9, .int (nI 0)), (10, .int (nI i)), (11, .int (nI u1)), (12, .int (nI u2)), (13, .int M), (14, .int (nI e1)), (15, .int (nI e2))]) K dX7_play_301 (by decide) rfl ?_
                            refine r_iinc (lv' := [(0, .ref (b 0)), (1, .int (nI xk)), (2, .int (nI yk)), (7, .int ((nI pA - nI pC) + ((nI (0 + 0)) - (nI 0)))), (8, .int (nI 0)), (9, .int (nI 0)), (10, .int (nI (i + 1))), (11, .int (nI u1)), (12, .int (nI u2)), (13, .int M), (14, .int (nI e1)), (15, .int (nI e2))]) K dX7_play_303 rfl (nI_1 _) (by decide) rfl ?_
                            refine r_goto K 126 dX7_play_306 (by decide) ?_
                            refine r_pick [0, 1, 2, 3, 4, 5, 6] K rfl ?_
                            have hgs := gm_st false false hI hu1 hu2 (decide_eq_false (by omega)) (decide_eq_false (by omega))
                            rw [← he1, ← he2] at hgs
                            rw [oneN_n h39, oneN_n h40, twoN_n h41, twoN_n h42] at hgs
                            refine r_pick [0, 1, 2, 3, 4, 5, 6] K rfl ?_
                            refine r_lv (lv' := [(0, .ref (b 0)), (1, .int (nI xk)), (2, .int (nI yk)), (7, .int (nI (pA + 0) - nI (pC + 0))), (8, .int (nI 0)), (9, .int (nI 0)), (10, .int (nI (i + 1)))]) (congrArg (fun u : Int32 => [(0, Value.ref (b 0)), (1, .int (nI xk)), (2, .int (nI yk)), (7, .int u), (8, .int (nI 0)), (9, .int (nI 0)), (10, .int (nI (i + 1)))]) (dif_up (k1 := 0) (k2 := 0) (by decide))) ?_
                            exact ih (i + 1) (pA + 0) 0 (pC + 0) 0 (by omega) (by omega) hgs
                          ·
                            refine r_iconst K (nI 2) dX7_play_296 (by decide) ?_
                            refine r_goto K 301 dX7_play_297 (by decide) ?_
                            refine r_istore (lv' := [(0, .ref (b 0)), (1, .int (nI xk)), (2, .int (nI yk)), (7, .int ((nI pA - nI pC) + ((nI (0 + 0)) - (nI 0)))), (8, .int (nI 0)), (9, .int (nI 2)), (10, .int (nI i)), (11, .int (nI u1)), (12, .int (nI u2)), (13, .int M), (14, .int (nI e1)), (15, .int (nI e2))]) K dX7_play_301 (by decide) rfl ?_
                            refine r_iinc (lv' := [(0, .ref (b 0)), (1, .int (nI xk)), (2, .int (nI yk)), (7, .int ((nI pA - nI pC) + ((nI (0 + 0)) - (nI 0)))), (8, .int (nI 0)), (9, .int (nI 2)), (10, .int (nI (i + 1))), (11, .int (nI u1)), (12, .int (nI u2)), (13, .int M), (14, .int (nI e1)), (15, .int (nI e2))]) K dX7_play_303 rfl (nI_1 _) (by decide) rfl ?_
                            refine r_goto K 126 dX7_play_306 (by decide) ?_
                            refine r_pick [0, 1, 2, 3, 4, 5, 6] K rfl ?_
                            have hgs := gm_st false false hI hu1 hu2 (decide_eq_false (by omega)) (decide_eq_false (by omega))
                            rw [← he1, ← he2] at hgs
                            rw [oneN_n h39, oneN_n h40, twoN_n h41, twoN_y h42] at hgs
                            refine r_pick [0, 1, 2, 3, 4, 5, 6] K rfl ?_
                            refine r_lv (lv' := [(0, .ref (b 0)), (1, .int (nI xk)), (2, .int (nI yk)), (7, .int (nI (pA + 0) - nI (pC + 0))), (8, .int (nI 0)), (9, .int (nI 2)), (10, .int (nI (i + 1)))]) (congrArg (fun u : Int32 => [(0, Value.ref (b 0)), (1, .int (nI xk)), (2, .int (nI yk)), (7, .int u), (8, .int (nI 0)), (9, .int (nI 2)), (10, .int (nI (i + 1)))]) (dif_up (k1 := 0) (k2 := 0) (by decide))) ?_
                            exact ih (i + 1) (pA + 0) 0 (pC + 0) 2 (by omega) (by omega) hgs
                        ·
                          refine r_iconst K (nI 2) dX7_play_283 (by decide) ?_
                          refine r_goto K 288 dX7_play_284 (by decide) ?_
                          refine r_istore (lv' := [(0, .ref (b 0)), (1, .int (nI xk)), (2, .int (nI yk)), (7, .int ((nI pA - nI pC) + ((nI (0 + 0)) - (nI 0)))), (8, .int (nI 2)), (9, .int (nI pD)), (10, .int (nI i)), (11, .int (nI u1)), (12, .int (nI u2)), (13, .int M), (14, .int (nI e1)), (15, .int (nI e2))]) K dX7_play_288 (by decide) rfl ?_
                          refine r_iload K dX7_play_290 rfl ?_
                          refine r_iconst K (nI 2) dX7_play_292 (by decide) ?_
                          refine r_ic_ne K 300 dX7_play_293 (by decide) (by omega) (by decide) (fun h43 => ?_) (fun h43 => ?_)
                          ·
                            refine r_iconst K (nI 0) dX7_play_300 (by decide) ?_
                            refine r_istore (lv' := [(0, .ref (b 0)), (1, .int (nI xk)), (2, .int (nI yk)), (7, .int ((nI pA - nI pC) + ((nI (0 + 0)) - (nI 0)))), (8, .int (nI 2)), (9, .int (nI 0)), (10, .int (nI i)), (11, .int (nI u1)), (12, .int (nI u2)), (13, .int M), (14, .int (nI e1)), (15, .int (nI e2))]) K dX7_play_301 (by decide) rfl ?_
                            refine r_iinc (lv' := [(0, .ref (b 0)), (1, .int (nI xk)), (2, .int (nI yk)), (7, .int ((nI pA - nI pC) + ((nI (0 + 0)) - (nI 0)))), (8, .int (nI 2)), (9, .int (nI 0)), (10, .int (nI (i + 1))), (11, .int (nI u1)), (12, .int (nI u2)), (13, .int M), (14, .int (nI e1)), (15, .int (nI e2))]) K dX7_play_303 rfl (nI_1 _) (by decide) rfl ?_
                            refine r_goto K 126 dX7_play_306 (by decide) ?_
                            refine r_pick [0, 1, 2, 3, 4, 5, 6] K rfl ?_
                            have hgs := gm_st false false hI hu1 hu2 (decide_eq_false (by omega)) (decide_eq_false (by omega))
                            rw [← he1, ← he2] at hgs
                            rw [oneN_n h39, oneN_n h40, twoN_y h41, twoN_n h43] at hgs
                            refine r_pick [0, 1, 2, 3, 4, 5, 6] K rfl ?_
                            refine r_lv (lv' := [(0, .ref (b 0)), (1, .int (nI xk)), (2, .int (nI yk)), (7, .int (nI (pA + 0) - nI (pC + 0))), (8, .int (nI 2)), (9, .int (nI 0)), (10, .int (nI (i + 1)))]) (congrArg (fun u : Int32 => [(0, Value.ref (b 0)), (1, .int (nI xk)), (2, .int (nI yk)), (7, .int u), (8, .int (nI 2)), (9, .int (nI 0)), (10, .int (nI (i + 1)))]) (dif_up (k1 := 0) (k2 := 0) (by decide))) ?_
                            exact ih (i + 1) (pA + 0) 2 (pC + 0) 0 (by omega) (by omega) hgs
                          ·
                            refine r_iconst K (nI 2) dX7_play_296 (by decide) ?_
                            refine r_goto K 301 dX7_play_297 (by decide) ?_
                            refine r_istore (lv' := [(0, .ref (b 0)), (1, .int (nI xk)), (2, .int (nI yk)), (7, .int ((nI pA - nI pC) + ((nI (0 + 0)) - (nI 0)))), (8, .int (nI 2)), (9, .int (nI 2)), (10, .int (nI i)), (11, .int (nI u1)), (12, .int (nI u2)), (13, .int M), (14, .int (nI e1)), (15, .int (nI e2))]) K dX7_play_301 (by decide) rfl ?_
                            refine r_iinc (lv' := [(0, .ref (b 0)), (1, .int (nI xk)), (2, .int (nI yk)), (7, .int ((nI pA - nI pC) + ((nI (0 + 0)) - (nI 0)))), (8, .int (nI 2)), (9, .int (nI 2)), (10, .int (nI (i + 1))), (11, .int (nI u1)), (12, .int (nI u2)), (13, .int M), (14, .int (nI e1)), (15, .int (nI e2))]) K dX7_play_303 rfl (nI_1 _) (by decide) rfl ?_
                            refine r_goto K 126 dX7_play_306 (by decide) ?_
                            refine r_pick [0, 1, 2, 3, 4, 5, 6] K rfl ?_
                            have hgs := gm_st false false hI hu1 hu2 (decide_eq_false (by omega)) (decide_eq_false (by omega))
                            rw [← he1, ← he2] at hgs
                            rw [oneN_n h39, oneN_n h40, twoN_y h41, twoN_y h43] at hgs
                            refine r_pick [0, 1, 2, 3, 4, 5, 6] K rfl ?_
                            refine r_lv (lv' := [(0, .ref (b 0)), (1, .int (nI xk)), (2, .int (nI yk)), (7, .int (nI (pA + 0) - nI (pC + 0))), (8, .int (nI 2)), (9, .int (nI 2)), (10, .int (nI (i + 1)))]) (congrArg (fun u : Int32 => [(0, Value.ref (b 0)), (1, .int (nI xk)), (2, .int (nI yk)), (7, .int u), (8, .int (nI 2)), (9, .int (nI 2)), (10, .int (nI (i + 1)))]) (dif_up (k1 := 0) (k2 := 0) (by decide))) ?_
                            exact ih (i + 1) (pA + 0) 2 (pC + 0) 2 (by omega) (by omega) hgs
                      ·
                        refine r_iconst K (nI 1) dX7_play_268 (by decide) ?_
                        refine r_goto K 273 dX7_play_269 (by decide) ?_
                        refine r_isubR K dX7_play_273 ?_
                        refine r_iaddR K dX7_play_274 ?_
                        refine r_istore (lv' := [(0, .ref (b 0)), (1, .int (nI xk)), (2, .int (nI yk)), (7, .int ((nI pA - nI pC) + ((nI (0 + 0)) - (nI 1)))), (8, .int (nI pB)), (9, .int (nI pD)), (10, .int (nI i)), (11, .int (nI u1)), (12, .int (nI u2)), (13, .int M), (14, .int (nI e1)), (15, .int (nI e2))]) K dX7_play_275 (by decide) rfl ?_
                        refine r_iload K dX7_play_277 rfl ?_
                        refine r_iconst K (nI 2) dX7_play_279 (by decide) ?_
                        refine r_ic_ne K 287 dX7_play_280 (by decide) (by omega) (by decide) (fun h44 => ?_) (fun h44 => ?_)
                        ·
                          refine r_iconst K (nI 0) dX7_play_287 (by decide) ?_
                          refine r_istore (lv' := [(0, .ref (b 0)), (1, .int (nI xk)), (2, .int (nI yk)), (7, .int ((nI pA - nI pC) + ((nI (0 + 0)) - (nI 1)))), (8, .int (nI 0)), (9, .int (nI pD)), (10, .int (nI i)), (11, .int (nI u1)), (12, .int (nI u2)), (13, .int M), (14, .int (nI e1)), (15, .int (nI e2))]) K dX7_play_288 (by decide) rfl ?_
                          refine r_iload K dX7_play_290 rfl ?_
                          refine r_iconst K (nI 2) dX7_play_292 (by decide) ?_
                          refine r_ic_ne K 300 dX7_play_293 (by decide) (by omega) (by decide) (fun h45 => ?_) (fun h45 => ?_)
                          ·
                            refine r_iconst K (nI 0) dX7_play_300 (by decide) ?_
                            refine r_istore (lv' := [(0, .ref (b 0)), (1, .int (nI xk)), (2, .int (nI yk)), (7, .int ((nI pA - nI pC) + ((nI (0 + 0)) - (nI 1)))), (8, .int (nI 0)), (9, .int (nI 0)), (10, .int (nI i)), (11, .int (nI u1)), (12, .int (nI u2)), (13, .int M), (14, .int (nI e1)), (15, .int (nI e2))]) K dX7_play_301 (by decide) rfl ?_
                            refine r_iinc (lv' := [(0, .ref (b 0)), (1, .int (nI xk)), (2, .int (nI yk)), (7, .int ((nI pA - nI pC) + ((nI (0 + 0)) - (nI 1)))), (8, .int (nI 0)), (9, .int (nI 0)), (10, .int (nI (i + 1))), (11, .int (nI u1)), (12, .int (nI u2)), (13, .int M), (14, .int (nI e1)), (15, .int (nI e2))]) K dX7_play_303 rfl (nI_1 _) (by decide) rfl ?_
                            refine r_goto K 126 dX7_play_306 (by decide) ?_
                            refine r_pick [0, 1, 2, 3, 4, 5, 6] K rfl ?_
                            have hgs := gm_st false false hI hu1 hu2 (decide_eq_false (by omega)) (decide_eq_false (by omega))
                            rw [← he1, ← he2] at hgs
                            rw [oneN_n h39, oneN_y h40, twoN_n h44, twoN_n h45] at hgs
                            refine r_pick [0, 1, 2, 3, 4, 5, 6] K rfl ?_
                            refine r_lv (lv' := [(0, .ref (b 0)), (1, .int (nI xk)), (2, .int (nI yk)), (7, .int (nI (pA + 0) - nI (pC + 1))), (8, .int (nI 0)), (9, .int (nI 0)), (10, .int (nI (i + 1)))]) (congrArg (fun u : Int32 => [(0, Value.ref (b 0)), (1, .int (nI xk)), (2, .int (nI yk)), (7, .int u), (8, .int (nI 0)), (9, .int (nI 0)), (10, .int (nI (i + 1)))]) (dif_up (k1 := 0) (k2 := 1) (by decide))) ?_
                            exact ih (i + 1) (pA + 0) 0 (pC + 1) 0 (by omega) (by omega) hgs
                          ·
                            exact (show False by omega).elim
                        ·
                          refine r_iconst K (nI 2) dX7_play_283 (by decide) ?_
                          refine r_goto K 288 dX7_play_284 (by decide) ?_
                          refine r_istore (lv' := [(0, .ref (b 0)), (1, .int (nI xk)), (2, .int (nI yk)), (7, .int ((nI pA - nI pC) + ((nI (0 + 0)) - (nI 1)))), (8, .int (nI 2)), (9, .int (nI pD)), (10, .int (nI i)), (11, .int (nI u1)), (12, .int (nI u2)), (13, .int M), (14, .int (nI e1)), (15, .int (nI e2))]) K dX7_play_288 (by decide) rfl ?_
                          refine r_iload K dX7_play_290 rfl ?_
                          refine r_iconst K (nI 2) dX7_play_292 (by decide) ?_
                          refine r_ic_ne K 300 dX7_play_293 (by decide) (by omega) (by decide) (fun h46 => ?_) (fun h46 => ?_)
                          ·
                            refine r_iconst K (nI 0) dX7_play_300 (by decide) ?_
                            refine r_istore (lv' := [(0, .ref (b 0)), (1, .int (nI xk)), (2, .int (nI yk)), (7, .int ((nI pA - nI pC) + ((nI (0 + 0)) - (nI 1)))), (8, .int (nI 2)), (9, .int (nI 0)), (10, .int (nI i)), (11, .int (nI u1)), (12, .int (nI u2)), (13, .int M), (14, .int (nI e1)), (15, .int (nI e2))]) K dX7_play_301 (by decide) rfl ?_
                            refine r_iinc (lv' := [(0, .ref (b 0)), (1, .int (nI xk)), (2, .int (nI yk)), (7, .int ((nI pA - nI pC) + ((nI (0 + 0)) - (nI 1)))), (8, .int (nI 2)), (9, .int (nI 0)), (10, .int (nI (i + 1))), (11, .int (nI u1)), (12, .int (nI u2)), (13, .int M), (14, .int (nI e1)), (15, .int (nI e2))]) K dX7_play_303 rfl (nI_1 _) (by decide) rfl ?_
                            refine r_goto K 126 dX7_play_306 (by decide) ?_
                            refine r_pick [0, 1, 2, 3, 4, 5, 6] K rfl ?_
                            have hgs := gm_st false false hI hu1 hu2 (decide_eq_false (by omega)) (decide_eq_false (by omega))
                            rw [← he1, ← he2] at hgs
                            rw [oneN_n h39, oneN_y h40, twoN_y h44, twoN_n h46] at hgs
                            refine r_pick [0, 1, 2, 3, 4, 5, 6] K rfl ?_
                            refine r_lv (lv' := [(0, .ref (b 0)), (1, .int (nI xk)), (2, .int (nI yk)), (7, .int (nI (pA + 0) - nI (pC + 1))), (8, .int (nI 2)), (9, .int (nI 0)), (10, .int (nI (i + 1)))]) (congrArg (fun u : Int32 => [(0, Value.ref (b 0)), (1, .int (nI xk)), (2, .int (nI yk)), (7, .int u), (8, .int (nI 2)), (9, .int (nI 0)), (10, .int (nI (i + 1)))]) (dif_up (k1 := 0) (k2 := 1) (by decide))) ?_
                            exact ih (i + 1) (pA + 0) 2 (pC + 1) 0 (by omega) (by omega) hgs
                          ·
                            exact (show False by omega).elim
                    ·
                      refine r_iconst K (nI 1) dX7_play_256 (by decide) ?_
                      refine r_goto K 261 dX7_play_257 (by decide) ?_
                      refine r_iadd K dX7_play_261 ?_
                      refine r_iload K dX7_play_262 rfl ?_
                      refine r_iconst K (nI 1) dX7_play_264 (by decide) ?_
                      refine r_ic_ne K 272 dX7_play_265 (by decide) (by omega) (by decide) (fun h47 => ?_) (fun h47 => ?_)
                      ·
                        refine r_iconst K (nI 0) dX7_play_272 (by decide) ?_
                        refine r_isubR K dX7_play_273 ?_
                        refine r_iaddR K dX7_play_274 ?_
                        refine r_istore (lv' := [(0, .ref (b 0)), (1, .int (nI xk)), (2, .int (nI yk)), (7, .int ((nI pA - nI pC) + ((nI (0 + 1)) - (nI 0)))), (8, .int (nI pB)), (9, .int (nI pD)), (10, .int (nI i)), (11, .int (nI u1)), (12, .int (nI u2)), (13, .int M), (14, .int (nI e1)), (15, .int (nI e2))]) K dX7_play_275 (by decide) rfl ?_
                        refine r_iload K dX7_play_277 rfl ?_
                        refine r_iconst K (nI 2) dX7_play_279 (by decide) ?_
                        refine r_ic_ne K 287 dX7_play_280 (by decide) (by omega) (by decide) (fun h48 => ?_) (fun h48 => ?_)
                        ·
                          refine r_iconst K (nI 0) dX7_play_287 (by decide) ?_
                          refine r_istore (lv' := [(0, .ref (b 0)), (1, .int (nI xk)), (2, .int (nI yk)), (7, .int ((nI pA - nI pC) + ((nI (0 + 1)) - (nI 0)))), (8, .int (nI 0)), (9, .int (nI pD)), (10, .int (nI i)), (11, .int (nI u1)), (12, .int (nI u2)), (13, .int M), (14, .int (nI e1)), (15, .int (nI e2))]) K dX7_play_288 (by decide) rfl ?_
                          refine r_iload K dX7_play_290 rfl ?_
                          refine r_iconst K (nI 2) dX7_play_292 (by decide) ?_
                          refine r_ic_ne K 300 dX7_play_293 (by decide) (by omega) (by decide) (fun h49 => ?_) (fun h49 => ?_)
                          ·
                            refine r_iconst K (nI 0) dX7_play_300 (by decide) ?_
                            refine r_istore (lv' := [(0, .ref (b 0)), (1, .int (nI xk)), (2, .int (nI yk)), (7, .int ((nI pA - nI pC) + ((nI (0 + 1)) - (nI 0)))), (8, .int (nI 0)), (9, .int (nI 0)), (10, .int (nI i)), (11, .int (nI u1)), (12, .int (nI u2)), (13, .int M), (14, .int (nI e1)), (15, .int (nI e2))]) K dX7_play_301 (by decide) rfl ?_
                            refine r_iinc (lv' := [(0, .ref (b 0)), (1, .int (nI xk)), (2, .int (nI yk)), (7, .int ((nI pA - nI pC) + ((nI (0 + 1)) - (nI 0)))), (8, .int (nI 0)), (9, .int (nI 0)), (10, .int (nI (i + 1))), (11, .int (nI u1)), (12, .int (nI u2)), (13, .int M), (14, .int (nI e1)), (15, .int (nI e2))]) K dX7_play_303 rfl (nI_1 _) (by decide) rfl ?_
                            refine r_goto K 126 dX7_play_306 (by decide) ?_
                            refine r_pick [0, 1, 2, 3, 4, 5, 6] K rfl ?_
                            have hgs := gm_st false false hI hu1 hu2 (decide_eq_false (by omega)) (decide_eq_false (by omega))
                            rw [← he1, ← he2] at hgs
                            rw [oneN_y h39, oneN_n h47, twoN_n h48, twoN_n h49] at hgs
                            refine r_pick [0, 1, 2, 3, 4, 5, 6] K rfl ?_
                            refine r_lv (lv' := [(0, .ref (b 0)), (1, .int (nI xk)), (2, .int (nI yk)), (7, .int (nI (pA + 1) - nI (pC + 0))), (8, .int (nI 0)), (9, .int (nI 0)), (10, .int (nI (i + 1)))]) (congrArg (fun u : Int32 => [(0, Value.ref (b 0)), (1, .int (nI xk)), (2, .int (nI yk)), (7, .int u), (8, .int (nI 0)), (9, .int (nI 0)), (10, .int (nI (i + 1)))]) (dif_up (k1 := 1) (k2 := 0) (by decide))) ?_
                            exact ih (i + 1) (pA + 1) 0 (pC + 0) 0 (by omega) (by omega) hgs
                          ·
                            refine r_iconst K (nI 2) dX7_play_296 (by decide) ?_
                            refine r_goto K 301 dX7_play_297 (by decide) ?_
                            refine r_istore (lv' := [(0, .ref (b 0)), (1, .int (nI xk)), (2, .int (nI yk)), (7, .int ((nI pA - nI pC) + ((nI (0 + 1)) - (nI 0)))), (8, .int (nI 0)), (9, .int (nI 2)), (10, .int (nI i)), (11, .int (nI u1)), (12, .int (nI u2)), (13, .int M), (14, .int (nI e1)), (15, .int (nI e2))]) K dX7_play_301 (by decide) rfl ?_
                            refine r_iinc (lv' := [(0, .ref (b 0)), (1, .int (nI xk)), (2, .int (nI yk)), (7, .int ((nI pA - nI pC) + ((nI (0 + 1)) - (nI 0)))), (8, .int (nI 0)), (9, .int (nI 2)), (10, .int (nI (i + 1))), (11, .int (nI u1)), (12, .int (nI u2)), (13, .int M), (14, .int (nI e1)), (15, .int (nI e2))]) K dX7_play_303 rfl (nI_1 _) (by decide) rfl ?_
                            refine r_goto K 126 dX7_play_306 (by decide) ?_
                            refine r_pick [0, 1, 2, 3, 4, 5, 6] K rfl ?_
                            have hgs := gm_st false false hI hu1 hu2 (decide_eq_false (by omega)) (decide_eq_false (by omega))
                            rw [← he1, ← he2] at hgs
                            rw [oneN_y h39, oneN_n h47, twoN_n h48, twoN_y h49] at hgs
                            refine r_pick [0, 1, 2, 3, 4, 5, 6] K rfl ?_
                            refine r_lv (lv' := [(0, .ref (b 0)), (1, .int (nI xk)), (2, .int (nI yk)), (7, .int (nI (pA + 1) - nI (pC + 0))), (8, .int (nI 0)), (9, .int (nI 2)), (10, .int (nI (i + 1)))]) (congrArg (fun u : Int32 => [(0, Value.ref (b 0)), (1, .int (nI xk)), (2, .int (nI yk)), (7, .int u), (8, .int (nI 0)), (9, .int (nI 2)), (10, .int (nI (i + 1)))]) (dif_up (k1 := 1) (k2 := 0) (by decide))) ?_
                            exact ih (i + 1) (pA + 1) 0 (pC + 0) 2 (by omega) (by omega) hgs
                        ·
                          exact (show False by omega).elim
                      ·
                        refine r_iconst K (nI 1) dX7_play_268 (by decide) ?_
                        refine r_goto K 273 dX7_play_269 (by decide) ?_
                        refine r_isubR K dX7_play_273 ?_
                        refine r_iaddR K dX7_play_274 ?_
                        refine r_istore (lv' := [(0, .ref (b 0)), (1, .int (nI xk)), (2, .int (nI yk)), (7, .int ((nI pA - nI pC) + ((nI (0 + 1)) - (nI 1)))), (8, .int (nI pB)), (9, .int (nI pD)), (10, .int (nI i)), (11, .int (nI u1)), (12, .int (nI u2)), (13, .int M), (14, .int (nI e1)), (15, .int (nI e2))]) K dX7_play_275 (by decide) rfl ?_
                        refine r_iload K dX7_play_277 rfl ?_
                        refine r_iconst K (nI 2) dX7_play_279 (by decide) ?_
                        refine r_ic_ne K 287 dX7_play_280 (by decide) (by omega) (by decide) (fun h50 => ?_) (fun h50 => ?_)
                        ·
                          refine r_iconst K (nI 0) dX7_play_287 (by decide) ?_
                          refine r_istore (lv' := [(0, .ref (b 0)), (1, .int (nI xk)), (2, .int (nI yk)), (7, .int ((nI pA - nI pC) + ((nI (0 + 1)) - (nI 1)))), (8, .int (nI 0)), (9, .int (nI pD)), (10, .int (nI i)), (11, .int (nI u1)), (12, .int (nI u2)), (13, .int M), (14, .int (nI e1)), (15, .int (nI e2))]) K dX7_play_288 (by decide) rfl ?_
                          refine r_iload K dX7_play_290 rfl ?_
                          refine r_iconst K (nI 2) dX7_play_292 (by decide) ?_
                          refine r_ic_ne K 300 dX7_play_293 (by decide) (by omega) (by decide) (fun h51 => ?_) (fun h51 => ?_)
                          ·
                            refine r_iconst K (nI 0) dX7_play_300 (by decide) ?_
                            refine r_istore (lv' := [(0, .ref (b 0)), (1, .int (nI xk)), (2, .int (nI yk)), (7, .int ((nI pA - nI pC) + ((nI (0 + 1)) - (nI 1)))), (8, .int (nI 0)), (9, .int (nI 0)), (10, .int (nI i)), (11, .int (nI u1)), (12, .int (nI u2)), (13, .int M), (14, .int (nI e1)), (15, .int (nI e2))]) K dX7_play_301 (by decide) rfl ?_
                            refine r_iinc (lv' := [(0, .ref (b 0)), (1, .int (nI xk)), (2, .int (nI yk)), (7, .int ((nI pA - nI pC) + ((nI (0 + 1)) - (nI 1)))), (8, .int (nI 0)), (9, .int (nI 0)), (10, .int (nI (i + 1))), (11, .int (nI u1)), (12, .int (nI u2)), (13, .int M), (14, .int (nI e1)), (15, .int (nI e2))]) K dX7_play_303 rfl (nI_1 _) (by decide) rfl ?_
                            refine r_goto K 126 dX7_play_306 (by decide) ?_
                            refine r_pick [0, 1, 2, 3, 4, 5, 6] K rfl ?_
                            have hgs := gm_st false false hI hu1 hu2 (decide_eq_false (by omega)) (decide_eq_false (by omega))
                            rw [← he1, ← he2] at hgs
                            rw [oneN_y h39, oneN_y h47, twoN_n h50, twoN_n h51] at hgs
                            refine r_pick [0, 1, 2, 3, 4, 5, 6] K rfl ?_
                            refine r_lv (lv' := [(0, .ref (b 0)), (1, .int (nI xk)), (2, .int (nI yk)), (7, .int (nI (pA + 1) - nI (pC + 1))), (8, .int (nI 0)), (9, .int (nI 0)), (10, .int (nI (i + 1)))]) (congrArg (fun u : Int32 => [(0, Value.ref (b 0)), (1, .int (nI xk)), (2, .int (nI yk)), (7, .int u), (8, .int (nI 0)), (9, .int (nI 0)), (10, .int (nI (i + 1)))]) (dif_up (k1 := 1) (k2 := 1) (by decide))) ?_
                            exact ih (i + 1) (pA + 1) 0 (pC + 1) 0 (by omega) (by omega) hgs
                          ·
                            exact (show False by omega).elim
                        ·
                          exact (show False by omega).elim
                  ·
                    exact absurd ((more_ge hM hm1 hm3 hm2 hm4).mpr hq216) h38
                ·
                  exact absurd ((more_le hM hm1 hm3 hm2 hm4).mpr hq196) h37
              ·
                have hq216 := Nat.not_le.mp (fun q => h36 ((more_ge hM hm1 hm3 hm2 hm4).mpr q))
                refine r_iconst K (nI 1) dX7_play_219 (by decide) ?_
                refine r_goto K 224 dX7_play_220 (by decide) ?_
                refine r_callVs (rest := []) K (c_X7_effect l D b c S J25 hV u2 u1 true (by omega) (by omega)) 3 gX7_play_X7_effect rfl (by decide +kernel) rfl (by decide) 0 (wM_g0 _ _ _ _) rfl rfl (Nat.le_of_ble_eq_true rfl) dX7_play_224 rfl rfl ?_
                obtain ⟨e2, he2⟩ : ∃ y, y = (effN S u2 u1 true) := ⟨_, rfl⟩
                refine r_top (congrArg nI he2.symm) ?_
                have he2l : e2 ≤ 2 := by rw [he2]; exact effN_le _ _ _ _
                refine r_istore (lv' := [(0, .ref (b 0)), (1, .int (nI xk)), (2, .int (nI yk)), (7, .int (nI pA - nI pC)), (8, .int (nI pB)), (9, .int (nI pD)), (10, .int (nI i)), (11, .int (nI u1)), (12, .int (nI u2)), (13, .int M), (14, .int (nI e1)), (15, .int (nI e2))]) K dX7_play_227 (by decide) rfl ?_
                refine r_iload K dX7_play_229 rfl ?_
                refine r_iload K dX7_play_231 rfl ?_
                refine r_if_leR K 240 dX7_play_233 (by decide) (fun h52 => ?_) (fun h52 => ?_)
                ·
                  refine r_iload K dX7_play_240 rfl ?_
                  refine r_if_geR K 249 dX7_play_242 (by decide) (fun h53 => ?_) (fun h53 => ?_)
                  ·
                    exact absurd ((more_ge hM hm1 hm3 hm2 hm4).mp h53) (Nat.not_le.mpr hq216)
                  ·
                    refine r_iconst K (-1) dX7_play_245 (by decide) ?_
                    refine r_goto K 250 dX7_play_246 (by decide) ?_
                    refine r_iload K dX7_play_250 rfl ?_
                    refine r_iconst K (nI 1) dX7_play_252 (by decide) ?_
                    refine r_ic_ne K 260 dX7_play_253 (by decide) (by omega) (by decide) (fun h54 => ?_) (fun h54 => ?_)
                    ·
                      refine r_iconst K (nI 0) dX7_play_260 (by decide) ?_
                      refine r_iaddR K dX7_play_261 ?_
                      refine r_iload K dX7_play_262 rfl ?_
                      refine r_iconst K (nI 1) dX7_play_264 (by decide) ?_
                      refine r_ic_ne K 272 dX7_play_265 (by decide) (by omega) (by decide) (fun h55 => ?_) (fun h55 => ?_)
                      ·
                        refine r_iconst K (nI 0) dX7_play_272 (by decide) ?_
                        refine r_isubR K dX7_play_273 ?_
                        refine r_iaddR K dX7_play_274 ?_
                        refine r_istore (lv' := [(0, .ref (b 0)), (1, .int (nI xk)), (2, .int (nI yk)), (7, .int ((nI pA - nI pC) + (((-1) + (nI 0)) - (nI 0)))), (8, .int (nI pB)), (9, .int (nI pD)), (10, .int (nI i)), (11, .int (nI u1)), (12, .int (nI u2)), (13, .int M), (14, .int (nI e1)), (15, .int (nI e2))]) K dX7_play_275 (by decide) rfl ?_
                        refine r_iload K dX7_play_277 rfl ?_
                        refine r_iconst K (nI 2) dX7_play_279 (by decide) ?_
                        refine r_ic_ne K 287 dX7_play_280 (by decide) (by omega) (by decide) (fun h56 => ?_) (fun h56 => ?_)
                        ·
                          refine r_iconst K (nI 0) dX7_play_287 (by decide) ?_
                          refine r_istore (lv' := [(0, .ref (b 0)), (1, .int (nI xk)), (2, .int (nI yk)), (7, .int ((nI pA - nI pC) + (((-1) + (nI 0)) - (nI 0)))), (8, .int (nI 0)), (9, .int (nI pD)), (10, .int (nI i)), (11, .int (nI u1)), (12, .int (nI u2)), (13, .int M), (14, .int (nI e1)), (15, .int (nI e2))]) K dX7_play_288 (by decide) rfl ?_
                          refine r_iload K dX7_play_290 rfl ?_
                          refine r_iconst K (nI 2) dX7_play_292 (by decide) ?_
                          refine r_ic_ne K 300 dX7_play_293 (by decide) (by omega) (by decide) (fun h57 => ?_) (fun h57 => ?_)
                          ·
                            refine r_iconst K (nI 0) dX7_play_300 (by decide) ?_
                            refine r_istore (lv' := [(0, .ref (b 0)), (1, .int (nI xk)), (2, .int (nI yk)), (7, .int ((nI pA - nI pC) + (((-1) + (nI 0)) - (nI 0)))), (8, .int (nI 0)), (9, .int (nI 0)), (10, .int (nI i)), (11, .int (nI u1)), (12, .int (nI u2)), (13, .int M), (14, .int (nI e1)), (15, .int (nI e2))]) K dX7_play_301 (by decide) rfl ?_
                            refine r_iinc (lv' := [(0, .ref (b 0)), (1, .int (nI xk)), (2, .int (nI yk)), (7, .int ((nI pA - nI pC) + (((-1) + (nI 0)) - (nI 0)))), (8, .int (nI 0)), (9, .int (nI 0)), (10, .int (nI (i + 1))), (11, .int (nI u1)), (12, .int (nI u2)), (13, .int M), (14, .int (nI e1)), (15, .int (nI e2))]) K dX7_play_303 rfl (nI_1 _) (by decide) rfl ?_
                            refine r_goto K 126 dX7_play_306 (by decide) ?_
                            refine r_pick [0, 1, 2, 3, 4, 5, 6] K rfl ?_
                            have hgs := gm_st false true hI hu1 hu2 (decide_eq_false (by omega)) (decide_eq_true (by omega))
                            rw [← he1, ← he2] at hgs
                            rw [oneN_n h54, oneN_n h55, twoN_n h56, twoN_n h57] at hgs
                            refine r_pick [0, 1, 2, 3, 4, 5, 6] K rfl ?_
                            refine r_lv (lv' := [(0, .ref (b 0)), (1, .int (nI xk)), (2, .int (nI yk)), (7, .int (nI (pA + 0) - nI (pC + 1))), (8, .int (nI 0)), (9, .int (nI 0)), (10, .int (nI (i + 1)))]) (congrArg (fun u : Int32 => [(0, Value.ref (b 0)), (1, .int (nI xk)), (2, .int (nI yk)), (7, .int u), (8, .int (nI 0)), (9, .int (nI 0)), (10, .int (nI (i + 1)))]) (dif_up (k1 := 0) (k2 := 1) (by decide))) ?_
                            exact ih (i + 1) (pA + 0) 0 (pC + 1) 0 (by omega) (by omega) hgs
                          ·
                            refine r_iconst K (nI 2) dX7_play_296 (by decide) ?_
                            refine r_goto K 301 dX7_play_297 (by decide) ?_
                            refine r_istore (lv' := [(0, .ref (b 0)), (1, .int (nI xk)), (2, .int (nI yk)), (7, .int ((nI pA - nI pC) + (((-1) + (nI 0)) - (nI 0)))), (8, .int (nI 0)), (9, .int (nI 2)), (10, .int (nI i)), (11, .int (nI u1)), (12, .int (nI u2)), (13, .int M), (14, .int (nI e1)), (15, .int (nI e2))]) K dX7_play_301 (by decide) rfl ?_
                            refine r_iinc (lv' := [(0, .ref (b 0)), (1, .int (nI xk)), (2, .int (nI yk)), (7, .int ((nI pA - nI pC) + (((-1) + (nI 0)) - (nI 0)))), (8, .int (nI 0)), (9, .int (nI 2)), (10, .int (nI (i + 1))), (11, .int (nI u1)), (12, .int (nI u2)), (13, .int M), (14, .int (nI e1)), (15, .int (nI e2))]) K dX7_play_303 rfl (nI_1 _) (by decide) rfl ?_
                            refine r_goto K 126 dX7_play_306 (by decide) ?_
                            refine r_pick [0, 1, 2, 3, 4, 5, 6] K rfl ?_
                            have hgs := gm_st false true hI hu1 hu2 (decide_eq_false (by omega)) (decide_eq_true (by omega))
                            rw [← he1, ← he2] at hgs
                            rw [oneN_n h54, oneN_n h55, twoN_n h56, twoN_y h57] at hgs
                            refine r_pick [0, 1, 2, 3, 4, 5, 6] K rfl ?_
                            refine r_lv (lv' := [(0, .ref (b 0)), (1, .int (nI xk)), (2, .int (nI yk)), (7, .int (nI (pA + 0) - nI (pC + 1))), (8, .int (nI 0)), (9, .int (nI 2)), (10, .int (nI (i + 1)))]) (congrArg (fun u : Int32 => [(0, Value.ref (b 0)), (1, .int (nI xk)), (2, .int (nI yk)), (7, .int u), (8, .int (nI 0)), (9, .int (nI 2)), (10, .int (nI (i + 1)))]) (dif_up (k1 := 0) (k2 := 1) (by decide))) ?_
                            exact ih (i + 1) (pA + 0) 0 (pC + 1) 2 (by omega) (by omega) hgs
                        ·
                          refine r_iconst K (nI 2) dX7_play_283 (by decide) ?_
                          refine r_goto K 288 dX7_play_284 (by decide) ?_
                          refine r_istore (lv' := [(0, .ref (b 0)), (1, .int (nI xk)), (2, .int (nI yk)), (7, .int ((nI pA - nI pC) + (((-1) + (nI 0)) - (nI 0)))), (8, .int (nI 2)), (9, .int (nI pD)), (10, .int (nI i)), (11, .int (nI u1)), (12, .int (nI u2)), (13, .int M), (14, .int (nI e1)), (15, .int (nI e2))]) K dX7_play_288 (by decide) rfl ?_
                          refine r_iload K dX7_play_290 rfl ?_
                          refine r_iconst K (nI 2) dX7_play_292 (by decide) ?_
                          refine r_ic_ne K 300 dX7_play_293 (by decide) (by omega) (by decide) (fun h58 => ?_) (fun h58 => ?_)
                          ·
                            refine r_iconst K (nI 0) dX7_play_300 (by decide) ?_
                            refine r_istore (lv' := [(0, .ref (b 0)), (1, .int (nI xk)), (2, .int (nI yk)), (7, .int ((nI pA - nI pC) + (((-1) + (nI 0)) - (nI 0)))), (8, .int (nI 2)), (9, .int (nI 0)), (10, .int (nI i)), (11, .int (nI u1)), (12, .int (nI u2)), (13, .int M), (14, .int (nI e1)), (15, .int (nI e2))]) K dX7_play_301 (by decide) rfl ?_
                            refine r_iinc (lv' := [(0, .ref (b 0)), (1, .int (nI xk)), (2, .int (nI yk)), (7, .int ((nI pA - nI pC) + (((-1) + (nI 0)) - (nI 0)))), (8, .int (nI 2)), (9, .int (nI 0)), (10, .int (nI (i + 1))), (11, .int (nI u1)), (12, .int (nI u2)), (13, .int M), (14, .int (nI e1)), (15, .int (nI e2))]) K dX7_play_303 rfl (nI_1 _) (by decide) rfl ?_
                            refine r_goto K 126 dX7_play_306 (by decide) ?_
                            refine r_pick [0, 1, 2, 3, 4, 5, 6] K rfl ?_
                            have hgs := gm_st false true hI hu1 hu2 (decide_eq_false (by omega)) (decide_eq_true (by omega))
                            rw [← he1, ← he2] at hgs
                            rw [oneN_n h54, oneN_n h55, twoN_y h56, twoN_n h58] at hgs
                            refine r_pick [0, 1, 2, 3, 4, 5, 6] K rfl ?_
                            refine r_lv (lv' := [(0, .ref (b 0)), (1, .int (nI xk)), (2, .int (nI yk)), (7, .int (nI (pA + 0) - nI (pC + 1))), (8, .int (nI 2)), (9, .int (nI 0)), (10, .int (nI (i + 1)))]) (congrArg (fun u : Int32 => [(0, Value.ref (b 0)), (1, .int (nI xk)), (2, .int (nI yk)), (7, .int u), (8, .int (nI 2)), (9, .int (nI 0)), (10, .int (nI (i + 1)))]) (dif_up (k1 := 0) (k2 := 1) (by decide))) ?_
                            exact ih (i + 1) (pA + 0) 2 (pC + 1) 0 (by omega) (by omega) hgs
                          ·
                            refine r_iconst K (nI 2) dX7_play_296 (by decide) ?_
                            refine r_goto K 301 dX7_play_297 (by decide) ?_
                            refine r_istore (lv' := [(0, .ref (b 0)), (1, .int (nI xk)), (2, .int (nI yk)), (7, .int ((nI pA - nI pC) + (((-1) + (nI 0)) - (nI 0)))), (8, .int (nI 2)), (9, .int (nI 2)), (10, .int (nI i)), (11, .int (nI u1)), (12, .int (nI u2)), (13, .int M), (14, .int (nI e1)), (15, .int (nI e2))]) K dX7_play_301 (by decide) rfl ?_
                            refine r_iinc (lv' := [(0, .ref (b 0)), (1, .int (nI xk)), (2, .int (nI yk)), (7, .int ((nI pA - nI pC) + (((-1) + (nI 0)) - (nI 0)))), (8, .int (nI 2)), (9, .int (nI 2)), (10, .int (nI (i + 1))), (11, .int (nI u1)), (12, .int (nI u2)), (13, .int M), (14, .int (nI e1)), (15, .int (nI e2))]) K dX7_play_303 rfl (nI_1 _) (by decide) rfl ?_
                            refine r_goto K 126 dX7_play_306 (by decide) ?_
                            refine r_pick [0, 1, 2, 3, 4, 5, 6] K rfl ?_
                            have hgs := gm_st false true hI hu1 hu2 (decide_eq_false (by omega)) (decide_eq_true (by omega))
                            rw [← he1, ← he2] at hgs
                            rw [oneN_n h54, oneN_n h55, twoN_y h56, twoN_y h58] at hgs
                            refine r_pick [0, 1, 2, 3, 4, 5, 6] K rfl ?_
                            refine r_lv (lv' := [(0, .ref (b 0)), (1, .int (nI xk)), (2, .int (nI yk)), (7, .int (nI (pA + 0) - nI (pC + 1))), (8, .int (nI 2)), (9, .int (nI 2)), (10, .int (nI (i + 1)))]) (congrArg (fun u : Int32 => [(0, Value.ref (b 0)), (1, .int (nI xk)), (2, .int (nI yk)), (7, .int u), (8, .int (nI 2)), (9, .int (nI 2)), (10, .int (nI (i + 1)))]) (dif_up (k1 := 0) (k2 := 1) (by decide))) ?_
                            exact ih (i + 1) (pA + 0) 2 (pC + 1) 2 (by omega) (by omega) hgs
                      ·
                        refine r_iconst K (nI 1) dX7_play_268 (by decide) ?_
                        refine r_goto K 273 dX7_play_269 (by decide) ?_
                        refine r_isubR K dX7_play_273 ?_
                        refine r_iaddR K dX7_play_274 ?_
                        refine r_istore (lv' := [(0, .ref (b 0)), (1, .int (nI xk)), (2, .int (nI yk)), (7, .int ((nI pA - nI pC) + (((-1) + (nI 0)) - (nI 1)))), (8, .int (nI pB)), (9, .int (nI pD)), (10, .int (nI i)), (11, .int (nI u1)), (12, .int (nI u2)), (13, .int M), (14, .int (nI e1)), (15, .int (nI e2))]) K dX7_play_275 (by decide) rfl ?_
                        refine r_iload K dX7_play_277 rfl ?_
                        refine r_iconst K (nI 2) dX7_play_279 (by decide) ?_
                        refine r_ic_ne K 287 dX7_play_280 (by decide) (by omega) (by decide) (fun h59 => ?_) (fun h59 => ?_)
                        ·
                          refine r_iconst K (nI 0) dX7_play_287 (by decide) ?_
                          refine r_istore (lv' := [(0, .ref (b 0)), (1, .int (nI xk)), (2, .int (nI yk)), (7, .int ((nI pA - nI pC) + (((-1) + (nI 0)) - (nI 1)))), (8, .int (nI 0)), (9, .int (nI pD)), (10, .int (nI i)), (11, .int (nI u1)), (12, .int (nI u2)), (13, .int M), (14, .int (nI e1)), (15, .int (nI e2))]) K dX7_play_288 (by decide) rfl ?_
                          refine r_iload K dX7_play_290 rfl ?_
                          refine r_iconst K (nI 2) dX7_play_292 (by decide) ?_
                          refine r_ic_ne K 300 dX7_play_293 (by decide) (by omega) (by decide) (fun h60 => ?_) (fun h60 => ?_)
                          ·
                            refine r_iconst K (nI 0) dX7_play_300 (by decide) ?_
                            refine r_istore (lv' := [(0, .ref (b 0)), (1, .int (nI xk)), (2, .int (nI yk)), (7, .int ((nI pA - nI pC) + (((-1) + (nI 0)) - (nI 1)))), (8, .int (nI 0)), (9, .int (nI 0)), (10, .int (nI i)), (11, .int (nI u1)), (12, .int (nI u2)), (13, .int M), (14, .int (nI e1)), (15, .int (nI e2))]) K dX7_play_301 (by decide) rfl ?_
                            refine r_iinc (lv' := [(0, .ref (b 0)), (1, .int (nI xk)), (2, .int (nI yk)), (7, .int ((nI pA - nI pC) + (((-1) + (nI 0)) - (nI 1)))), (8, .int (nI 0)), (9, .int (nI 0)), (10, .int (nI (i + 1))), (11, .int (nI u1)), (12, .int (nI u2)), (13, .int M), (14, .int (nI e1)), (15, .int (nI e2))]) K dX7_play_303 rfl (nI_1 _) (by decide) rfl ?_
                            refine r_goto K 126 dX7_play_306 (by decide) ?_
                            refine r_pick [0, 1, 2, 3, 4, 5, 6] K rfl ?_
                            have hgs := gm_st false true hI hu1 hu2 (decide_eq_false (by omega)) (decide_eq_true (by omega))
                            rw [← he1, ← he2] at hgs
                            rw [oneN_n h54, oneN_y h55, twoN_n h59, twoN_n h60] at hgs
                            refine r_pick [0, 1, 2, 3, 4, 5, 6] K rfl ?_
                            refine r_lv (lv' := [(0, .ref (b 0)), (1, .int (nI xk)), (2, .int (nI yk)), (7, .int (nI (pA + 0) - nI (pC + 2))), (8, .int (nI 0)), (9, .int (nI 0)), (10, .int (nI (i + 1)))]) (congrArg (fun u : Int32 => [(0, Value.ref (b 0)), (1, .int (nI xk)), (2, .int (nI yk)), (7, .int u), (8, .int (nI 0)), (9, .int (nI 0)), (10, .int (nI (i + 1)))]) (dif_up (k1 := 0) (k2 := 2) (by decide))) ?_
                            exact ih (i + 1) (pA + 0) 0 (pC + 2) 0 (by omega) (by omega) hgs
                          ·
                            exact (show False by omega).elim
                        ·
                          refine r_iconst K (nI 2) dX7_play_283 (by decide) ?_
                          refine r_goto K 288 dX7_play_284 (by decide) ?_
                          refine r_istore (lv' := [(0, .ref (b 0)), (1, .int (nI xk)), (2, .int (nI yk)), (7, .int ((nI pA - nI pC) + (((-1) + (nI 0)) - (nI 1)))), (8, .int (nI 2)), (9, .int (nI pD)), (10, .int (nI i)), (11, .int (nI u1)), (12, .int (nI u2)), (13, .int M), (14, .int (nI e1)), (15, .int (nI e2))]) K dX7_play_288 (by decide) rfl ?_
                          refine r_iload K dX7_play_290 rfl ?_
                          refine r_iconst K (nI 2) dX7_play_292 (by decide) ?_
                          refine r_ic_ne K 300 dX7_play_293 (by decide) (by omega) (by decide) (fun h61 => ?_) (fun h61 => ?_)
                          ·
                            refine r_iconst K (nI 0) dX7_play_300 (by decide) ?_
                            refine r_istore (lv' := [(0, .ref (b 0)), (1, .int (nI xk)), (2, .int (nI yk)), (7, .int ((nI pA - nI pC) + (((-1) + (nI 0)) - (nI 1)))), (8, .int (nI 2)), (9, .int (nI 0)), (10, .int (nI i)), (11, .int (nI u1)), (12, .int (nI u2)), (13, .int M), (14, .int (nI e1)), (15, .int (nI e2))]) K dX7_play_301 (by decide) rfl ?_
                            refine r_iinc (lv' := [(0, .ref (b 0)), (1, .int (nI xk)), (2, .int (nI yk)), (7, .int ((nI pA - nI pC) + (((-1) + (nI 0)) - (nI 1)))), (8, .int (nI 2)), (9, .int (nI 0)), (10, .int (nI (i + 1))), (11, .int (nI u1)), (12, .int (nI u2)), (13, .int M), (14, .int (nI e1)), (15, .int (nI e2))]) K dX7_play_303 rfl (nI_1 _) (by decide) rfl ?_
                            refine r_goto K 126 dX7_play_306 (by decide) ?_
                            refine r_pick [0, 1, 2, 3, 4, 5, 6] K rfl ?_
                            have hgs := gm_st false true hI hu1 hu2 (decide_eq_false (by omega)) (decide_eq_true (by omega))
                            rw [← he1, ← he2] at hgs
                            rw [oneN_n h54, oneN_y h55, twoN_y h59, twoN_n h61] at hgs
                            refine r_pick [0, 1, 2, 3, 4, 5, 6] K rfl ?_
                            refine r_lv (lv' := [(0, .ref (b 0)), (1, .int (nI xk)), (2, .int (nI yk)), (7, .int (nI (pA + 0) - nI (pC + 2))), (8, .int (nI 2)), (9, .int (nI 0)), (10, .int (nI (i + 1)))]) (congrArg (fun u : Int32 => [(0, Value.ref (b 0)), (1, .int (nI xk)), (2, .int (nI yk)), (7, .int u), (8, .int (nI 2)), (9, .int (nI 0)), (10, .int (nI (i + 1)))]) (dif_up (k1 := 0) (k2 := 2) (by decide))) ?_
                            exact ih (i + 1) (pA + 0) 2 (pC + 2) 0 (by omega) (by omega) hgs
                          ·
                            exact (show False by omega).elim
                    ·
                      refine r_iconst K (nI 1) dX7_play_256 (by decide) ?_
                      refine r_goto K 261 dX7_play_257 (by decide) ?_
                      refine r_iaddR K dX7_play_261 ?_
                      refine r_iload K dX7_play_262 rfl ?_
                      refine r_iconst K (nI 1) dX7_play_264 (by decide) ?_
                      refine r_ic_ne K 272 dX7_play_265 (by decide) (by omega) (by decide) (fun h62 => ?_) (fun h62 => ?_)
                      ·
                        refine r_iconst K (nI 0) dX7_play_272 (by decide) ?_
                        refine r_isubR K dX7_play_273 ?_
                        refine r_iaddR K dX7_play_274 ?_
                        refine r_istore (lv' := [(0, .ref (b 0)), (1, .int (nI xk)), (2, .int (nI yk)), (7, .int ((nI pA - nI pC) + (((-1) + (nI 1)) - (nI 0)))), (8, .int (nI pB)), (9, .int (nI pD)), (10, .int (nI i)), (11, .int (nI u1)), (12, .int (nI u2)), (13, .int M), (14, .int (nI e1)), (15, .int (nI e2))]) K dX7_play_275 (by decide) rfl ?_
                        refine r_iload K dX7_play_277 rfl ?_
                        refine r_iconst K (nI 2) dX7_play_279 (by decide) ?_
                        refine r_ic_ne K 287 dX7_play_280 (by decide) (by omega) (by decide) (fun h63 => ?_) (fun h63 => ?_)
                        ·
                          refine r_iconst K (nI 0) dX7_play_287 (by decide) ?_
                          refine r_istore (lv' := [(0, .ref (b 0)), (1, .int (nI xk)), (2, .int (nI yk)), (7, .int ((nI pA - nI pC) + (((-1) + (nI 1)) - (nI 0)))), (8, .int (nI 0)), (9, .int (nI pD)), (10, .int (nI i)), (11, .int (nI u1)), (12, .int (nI u2)), (13, .int M), (14, .int (nI e1)), (15, .int (nI e2))]) K dX7_play_288 (by decide) rfl ?_
                          refine r_iload K dX7_play_290 rfl ?_
                          refine r_iconst K (nI 2) dX7_play_292 (by decide) ?_
                          refine r_ic_ne K 300 dX7_play_293 (by decide) (by omega) (by decide) (fun h64 => ?_) (fun h64 => ?_)
                          ·
                            refine r_iconst K (nI 0) dX7_play_300 (by decide) ?_
                            refine r_istore (lv' := [(0, .ref (b 0)), (1, .int (nI xk)), (2, .int (nI yk)), (7, .int ((nI pA - nI pC) + (((-1) + (nI 1)) - (nI 0)))), (8, .int (nI 0)), (9, .int (nI 0)), (10, .int (nI i)), (11, .int (nI u1)), (12, .int (nI u2)), (13, .int M), (14, .int (nI e1)), (15, .int (nI e2))]) K dX7_play_301 (by decide) rfl ?_
                            refine r_iinc (lv' := [(0, .ref (b 0)), (1, .int (nI xk)), (2, .int (nI yk)), (7, .int ((nI pA - nI pC) + (((-1) + (nI 1)) - (nI 0)))), (8, .int (nI 0)), (9, .int (nI 0)), (10, .int (nI (i + 1))), (11, .int (nI u1)), (12, .int (nI u2)), (13, .int M), (14, .int (nI e1)), (15, .int (nI e2))]) K dX7_play_303 rfl (nI_1 _) (by decide) rfl ?_
                            refine r_goto K 126 dX7_play_306 (by decide) ?_
                            refine r_pick [0, 1, 2, 3, 4, 5, 6] K rfl ?_
                            have hgs := gm_st false true hI hu1 hu2 (decide_eq_false (by omega)) (decide_eq_true (by omega))
                            rw [← he1, ← he2] at hgs
                            rw [oneN_y h54, oneN_n h62, twoN_n h63, twoN_n h64] at hgs
                            refine r_pick [0, 1, 2, 3, 4, 5, 6] K rfl ?_
                            refine r_lv (lv' := [(0, .ref (b 0)), (1, .int (nI xk)), (2, .int (nI yk)), (7, .int (nI (pA + 1) - nI (pC + 1))), (8, .int (nI 0)), (9, .int (nI 0)), (10, .int (nI (i + 1)))]) (congrArg (fun u : Int32 => [(0, Value.ref (b 0)), (1, .int (nI xk)), (2, .int (nI yk)), (7, .int u), (8, .int (nI 0)), (9, .int (nI 0)), (10, .int (nI (i + 1)))]) (dif_up (k1 := 1) (k2 := 1) (by decide))) ?_
                            exact ih (i + 1) (pA + 1) 0 (pC + 1) 0 (by omega) (by omega) hgs
                          ·
                            refine r_iconst K (nI 2) dX7_play_296 (by decide) ?_
                            refine r_goto K 301 dX7_play_297 (by decide) ?_
                            refine r_istore (lv' := [(0, .ref (b 0)), (1, .int (nI xk)), (2, .int (nI yk)), (7, .int ((nI pA - nI pC) + (((-1) + (nI 1)) - (nI 0)))), (8, .int (nI 0)), (9, .int (nI 2)), (10, .int (nI i)), (11, .int (nI u1)), (12, .int (nI u2)), (13, .int M), (14, .int (nI e1)), (15, .int (nI e2))]) K dX7_play_301 (by decide) rfl ?_
                            refine r_iinc (lv' := [(0, .ref (b 0)), (1, .int (nI xk)), (2, .int (nI yk)), (7, .int ((nI pA - nI pC) + (((-1) + (nI 1)) - (nI 0)))), (8, .int (nI 0)), (9, .int (nI 2)), (10, .int (nI (i + 1))), (11, .int (nI u1)), (12, .int (nI u2)), (13, .int M), (14, .int (nI e1)), (15, .int (nI e2))]) K dX7_play_303 rfl (nI_1 _) (by decide) rfl ?_
                            refine r_goto K 126 dX7_play_306 (by decide) ?_
                            refine r_pick [0, 1, 2, 3, 4, 5, 6] K rfl ?_
                            have hgs := gm_st false true hI hu1 hu2 (decide_eq_false (by omega)) (decide_eq_true (by omega))
                            rw [← he1, ← he2] at hgs
                            rw [oneN_y h54, oneN_n h62, twoN_n h63, twoN_y h64] at hgs
                            refine r_pick [0, 1, 2, 3, 4, 5, 6] K rfl ?_
                            refine r_lv (lv' := [(0, .ref (b 0)), (1, .int (nI xk)), (2, .int (nI yk)), (7, .int (nI (pA + 1) - nI (pC + 1))), (8, .int (nI 0)), (9, .int (nI 2)), (10, .int (nI (i + 1)))]) (congrArg (fun u : Int32 => [(0, Value.ref (b 0)), (1, .int (nI xk)), (2, .int (nI yk)), (7, .int u), (8, .int (nI 0)), (9, .int (nI 2)), (10, .int (nI (i + 1)))]) (dif_up (k1 := 1) (k2 := 1) (by decide))) ?_
                            exact ih (i + 1) (pA + 1) 0 (pC + 1) 2 (by omega) (by omega) hgs
                        ·
                          exact (show False by omega).elim
                      ·
                        refine r_iconst K (nI 1) dX7_play_268 (by decide) ?_
                        refine r_goto K 273 dX7_play_269 (by decide) ?_
                        refine r_isubR K dX7_play_273 ?_
                        refine r_iaddR K dX7_play_274 ?_
                        refine r_istore (lv' := [(0, .ref (b 0)), (1, .int (nI xk)), (2, .int (nI yk)), (7, .int ((nI pA - nI pC) + (((-1) + (nI 1)) - (nI 1)))), (8, .int (nI pB)), (9, .int (nI pD)), (10, .int (nI i)), (11, .int (nI u1)), (12, .int (nI u2)), (13, .int M), (14, .int (nI e1)), (15, .int (nI e2))]) K dX7_play_275 (by decide) rfl ?_
                        refine r_iload K dX7_play_277 rfl ?_
                        refine r_iconst K (nI 2) dX7_play_279 (by decide) ?_
                        refine r_ic_ne K 287 dX7_play_280 (by decide) (by omega) (by decide) (fun h65 => ?_) (fun h65 => ?_)
                        ·
                          refine r_iconst K (nI 0) dX7_play_287 (by decide) ?_
                          refine r_istore (lv' := [(0, .ref (b 0)), (1, .int (nI xk)), (2, .int (nI yk)), (7, .int ((nI pA - nI pC) + (((-1) + (nI 1)) - (nI 1)))), (8, .int (nI 0)), (9, .int (nI pD)), (10, .int (nI i)), (11, .int (nI u1)), (12, .int (nI u2)), (13, .int M), (14, .int (nI e1)), (15, .int (nI e2))]) K dX7_play_288 (by decide) rfl ?_
                          refine r_iload K dX7_play_290 rfl ?_
                          refine r_iconst K (nI 2) dX7_play_292 (by decide) ?_
                          refine r_ic_ne K 300 dX7_play_293 (by decide) (by omega) (by decide) (fun h66 => ?_) (fun h66 => ?_)
                          ·
                            refine r_iconst K (nI 0) dX7_play_300 (by decide) ?_
                            refine r_istore (lv' := [(0, .ref (b 0)), (1, .int (nI xk)), (2, .int (nI yk)), (7, .int ((nI pA - nI pC) + (((-1) + (nI 1)) - (nI 1)))), (8, .int (nI 0)), (9, .int (nI 0)), (10, .int (nI i)), (11, .int (nI u1)), (12, .int (nI u2)), (13, .int M), (14, .int (nI e1)), (15, .int (nI e2))]) K dX7_play_301 (by decide) rfl ?_
                            refine r_iinc (lv' := [(0, .ref (b 0)), (1, .int (nI xk)), (2, .int (nI yk)), (7, .int ((nI pA - nI pC) + (((-1) + (nI 1)) - (nI 1)))), (8, .int (nI 0)), (9, .int (nI 0)), (10, .int (nI (i + 1))), (11, .int (nI u1)), (12, .int (nI u2)), (13, .int M), (14, .int (nI e1)), (15, .int (nI e2))]) K dX7_play_303 rfl (nI_1 _) (by decide) rfl ?_
                            refine r_goto K 126 dX7_play_306 (by decide) ?_
                            refine r_pick [0, 1, 2, 3, 4, 5, 6] K rfl ?_
                            have hgs := gm_st false true hI hu1 hu2 (decide_eq_false (by omega)) (decide_eq_true (by omega))
                            rw [← he1, ← he2] at hgs
                            rw [oneN_y h54, oneN_y h62, twoN_n h65, twoN_n h66] at hgs
                            refine r_pick [0, 1, 2, 3, 4, 5, 6] K rfl ?_
                            refine r_lv (lv' := [(0, .ref (b 0)), (1, .int (nI xk)), (2, .int (nI yk)), (7, .int (nI (pA + 1) - nI (pC + 2))), (8, .int (nI 0)), (9, .int (nI 0)), (10, .int (nI (i + 1)))]) (congrArg (fun u : Int32 => [(0, Value.ref (b 0)), (1, .int (nI xk)), (2, .int (nI yk)), (7, .int u), (8, .int (nI 0)), (9, .int (nI 0)), (10, .int (nI (i + 1)))]) (dif_up (k1 := 1) (k2 := 2) (by decide))) ?_
                            exact ih (i + 1) (pA + 1) 0 (pC + 2) 0 (by omega) (by omega) hgs
                          ·
                            exact (show False by omega).elim
                        ·
                          exact (show False by omega).elim
                ·
                  exact absurd ((more_le hM hm1 hm3 hm2 hm4).mpr hq196) h52
            ·
              have hq196 := Nat.not_le.mp (fun q => h35 ((more_le hM hm1 hm3 hm2 hm4).mpr q))
              refine r_iconst K (nI 1) dX7_play_199 (by decide) ?_
              refine r_goto K 204 dX7_play_200 (by decide) ?_
              refine r_callVs (rest := []) K (c_X7_effect l D b c S J25 hV u1 u2 true (by omega) (by omega)) 3 gX7_play_X7_effect rfl (by decide +kernel) rfl (by decide) 0 (wM_g0 _ _ _ _) rfl rfl (Nat.le_of_ble_eq_true rfl) dX7_play_204 rfl rfl ?_
              obtain ⟨e1, he1⟩ : ∃ y, y = (effN S u1 u2 true) := ⟨_, rfl⟩
              refine r_top (congrArg nI he1.symm) ?_
              have he1l : e1 ≤ 2 := by rw [he1]; exact effN_le _ _ _ _
              refine r_istore (lv' := [(0, .ref (b 0)), (1, .int (nI xk)), (2, .int (nI yk)), (7, .int (nI pA - nI pC)), (8, .int (nI pB)), (9, .int (nI pD)), (10, .int (nI i)), (11, .int (nI u1)), (12, .int (nI u2)), (13, .int M), (14, .int (nI e1))]) K dX7_play_207 (by decide) rfl ?_
              refine r_aload_n K dX7_play_209 rfl ?_
              refine r_iload K dX7_play_210 rfl ?_
              refine r_iload K dX7_play_212 rfl ?_
              refine r_iload K dX7_play_214 rfl ?_
              refine r_if_geR K 223 dX7_play_216 (by decide) (fun h67 => ?_) (fun h67 => ?_)
              ·
                have hq216 := (more_ge hM hm1 hm3 hm2 hm4).mp h67
                refine r_iconst K (nI 0) dX7_play_223 (by decide) ?_
                refine r_callVs (rest := []) K (c_X7_effect l D b c S J25 hV u2 u1 false (by omega) (by omega)) 3 gX7_play_X7_effect rfl (by decide +kernel) rfl (by decide) 0 (wM_g0 _ _ _ _) rfl rfl (Nat.le_of_ble_eq_true rfl) dX7_play_224 rfl rfl ?_
                obtain ⟨e2, he2⟩ : ∃ y, y = (effN S u2 u1 false) := ⟨_, rfl⟩
                refine r_top (congrArg nI he2.symm) ?_
                have he2l : e2 ≤ 2 := by rw [he2]; exact effN_le _ _ _ _
                refine r_istore (lv' := [(0, .ref (b 0)), (1, .int (nI xk)), (2, .int (nI yk)), (7, .int (nI pA - nI pC)), (8, .int (nI pB)), (9, .int (nI pD)), (10, .int (nI i)), (11, .int (nI u1)), (12, .int (nI u2)), (13, .int M), (14, .int (nI e1)), (15, .int (nI e2))]) K dX7_play_227 (by decide) rfl ?_
                refine r_iload K dX7_play_229 rfl ?_
                refine r_iload K dX7_play_231 rfl ?_
                refine r_if_leR K 240 dX7_play_233 (by decide) (fun h68 => ?_) (fun h68 => ?_)
                ·
                  exact absurd ((more_le hM hm1 hm3 hm2 hm4).mp h68) (Nat.not_le.mpr hq196)
                ·
                  refine r_iconst K (nI 1) dX7_play_236 (by decide) ?_
                  refine r_goto K 250 dX7_play_237 (by decide) ?_
                  refine r_iload K dX7_play_250 rfl ?_
                  refine r_iconst K (nI 1) dX7_play_252 (by decide) ?_
                  refine r_ic_ne K 260 dX7_play_253 (by decide) (by omega) (by decide) (fun h69 => ?_) (fun h69 => ?_)
                  ·
                    refine r_iconst K (nI 0) dX7_play_260 (by decide) ?_
                    refine r_iadd K dX7_play_261 ?_
                    refine r_iload K dX7_play_262 rfl ?_
                    refine r_iconst K (nI 1) dX7_play_264 (by decide) ?_
                    refine r_ic_ne K 272 dX7_play_265 (by decide) (by omega) (by decide) (fun h70 => ?_) (fun h70 => ?_)
                    ·
                      refine r_iconst K (nI 0) dX7_play_272 (by decide) ?_
                      refine r_isubR K dX7_play_273 ?_
                      refine r_iaddR K dX7_play_274 ?_
                      refine r_istore (lv' := [(0, .ref (b 0)), (1, .int (nI xk)), (2, .int (nI yk)), (7, .int ((nI pA - nI pC) + ((nI (1 + 0)) - (nI 0)))), (8, .int (nI pB)), (9, .int (nI pD)), (10, .int (nI i)), (11, .int (nI u1)), (12, .int (nI u2)), (13, .int M), (14, .int (nI e1)), (15, .int (nI e2))]) K dX7_play_275 (by decide) rfl ?_
                      refine r_iload K dX7_play_277 rfl ?_
                      refine r_iconst K (nI 2) dX7_play_279 (by decide) ?_
                      refine r_ic_ne K 287 dX7_play_280 (by decide) (by omega) (by decide) (fun h71 => ?_) (fun h71 => ?_)
                      ·
                        refine r_iconst K (nI 0) dX7_play_287 (by decide) ?_
                        refine r_istore (lv' := [(0, .ref (b 0)), (1, .int (nI xk)), (2, .int (nI yk)), (7, .int ((nI pA - nI pC) + ((nI (1 + 0)) - (nI 0)))), (8, .int (nI 0)), (9, .int (nI pD)), (10, .int (nI i)), (11, .int (nI u1)), (12, .int (nI u2)), (13, .int M), (14, .int (nI e1)), (15, .int (nI e2))]) K dX7_play_288 (by decide) rfl ?_
                        refine r_iload K dX7_play_290 rfl ?_
                        refine r_iconst K (nI 2) dX7_play_292 (by decide) ?_
                        refine r_ic_ne K 300 dX7_play_293 (by decide) (by omega) (by decide) (fun h72 => ?_) (fun h72 => ?_)
                        ·
                          refine r_iconst K (nI 0) dX7_play_300 (by decide) ?_
                          refine r_istore (lv' := [(0, .ref (b 0)), (1, .int (nI xk)), (2, .int (nI yk)), (7, .int ((nI pA - nI pC) + ((nI (1 + 0)) - (nI 0)))), (8, .int (nI 0)), (9, .int (nI 0)), (10, .int (nI i)), (11, .int (nI u1)), (12, .int (nI u2)), (13, .int M), (14, .int (nI e1)), (15, .int (nI e2))]) K dX7_play_301 (by decide) rfl ?_
                          refine r_iinc (lv' := [(0, .ref (b 0)), (1, .int (nI xk)), (2, .int (nI yk)), (7, .int ((nI pA - nI pC) + ((nI (1 + 0)) - (nI 0)))), (8, .int (nI 0)), (9, .int (nI 0)), (10, .int (nI (i + 1))), (11, .int (nI u1)), (12, .int (nI u2)), (13, .int M), (14, .int (nI e1)), (15, .int (nI e2))]) K dX7_play_303 rfl (nI_1 _) (by decide) rfl ?_
                          refine r_goto K 126 dX7_play_306 (by decide) ?_
                          refine r_pick [0, 1, 2, 3, 4, 5, 6] K rfl ?_
                          have hgs := gm_st true false hI hu1 hu2 (decide_eq_true (by omega)) (decide_eq_false (by omega))
                          rw [← he1, ← he2] at hgs
                          rw [oneN_n h69, oneN_n h70, twoN_n h71, twoN_n h72] at hgs
                          refine r_pick [0, 1, 2, 3, 4, 5, 6] K rfl ?_
                          refine r_lv (lv' := [(0, .ref (b 0)), (1, .int (nI xk)), (2, .int (nI yk)), (7, .int (nI (pA + 1) - nI (pC + 0))), (8, .int (nI 0)), (9, .int (nI 0)), (10, .int (nI (i + 1)))]) (congrArg (fun u : Int32 => [(0, Value.ref (b 0)), (1, .int (nI xk)), (2, .int (nI yk)), (7, .int u), (8, .int (nI 0)), (9, .int (nI 0)), (10, .int (nI (i + 1)))]) (dif_up (k1 := 1) (k2 := 0) (by decide))) ?_
                          exact ih (i + 1) (pA + 1) 0 (pC + 0) 0 (by omega) (by omega) hgs
                        ·
                          refine r_iconst K (nI 2) dX7_play_296 (by decide) ?_
                          refine r_goto K 301 dX7_play_297 (by decide) ?_
                          refine r_istore (lv' := [(0, .ref (b 0)), (1, .int (nI xk)), (2, .int (nI yk)), (7, .int ((nI pA - nI pC) + ((nI (1 + 0)) - (nI 0)))), (8, .int (nI 0)), (9, .int (nI 2)), (10, .int (nI i)), (11, .int (nI u1)), (12, .int (nI u2)), (13, .int M), (14, .int (nI e1)), (15, .int (nI e2))]) K dX7_play_301 (by decide) rfl ?_
                          refine r_iinc (lv' := [(0, .ref (b 0)), (1, .int (nI xk)), (2, .int (nI yk)), (7, .int ((nI pA - nI pC) + ((nI (1 + 0)) - (nI 0)))), (8, .int (nI 0)), (9, .int (nI 2)), (10, .int (nI (i + 1))), (11, .int (nI u1)), (12, .int (nI u2)), (13, .int M), (14, .int (nI e1)), (15, .int (nI e2))]) K dX7_play_303 rfl (nI_1 _) (by decide) rfl ?_
                          refine r_goto K 126 dX7_play_306 (by decide) ?_
                          refine r_pick [0, 1, 2, 3, 4, 5, 6] K rfl ?_
                          have hgs := gm_st true false hI hu1 hu2 (decide_eq_true (by omega)) (decide_eq_false (by omega))
                          rw [← he1, ← he2] at hgs
                          rw [oneN_n h69, oneN_n h70, twoN_n h71, twoN_y h72] at hgs
                          refine r_pick [0, 1, 2, 3, 4, 5, 6] K rfl ?_
                          refine r_lv (lv' := [(0, .ref (b 0)), (1, .int (nI xk)), (2, .int (nI yk)), (7, .int (nI (pA + 1) - nI (pC + 0))), (8, .int (nI 0)), (9, .int (nI 2)), (10, .int (nI (i + 1)))]) (congrArg (fun u : Int32 => [(0, Value.ref (b 0)), (1, .int (nI xk)), (2, .int (nI yk)), (7, .int u), (8, .int (nI 0)), (9, .int (nI 2)), (10, .int (nI (i + 1)))]) (dif_up (k1 := 1) (k2 := 0) (by decide))) ?_
                          exact ih (i + 1) (pA + 1) 0 (pC + 0) 2 (by omega) (by omega) hgs
                      ·
                        refine r_iconst K (nI 2) dX7_play_283 (by decide) ?_
                        refine r_goto K 288 dX7_play_284 (by decide) ?_
                        refine r_istore (lv' := [(0, .ref (b 0)), (1, .int (nI xk)), (2, .int (nI yk)), (7, .int ((nI pA - nI pC) + ((nI (1 + 0)) - (nI 0)))), (8, .int (nI 2)), (9, .int (nI pD)), (10, .int (nI i)), (11, .int (nI u1)), (12, .int (nI u2)), (13, .int M), (14, .int (nI e1)), (15, .int (nI e2))]) K dX7_play_288 (by decide) rfl ?_
                        refine r_iload K dX7_play_290 rfl ?_
                        refine r_iconst K (nI 2) dX7_play_292 (by decide) ?_
                        refine r_ic_ne K 300 dX7_play_293 (by decide) (by omega) (by decide) (fun h73 => ?_) (fun h73 => ?_)
                        ·
                          refine r_iconst K (nI 0) dX7_play_300 (by decide) ?_
                          refine r_istore (lv' := [(0, .ref (b 0)), (1, .int (nI xk)), (2, .int (nI yk)), (7, .int ((nI pA - nI pC) + ((nI (1 + 0)) - (nI 0)))), (8, .int (nI 2)), (9, .int (nI 0)), (10, .int (nI i)), (11, .int (nI u1)), (12, .int (nI u2)), (13, .int M), (14, .int (nI e1)), (15, .int (nI e2))]) K dX7_play_301 (by decide) rfl ?_
                          refine r_iinc (lv' := [(0, .ref (b 0)), (1, .int (nI xk)), (2, .int (nI yk)), (7, .int ((nI pA - nI pC) + ((nI (1 + 0)) - (nI 0)))), (8, .int (nI 2)), (9, .int (nI 0)), (10, .int (nI (i + 1))), (11, .int (nI u1)), (12, .int (nI u2)), (13, .int M), (14, .int (nI e1)), (15, .int (nI e2))]) K dX7_play_303 rfl (nI_1 _) (by decide) rfl ?_
                          refine r_goto K 126 dX7_play_306 (by decide) ?_
                          refine r_pick [0, 1, 2, 3, 4, 5, 6] K rfl ?_
                          have hgs := gm_st true false hI hu1 hu2 (decide_eq_true (by omega)) (decide_eq_false (by omega))
                          rw [← he1, ← he2] at hgs
                          rw [oneN_n h69, oneN_n h70, twoN_y h71, twoN_n h73] at hgs
                          refine r_pick [0, 1, 2, 3, 4, 5, 6] K rfl ?_
                          refine r_lv (lv' := [(0, .ref (b 0)), (1, .int (nI xk)), (2, .int (nI yk)), (7, .int (nI (pA + 1) - nI (pC + 0))), (8, .int (nI 2)), (9, .int (nI 0)), (10, .int (nI (i + 1)))]) (congrArg (fun u : Int32 => [(0, Value.ref (b 0)), (1, .int (nI xk)), (2, .int (nI yk)), (7, .int u), (8, .int (nI 2)), (9, .int (nI 0)), (10, .int (nI (i + 1)))]) (dif_up (k1 := 1) (k2 := 0) (by decide))) ?_
                          exact ih (i + 1) (pA + 1) 2 (pC + 0) 0 (by omega) (by omega) hgs
                        ·
                          refine r_iconst K (nI 2) dX7_play_296 (by decide) ?_
                          refine r_goto K 301 dX7_play_297 (by decide) ?_
                          refine r_istore (lv' := [(0, .ref (b 0)), (1, .int (nI xk)), (2, .int (nI yk)), (7, .int ((nI pA - nI pC) + ((nI (1 + 0)) - (nI 0)))), (8, .int (nI 2)), (9, .int (nI 2)), (10, .int (nI i)), (11, .int (nI u1)), (12, .int (nI u2)), (13, .int M), (14, .int (nI e1)), (15, .int (nI e2))]) K dX7_play_301 (by decide) rfl ?_
                          refine r_iinc (lv' := [(0, .ref (b 0)), (1, .int (nI xk)), (2, .int (nI yk)), (7, .int ((nI pA - nI pC) + ((nI (1 + 0)) - (nI 0)))), (8, .int (nI 2)), (9, .int (nI 2)), (10, .int (nI (i + 1))), (11, .int (nI u1)), (12, .int (nI u2)), (13, .int M), (14, .int (nI e1)), (15, .int (nI e2))]) K dX7_play_303 rfl (nI_1 _) (by decide) rfl ?_
                          refine r_goto K 126 dX7_play_306 (by decide) ?_
                          refine r_pick [0, 1, 2, 3, 4, 5, 6] K rfl ?_
                          have hgs := gm_st true false hI hu1 hu2 (decide_eq_true (by omega)) (decide_eq_false (by omega))
                          rw [← he1, ← he2] at hgs
                          rw [oneN_n h69, oneN_n h70, twoN_y h71, twoN_y h73] at hgs
                          refine r_pick [0, 1, 2, 3, 4, 5, 6] K rfl ?_
                          refine r_lv (lv' := [(0, .ref (b 0)), (1, .int (nI xk)), (2, .int (nI yk)), (7, .int (nI (pA + 1) - nI (pC + 0))), (8, .int (nI 2)), (9, .int (nI 2)), (10, .int (nI (i + 1)))]) (congrArg (fun u : Int32 => [(0, Value.ref (b 0)), (1, .int (nI xk)), (2, .int (nI yk)), (7, .int u), (8, .int (nI 2)), (9, .int (nI 2)), (10, .int (nI (i + 1)))]) (dif_up (k1 := 1) (k2 := 0) (by decide))) ?_
                          exact ih (i + 1) (pA + 1) 2 (pC + 0) 2 (by omega) (by omega) hgs
                    ·
                      refine r_iconst K (nI 1) dX7_play_268 (by decide) ?_
                      refine r_goto K 273 dX7_play_269 (by decide) ?_
                      refine r_isubR K dX7_play_273 ?_
                      refine r_iaddR K dX7_play_274 ?_
                      refine r_istore (lv' := [(0, .ref (b 0)), (1, .int (nI xk)), (2, .int (nI yk)), (7, .int ((nI pA - nI pC) + ((nI (1 + 0)) - (nI 1)))), (8, .int (nI pB)), (9, .int (nI pD)), (10, .int (nI i)), (11, .int (nI u1)), (12, .int (nI u2)), (13, .int M), (14, .int (nI e1)), (15, .int (nI e2))]) K dX7_play_275 (by decide) rfl ?_
                      refine r_iload K dX7_play_277 rfl ?_
                      refine r_iconst K (nI 2) dX7_play_279 (by decide) ?_
                      refine r_ic_ne K 287 dX7_play_280 (by decide) (by omega) (by decide) (fun h74 => ?_) (fun h74 => ?_)
                      ·
                        refine r_iconst K (nI 0) dX7_play_287 (by decide) ?_
                        refine r_istore (lv' := [(0, .ref (b 0)), (1, .int (nI xk)), (2, .int (nI yk)), (7, .int ((nI pA - nI pC) + ((nI (1 + 0)) - (nI 1)))), (8, .int (nI 0)), (9, .int (nI pD)), (10, .int (nI i)), (11, .int (nI u1)), (12, .int (nI u2)), (13, .int M), (14, .int (nI e1)), (15, .int (nI e2))]) K dX7_play_288 (by decide) rfl ?_
                        refine r_iload K dX7_play_290 rfl ?_
                        refine r_iconst K (nI 2) dX7_play_292 (by decide) ?_
                        refine r_ic_ne K 300 dX7_play_293 (by decide) (by omega) (by decide) (fun h75 => ?_) (fun h75 => ?_)
                        ·
                          refine r_iconst K (nI 0) dX7_play_300 (by decide) ?_
                          refine r_istore (lv' := [(0, .ref (b 0)), (1, .int (nI xk)), (2, .int (nI yk)), (7, .int ((nI pA - nI pC) + ((nI (1 + 0)) - (nI 1)))), (8, .int (nI 0)), (9, .int (nI 0)), (10, .int (nI i)), (11, .int (nI u1)), (12, .int (nI u2)), (13, .int M), (14, .int (nI e1)), (15, .int (nI e2))]) K dX7_play_301 (by decide) rfl ?_
                          refine r_iinc (lv' := [(0, .ref (b 0)), (1, .int (nI xk)), (2, .int (nI yk)), (7, .int ((nI pA - nI pC) + ((nI (1 + 0)) - (nI 1)))), (8, .int (nI 0)), (9, .int (nI 0)), (10, .int (nI (i + 1))), (11, .int (nI u1)), (12, .int (nI u2)), (13, .int M), (14, .int (nI e1)), (15, .int (nI e2))]) K dX7_play_303 rfl (nI_1 _) (by decide) rfl ?_
                          refine r_goto K 126 dX7_play_306 (by decide) ?_
                          refine r_pick [0, 1, 2, 3, 4, 5, 6] K rfl ?_
                          have hgs := gm_st true false hI hu1 hu2 (decide_eq_true (by omega)) (decide_eq_false (by omega))
                          rw [← he1, ← he2] at hgs
                          rw [oneN_n h69, oneN_y h70, twoN_n h74, twoN_n h75] at hgs
                          refine r_pick [0, 1, 2, 3, 4, 5, 6] K rfl ?_
                          refine r_lv (lv' := [(0, .ref (b 0)), (1, .int (nI xk)), (2, .int (nI yk)), (7, .int (nI (pA + 1) - nI (pC + 1))), (8, .int (nI 0)), (9, .int (nI 0)), (10, .int (nI (i + 1)))]) (congrArg (fun u : Int32 => [(0, Value.ref (b 0)), (1, .int (nI xk)), (2, .int (nI yk)), (7, .int u), (8, .int (nI 0)), (9, .int (nI 0)), (10, .int (nI (i + 1)))]) (dif_up (k1 := 1) (k2 := 1) (by decide))) ?_
                          exact ih (i + 1) (pA + 1) 0 (pC + 1) 0 (by omega) (by omega) hgs
                        ·
                          exact (show False by omega).elim
                      ·
                        refine r_iconst K (nI 2) dX7_play_283 (by decide) ?_
                        refine r_goto K 288 dX7_play_284 (by decide) ?_
                        refine r_istore (lv' := [(0, .ref (b 0)), (1, .int (nI xk)), (2, .int (nI yk)), (7, .int ((nI pA - nI pC) + ((nI (1 + 0)) - (nI 1)))), (8, .int (nI 2)), (9, .int (nI pD)), (10, .int (nI i)), (11, .int (nI u1)), (12, .int (nI u2)), (13, .int M), (14, .int (nI e1)), (15, .int (nI e2))]) K dX7_play_288 (by decide) rfl ?_
                        refine r_iload K dX7_play_290 rfl ?_
                        refine r_iconst K (nI 2) dX7_play_292 (by decide) ?_
                        refine r_ic_ne K 300 dX7_play_293 (by decide) (by omega) (by decide) (fun h76 => ?_) (fun h76 => ?_)
                        ·
                          refine r_iconst K (nI 0) dX7_play_300 (by decide) ?_
                          refine r_istore (lv' := [(0, .ref (b 0)), (1, .int (nI xk)), (2, .int (nI yk)), (7, .int ((nI pA - nI pC) + ((nI (1 + 0)) - (nI 1)))), (8, .int (nI 2)), (9, .int (nI 0)), (10, .int (nI i)), (11, .int (nI u1)), (12, .int (nI u2)), (13, .int M), (14, .int (nI e1)), (15, .int (nI e2))]) K dX7_play_301 (by decide) rfl ?_
                          refine r_iinc (lv' := [(0, .ref (b 0)), (1, .int (nI xk)), (2, .int (nI yk)), (7, .int ((nI pA - nI pC) + ((nI (1 + 0)) - (nI 1)))), (8, .int (nI 2)), (9, .int (nI 0)), (10, .int (nI (i + 1))), (11, .int (nI u1)), (12, .int (nI u2)), (13, .int M), (14, .int (nI e1)), (15, .int (nI e2))]) K dX7_play_303 rfl (nI_1 _) (by decide) rfl ?_
                          refine r_goto K 126 dX7_play_306 (by decide) ?_
                          refine r_pick [0, 1, 2, 3, 4, 5, 6] K rfl ?_
                          have hgs := gm_st true false hI hu1 hu2 (decide_eq_true (by omega)) (decide_eq_false (by omega))
                          rw [← he1, ← he2] at hgs
                          rw [oneN_n h69, oneN_y h70, twoN_y h74, twoN_n h76] at hgs
                          refine r_pick [0, 1, 2, 3, 4, 5, 6] K rfl ?_
                          refine r_lv (lv' := [(0, .ref (b 0)), (1, .int (nI xk)), (2, .int (nI yk)), (7, .int (nI (pA + 1) - nI (pC + 1))), (8, .int (nI 2)), (9, .int (nI 0)), (10, .int (nI (i + 1)))]) (congrArg (fun u : Int32 => [(0, Value.ref (b 0)), (1, .int (nI xk)), (2, .int (nI yk)), (7, .int u), (8, .int (nI 2)), (9, .int (nI 0)), (10, .int (nI (i + 1)))]) (dif_up (k1 := 1) (k2 := 1) (by decide))) ?_
                          exact ih (i + 1) (pA + 1) 2 (pC + 1) 0 (by omega) (by omega) hgs
                        ·
                          exact (show False by omega).elim
                  ·
                    refine r_iconst K (nI 1) dX7_play_256 (by decide) ?_
                    refine r_goto K 261 dX7_play_257 (by decide) ?_
                    refine r_iadd K dX7_play_261 ?_
                    refine r_iload K dX7_play_262 rfl ?_
                    refine r_iconst K (nI 1) dX7_play_264 (by decide) ?_
                    refine r_ic_ne K 272 dX7_play_265 (by decide) (by omega) (by decide) (fun h77 => ?_) (fun h77 => ?_)
                    ·
                      refine r_iconst K (nI 0) dX7_play_272 (by decide) ?_
                      refine r_isubR K dX7_play_273 ?_
                      refine r_iaddR K dX7_play_274 ?_
                      refine r_istore (lv' := [(0, .ref (b 0)), (1, .int (nI xk)), (2, .int (nI yk)), (7, .int ((nI pA - nI pC) + ((nI (1 + 1)) - (nI 0)))), (8, .int (nI pB)), (9, .int (nI pD)), (10, .int (nI i)), (11, .int (nI u1)), (12, .int (nI u2)), (13, .int M), (14, .int (nI e1)), (15, .int (nI e2))]) K dX7_play_275 (by decide) rfl ?_
                      refine r_iload K dX7_play_277 rfl ?_
                      refine r_iconst K (nI 2) dX7_play_279 (by decide) ?_
                      refine r_ic_ne K 287 dX7_play_280 (by decide) (by omega) (by decide) (fun h78 => ?_) (fun h78 => ?_)
                      ·
                        refine r_iconst K (nI 0) dX7_play_287 (by decide) ?_
                        refine r_istore (lv' := [(0, .ref (b 0)), (1, .int (nI xk)), (2, .int (nI yk)), (7, .int ((nI pA - nI pC) + ((nI (1 + 1)) - (nI 0)))), (8, .int (nI 0)), (9, .int (nI pD)), (10, .int (nI i)), (11, .int (nI u1)), (12, .int (nI u2)), (13, .int M), (14, .int (nI e1)), (15, .int (nI e2))]) K dX7_play_288 (by decide) rfl ?_
                        refine r_iload K dX7_play_290 rfl ?_
                        refine r_iconst K (nI 2) dX7_play_292 (by decide) ?_
                        refine r_ic_ne K 300 dX7_play_293 (by decide) (by omega) (by decide) (fun h79 => ?_) (fun h79 => ?_)
                        ·
                          refine r_iconst K (nI 0) dX7_play_300 (by decide) ?_
                          refine r_istore (lv' := [(0, .ref (b 0)), (1, .int (nI xk)), (2, .int (nI yk)), (7, .int ((nI pA - nI pC) + ((nI (1 + 1)) - (nI 0)))), (8, .int (nI 0)), (9, .int (nI 0)), (10, .int (nI i)), (11, .int (nI u1)), (12, .int (nI u2)), (13, .int M), (14, .int (nI e1)), (15, .int (nI e2))]) K dX7_play_301 (by decide) rfl ?_
                          refine r_iinc (lv' := [(0, .ref (b 0)), (1, .int (nI xk)), (2, .int (nI yk)), (7, .int ((nI pA - nI pC) + ((nI (1 + 1)) - (nI 0)))), (8, .int (nI 0)), (9, .int (nI 0)), (10, .int (nI (i + 1))), (11, .int (nI u1)), (12, .int (nI u2)), (13, .int M), (14, .int (nI e1)), (15, .int (nI e2))]) K dX7_play_303 rfl (nI_1 _) (by decide) rfl ?_
                          refine r_goto K 126 dX7_play_306 (by decide) ?_
                          refine r_pick [0, 1, 2, 3, 4, 5, 6] K rfl ?_
                          have hgs := gm_st true false hI hu1 hu2 (decide_eq_true (by omega)) (decide_eq_false (by omega))
                          rw [← he1, ← he2] at hgs
                          rw [oneN_y h69, oneN_n h77, twoN_n h78, twoN_n h79] at hgs
                          refine r_pick [0, 1, 2, 3, 4, 5, 6] K rfl ?_
                          refine r_lv (lv' := [(0, .ref (b 0)), (1, .int (nI xk)), (2, .int (nI yk)), (7, .int (nI (pA + 2) - nI (pC + 0))), (8, .int (nI 0)), (9, .int (nI 0)), (10, .int (nI (i + 1)))]) (congrArg (fun u : Int32 => [(0, Value.ref (b 0)), (1, .int (nI xk)), (2, .int (nI yk)), (7, .int u), (8, .int (nI 0)), (9, .int (nI 0)), (10, .int (nI (i + 1)))]) (dif_up (k1 := 2) (k2 := 0) (by decide))) ?_
                          exact ih (i + 1) (pA + 2) 0 (pC + 0) 0 (by omega) (by omega) hgs
                        ·
                          refine r_iconst K (nI 2) dX7_play_296 (by decide) ?_
                          refine r_goto K 301 dX7_play_297 (by decide) ?_
                          refine r_istore (lv' := [(0, .ref (b 0)), (1, .int (nI xk)), (2, .int (nI yk)), (7, .int ((nI pA - nI pC) + ((nI (1 + 1)) - (nI 0)))), (8, .int (nI 0)), (9, .int (nI 2)), (10, .int (nI i)), (11, .int (nI u1)), (12, .int (nI u2)), (13, .int M), (14, .int (nI e1)), (15, .int (nI e2))]) K dX7_play_301 (by decide) rfl ?_
                          refine r_iinc (lv' := [(0, .ref (b 0)), (1, .int (nI xk)), (2, .int (nI yk)), (7, .int ((nI pA - nI pC) + ((nI (1 + 1)) - (nI 0)))), (8, .int (nI 0)), (9, .int (nI 2)), (10, .int (nI (i + 1))), (11, .int (nI u1)), (12, .int (nI u2)), (13, .int M), (14, .int (nI e1)), (15, .int (nI e2))]) K dX7_play_303 rfl (nI_1 _) (by decide) rfl ?_
                          refine r_goto K 126 dX7_play_306 (by decide) ?_
                          refine r_pick [0, 1, 2, 3, 4, 5, 6] K rfl ?_
                          have hgs := gm_st true false hI hu1 hu2 (decide_eq_true (by omega)) (decide_eq_false (by omega))
                          rw [← he1, ← he2] at hgs
                          rw [oneN_y h69, oneN_n h77, twoN_n h78, twoN_y h79] at hgs
                          refine r_pick [0, 1, 2, 3, 4, 5, 6] K rfl ?_
                          refine r_lv (lv' := [(0, .ref (b 0)), (1, .int (nI xk)), (2, .int (nI yk)), (7, .int (nI (pA + 2) - nI (pC + 0))), (8, .int (nI 0)), (9, .int (nI 2)), (10, .int (nI (i + 1)))]) (congrArg (fun u : Int32 => [(0, Value.ref (b 0)), (1, .int (nI xk)), (2, .int (nI yk)), (7, .int u), (8, .int (nI 0)), (9, .int (nI 2)), (10, .int (nI (i + 1)))]) (dif_up (k1 := 2) (k2 := 0) (by decide))) ?_
                          exact ih (i + 1) (pA + 2) 0 (pC + 0) 2 (by omega) (by omega) hgs
                      ·
                        exact (show False by omega).elim
                    ·
                      refine r_iconst K (nI 1) dX7_play_268 (by decide) ?_
                      refine r_goto K 273 dX7_play_269 (by decide) ?_
                      refine r_isubR K dX7_play_273 ?_
                      refine r_iaddR K dX7_play_274 ?_
                      refine r_istore (lv' := [(0, .ref (b 0)), (1, .int (nI xk)), (2, .int (nI yk)), (7, .int ((nI pA - nI pC) + ((nI (1 + 1)) - (nI 1)))), (8, .int (nI pB)), (9, .int (nI pD)), (10, .int (nI i)), (11, .int (nI u1)), (12, .int (nI u2)), (13, .int M), (14, .int (nI e1)), (15, .int (nI e2))]) K dX7_play_275 (by decide) rfl ?_
                      refine r_iload K dX7_play_277 rfl ?_
                      refine r_iconst K (nI 2) dX7_play_279 (by decide) ?_
                      refine r_ic_ne K 287 dX7_play_280 (by decide) (by omega) (by decide) (fun h80 => ?_) (fun h80 => ?_)
                      ·
                        refine r_iconst K (nI 0) dX7_play_287 (by decide) ?_
                        refine r_istore (lv' := [(0, .ref (b 0)), (1, .int (nI xk)), (2, .int (nI yk)), (7, .int ((nI pA - nI pC) + ((nI (1 + 1)) - (nI 1)))), (8, .int (nI 0)), (9, .int (nI pD)), (10, .int (nI i)), (11, .int (nI u1)), (12, .int (nI u2)), (13, .int M), (14, .int (nI e1)), (15, .int (nI e2))]) K dX7_play_288 (by decide) rfl ?_
                        refine r_iload K dX7_play_290 rfl ?_
                        refine r_iconst K (nI 2) dX7_play_292 (by decide) ?_
                        refine r_ic_ne K 300 dX7_play_293 (by decide) (by omega) (by decide) (fun h81 => ?_) (fun h81 => ?_)
                        ·
                          refine r_iconst K (nI 0) dX7_play_300 (by decide) ?_
                          refine r_istore (lv' := [(0, .ref (b 0)), (1, .int (nI xk)), (2, .int (nI yk)), (7, .int ((nI pA - nI pC) + ((nI (1 + 1)) - (nI 1)))), (8, .int (nI 0)), (9, .int (nI 0)), (10, .int (nI i)), (11, .int (nI u1)), (12, .int (nI u2)), (13, .int M), (14, .int (nI e1)), (15, .int (nI e2))]) K dX7_play_301 (by decide) rfl ?_
                          refine r_iinc (lv' := [(0, .ref (b 0)), (1, .int (nI xk)), (2, .int (nI yk)), (7, .int ((nI pA - nI pC) + ((nI (1 + 1)) - (nI 1)))), (8, .int (nI 0)), (9, .int (nI 0)), (10, .int (nI (i + 1))), (11, .int (nI u1)), (12, .int (nI u2)), (13, .int M), (14, .int (nI e1)), (15, .int (nI e2))]) K dX7_play_303 rfl (nI_1 _) (by decide) rfl ?_
                          refine r_goto K 126 dX7_play_306 (by decide) ?_
                          refine r_pick [0, 1, 2, 3, 4, 5, 6] K rfl ?_
                          have hgs := gm_st true false hI hu1 hu2 (decide_eq_true (by omega)) (decide_eq_false (by omega))
                          rw [← he1, ← he2] at hgs
                          rw [oneN_y h69, oneN_y h77, twoN_n h80, twoN_n h81] at hgs
                          refine r_pick [0, 1, 2, 3, 4, 5, 6] K rfl ?_
                          refine r_lv (lv' := [(0, .ref (b 0)), (1, .int (nI xk)), (2, .int (nI yk)), (7, .int (nI (pA + 2) - nI (pC + 1))), (8, .int (nI 0)), (9, .int (nI 0)), (10, .int (nI (i + 1)))]) (congrArg (fun u : Int32 => [(0, Value.ref (b 0)), (1, .int (nI xk)), (2, .int (nI yk)), (7, .int u), (8, .int (nI 0)), (9, .int (nI 0)), (10, .int (nI (i + 1)))]) (dif_up (k1 := 2) (k2 := 1) (by decide))) ?_
                          exact ih (i + 1) (pA + 2) 0 (pC + 1) 0 (by omega) (by omega) hgs
                        ·
                          exact (show False by omega).elim
                      ·
                        exact (show False by omega).elim
              ·
                exact absurd ((more_ge hM hm1 hm3 hm2 hm4).mpr (by omega)) h67
      refine r_pick [0, 1, 2, 7, 8, 9, 10] K rfl ?_
      exact L26 (S 3 1 + 1) 0 0 0 0 0 (by omega) (by omega) (gmI_0 _ _ _)
    ·
      refine r_iconst K (nI 0) dX7_play_96 (by decide) ?_
      exact hret 0 0 _ _ _ _ _ dX7_play_97 ⟨up_same, fun q => absurd q (of_decide_eq_false h1)⟩ (by rw [if_neg (of_decide_eq_false h1)]) (Nat.le_of_ble_eq_true rfl) (Nat.le_of_ble_eq_true rfl)
  have HM57 : G 0 0 (wM b c S J) [(0, .ref (b 0)), (1, .int x), (2, .int y), (3, .int p), (4, .int q), (5, .int (nI ((inB x 0 ((S 3 0 : Nat) - 1) && inB y 0 ((S 3 0 : Nat) - 1)).toNat)))] 57 [.int (nI (((inB x 0 ((S 3 0 : Nat) - 1) && inB y 0 ((S 3 0 : Nat) - 1)) && (sdB p && (sdB q && decide (S 18 (tn x) ≠ S 18 (tn y))))).toNat))] := by
    refine r_istore (lv' := [(0, .ref (b 0)), (1, .int x), (2, .int y), (3, .int p), (4, .int q), (5, .int (nI ((inB x 0 ((S 3 0 : Nat) - 1) && inB y 0 ((S 3 0 : Nat) - 1)).toNat))), (6, .int (nI (((inB x 0 ((S 3 0 : Nat) - 1) && inB y 0 ((S 3 0 : Nat) - 1)) && (sdB p && (sdB q && decide (S 18 (tn x) ≠ S 18 (tn y))))).toNat)))]) K dX7_play_57 (by decide) rfl ?_
    refine r_aload_n K dX7_play_59 rfl ?_
    refine r_iload K dX7_play_60 rfl ?_
    refine r_iload K dX7_play_62 rfl ?_
    refine r_iload K dX7_play_64 rfl ?_
    refine r_if_eqB K 89 dX7_play_66 (by decide) (fun h82 => ?_) (fun h82 => ?_)
    ·
      refine r_iconst K (nI 0) dX7_play_89 (by decide) ?_
      refine r_st (st' := [.int (nI ((((inB x 0 ((S 3 0 : Nat) - 1) && inB y 0 ((S 3 0 : Nat) - 1)) && (sdB p && (sdB q && decide (S 18 (tn x) ≠ S 18 (tn y))))) && (alw S (tn x) && alw S (tn y))).toNat)), .int (nI (((inB x 0 ((S 3 0 : Nat) - 1) && inB y 0 ((S 3 0 : Nat) - 1)) && (sdB p && (sdB q && decide (S 18 (tn x) ≠ S 18 (tn y))))).toNat)), .int (nI ((inB x 0 ((S 3 0 : Nat) - 1) && inB y 0 ((S 3 0 : Nat) - 1)).toNat)), .ref (b 0)]) (by simp only [h82]; rfl) ?_
      exact HM90
    ·
      obtain ⟨hs83, hs84⟩ := Bool.and_eq_true_iff.mp h82
      obtain ⟨hs85, hs86⟩ := Bool.and_eq_true_iff.mp hs83
      obtain ⟨xk, hxka, hxkb, hexk, hxkc⟩ := inB_ex (by decide) hs85
      subst hexk
      obtain ⟨yk, hyka, hykb, heyk, hykc⟩ := inB_ex (by decide) hs86
      subst heyk
      obtain ⟨hs87, hs88⟩ := Bool.and_eq_true_iff.mp hs84
      obtain ⟨pk, hpkc, hepk⟩ := sdB_ex hs87
      subst hepk
      obtain ⟨hs89, hs90⟩ := Bool.and_eq_true_iff.mp hs88
      obtain ⟨qk, hqkc, heqk⟩ := sdB_ex hs89
      subst heqk
      have hs90 := of_decide_eq_true hs90
      simp only [tn_nI hxkc, tn_nI hykc, tn_nI hpkc, tn_nI hqkc] at hs90
      refine r_aload_n K dX7_play_69 rfl ?_
      refine r_iload_n K dX7_play_70 rfl ?_
      refine r_callVs (rest := [.int (nI (((inB (nI xk) 0 ((S 3 0 : Nat) - 1) && inB (nI yk) 0 ((S 3 0 : Nat) - 1)) && (sdB (nI pk) && (sdB (nI qk) && decide (S 18 (tn (nI xk)) ≠ S 18 (tn (nI yk)))))).toNat)), .int (nI ((inB (nI xk) 0 ((S 3 0 : Nat) - 1) && inB (nI yk) 0 ((S 3 0 : Nat) - 1)).toNat)), .ref (b 0)]) K (c_X7_allows l D b c S J hV xk (by omega)) 1 gX7_play_X7_allows rfl (by decide +kernel) rfl (by decide) 0 (wM_g0 _ _ _ _) rfl rfl (Nat.le_of_ble_eq_true rfl) dX7_play_71 rfl rfl ?_
      refine r_if_eqB K 89 dX7_play_74 (by decide) (fun h91 => ?_) (fun h91 => ?_)
      ·
        refine r_iconst K (nI 0) dX7_play_89 (by decide) ?_
        refine r_st (st' := [.int (nI ((((inB (nI xk) 0 ((S 3 0 : Nat) - 1) && inB (nI yk) 0 ((S 3 0 : Nat) - 1)) && (sdB (nI pk) && (sdB (nI qk) && decide (S 18 (tn (nI xk)) ≠ S 18 (tn (nI yk)))))) && (alw S (tn (nI xk)) && alw S (tn (nI yk)))).toNat)), .int (nI (((inB (nI xk) 0 ((S 3 0 : Nat) - 1) && inB (nI yk) 0 ((S 3 0 : Nat) - 1)) && (sdB (nI pk) && (sdB (nI qk) && decide (S 18 (tn (nI xk)) ≠ S 18 (tn (nI yk)))))).toNat)), .int (nI ((inB (nI xk) 0 ((S 3 0 : Nat) - 1) && inB (nI yk) 0 ((S 3 0 : Nat) - 1)).toNat)), .ref (b 0)]) (by simp only [h82]; simp only [h91, tn_nI hxkc, tn_nI hykc, tn_nI hpkc, tn_nI hqkc]; rfl) ?_
        exact HM90
      ·
        refine r_aload_n K dX7_play_77 rfl ?_
        refine r_iload_n K dX7_play_78 rfl ?_
        refine r_callVs (rest := [.int (nI (((inB (nI xk) 0 ((S 3 0 : Nat) - 1) && inB (nI yk) 0 ((S 3 0 : Nat) - 1)) && (sdB (nI pk) && (sdB (nI qk) && decide (S 18 (tn (nI xk)) ≠ S 18 (tn (nI yk)))))).toNat)), .int (nI ((inB (nI xk) 0 ((S 3 0 : Nat) - 1) && inB (nI yk) 0 ((S 3 0 : Nat) - 1)).toNat)), .ref (b 0)]) K (c_X7_allows l D b c S J hV yk (by omega)) 1 gX7_play_X7_allows rfl (by decide +kernel) rfl (by decide) 0 (wM_g0 _ _ _ _) rfl rfl (Nat.le_of_ble_eq_true rfl) dX7_play_79 rfl rfl ?_
        refine r_if_eqB K 89 dX7_play_82 (by decide) (fun h92 => ?_) (fun h92 => ?_)
        ·
          refine r_iconst K (nI 0) dX7_play_89 (by decide) ?_
          refine r_st (st' := [.int (nI ((((inB (nI xk) 0 ((S 3 0 : Nat) - 1) && inB (nI yk) 0 ((S 3 0 : Nat) - 1)) && (sdB (nI pk) && (sdB (nI qk) && decide (S 18 (tn (nI xk)) ≠ S 18 (tn (nI yk)))))) && (alw S (tn (nI xk)) && alw S (tn (nI yk)))).toNat)), .int (nI (((inB (nI xk) 0 ((S 3 0 : Nat) - 1) && inB (nI yk) 0 ((S 3 0 : Nat) - 1)) && (sdB (nI pk) && (sdB (nI qk) && decide (S 18 (tn (nI xk)) ≠ S 18 (tn (nI yk)))))).toNat)), .int (nI ((inB (nI xk) 0 ((S 3 0 : Nat) - 1) && inB (nI yk) 0 ((S 3 0 : Nat) - 1)).toNat)), .ref (b 0)]) (by simp only [h82]; simp only [h91, h92, tn_nI hxkc, tn_nI hykc, tn_nI hpkc, tn_nI hqkc]; rfl) ?_
          exact HM90
        ·
          refine r_iconst K (nI 1) dX7_play_85 (by decide) ?_
          refine r_goto K 90 dX7_play_86 (by decide) ?_
          refine r_st (st' := [.int (nI ((((inB (nI xk) 0 ((S 3 0 : Nat) - 1) && inB (nI yk) 0 ((S 3 0 : Nat) - 1)) && (sdB (nI pk) && (sdB (nI qk) && decide (S 18 (tn (nI xk)) ≠ S 18 (tn (nI yk)))))) && (alw S (tn (nI xk)) && alw S (tn (nI yk)))).toNat)), .int (nI (((inB (nI xk) 0 ((S 3 0 : Nat) - 1) && inB (nI yk) 0 ((S 3 0 : Nat) - 1)) && (sdB (nI pk) && (sdB (nI qk) && decide (S 18 (tn (nI xk)) ≠ S 18 (tn (nI yk)))))).toNat)), .int (nI ((inB (nI xk) 0 ((S 3 0 : Nat) - 1) && inB (nI yk) 0 ((S 3 0 : Nat) - 1)).toNat)), .ref (b 0)]) (by simp only [h82]; simp only [h91, h92, tn_nI hxkc, tn_nI hykc, tn_nI hpkc, tn_nI hqkc]; rfl) ?_
          exact HM90
  have HM21 : G 0 0 (wM b c S J) [(0, .ref (b 0)), (1, .int x), (2, .int y), (3, .int p), (4, .int q)] 21 [.int (nI ((inB x 0 ((S 3 0 : Nat) - 1) && inB y 0 ((S 3 0 : Nat) - 1)).toNat))] := by
    refine r_istore (lv' := [(0, .ref (b 0)), (1, .int x), (2, .int y), (3, .int p), (4, .int q), (5, .int (nI ((inB x 0 ((S 3 0 : Nat) - 1) && inB y 0 ((S 3 0 : Nat) - 1)).toNat)))]) K dX7_play_21 (by decide) rfl ?_
    refine r_iload K dX7_play_23 rfl ?_
    refine r_if_eqB K 56 dX7_play_25 (by decide) (fun h93 => ?_) (fun h93 => ?_)
    ·
      refine r_iconst K (nI 0) dX7_play_56 (by decide) ?_
      refine r_st (st' := [.int (nI (((inB x 0 ((S 3 0 : Nat) - 1) && inB y 0 ((S 3 0 : Nat) - 1)) && (sdB p && (sdB q && decide (S 18 (tn x) ≠ S 18 (tn y))))).toNat))]) (by simp [h93]) ?_
      exact HM57
    ·
      obtain ⟨hs94, hs95⟩ := Bool.and_eq_true_iff.mp h93
      obtain ⟨xk, hxka, hxkb, hexk, hxkc⟩ := inB_ex (by decide) hs94
      subst hexk
      obtain ⟨yk, hyka, hykb, heyk, hykc⟩ := inB_ex (by decide) hs95
      subst heyk
      refine r_iload_n K dX7_play_28 rfl ?_
      refine r_if_ltR K 56 dX7_play_29 (by decide) (fun h96 => ?_) (fun h96 => ?_)
      ·
        refine r_iconst K (nI 0) dX7_play_56 (by decide) ?_
        refine r_st (st' := [.int (nI (((inB (nI xk) 0 ((S 3 0 : Nat) - 1) && inB (nI yk) 0 ((S 3 0 : Nat) - 1)) && (sdB p && (sdB q && decide (S 18 (tn (nI xk)) ≠ S 18 (tn (nI yk)))))).toNat))]) (by simp [h93, h96, sdB_f h96, tn_nI hxkc, tn_nI hykc]) ?_
        exact HM57
      ·
        refine r_iload K dX7_play_32 rfl ?_
        refine r_if_ltR K 56 dX7_play_34 (by decide) (fun h97 => ?_) (fun h97 => ?_)
        ·
          refine r_iconst K (nI 0) dX7_play_56 (by decide) ?_
          refine r_st (st' := [.int (nI (((inB (nI xk) 0 ((S 3 0 : Nat) - 1) && inB (nI yk) 0 ((S 3 0 : Nat) - 1)) && (sdB p && (sdB q && decide (S 18 (tn (nI xk)) ≠ S 18 (tn (nI yk)))))).toNat))]) (by simp [h93, h96, sdB_t h96, h97, sdB_f h97, tn_nI hxkc, tn_nI hykc]) ?_
          exact HM57
        ·
          refine r_aload_n K dX7_play_37 rfl ?_
          refine r_get K hin_X7_play_7 0 (wM_g0 _ _ _ _) rfl 12 (by decide) (List.mem_of_getElem? (i := 1) rfl) rfl dX7_play_38 ?_
          refine r_iload_n K dX7_play_41 rfl ?_
          refine r_iald K 9 0 (wM_g9 _ _ _ _) rfl (by omega) (by decide) dX7_play_42 ?_
          have hf98 := V_b hV 18 xk
          refine r_aload_n K dX7_play_43 rfl ?_
          refine r_get K hin_X7_play_7 0 (wM_g0 _ _ _ _) rfl 12 (by decide) (List.mem_of_getElem? (i := 1) rfl) rfl dX7_play_44 ?_
          refine r_iload_n K dX7_play_47 rfl ?_
          refine r_iald K 9 0 (wM_g9 _ _ _ _) rfl (by omega) (by decide) dX7_play_48 ?_
          have hf99 := V_b hV 18 yk
          refine r_ic_eq K 56 dX7_play_49 (by decide) (by omega) (by omega) (fun h100 => ?_) (fun h100 => ?_)
          ·
            refine r_iconst K (nI 0) dX7_play_56 (by decide) ?_
            refine r_st (st' := [.int (nI (((inB (nI xk) 0 ((S 3 0 : Nat) - 1) && inB (nI yk) 0 ((S 3 0 : Nat) - 1)) && (sdB p && (sdB q && decide (S 18 (tn (nI xk)) ≠ S 18 (tn (nI yk)))))).toNat))]) (by simp [h93, h96, sdB_t h96, h97, sdB_t h97, h100, tn_nI hxkc, tn_nI hykc]) ?_
            exact HM57
          ·
            refine r_iconst K (nI 1) dX7_play_52 (by decide) ?_
            refine r_goto K 57 dX7_play_53 (by decide) ?_
            refine r_st (st' := [.int (nI (((inB (nI xk) 0 ((S 3 0 : Nat) - 1) && inB (nI yk) 0 ((S 3 0 : Nat) - 1)) && (sdB p && (sdB q && decide (S 18 (tn (nI xk)) ≠ S 18 (tn (nI yk)))))).toNat))]) (by simp [h93, h96, sdB_t h96, h97, sdB_t h97, h100, tn_nI hxkc, tn_nI hykc]) ?_
            exact HM57
  refine r_aload_n K dX7_play_0 rfl ?_
  refine r_iload_n K dX7_play_1 rfl ?_
  refine r_callVs (rest := []) K (c_X7_isDeck l D b c S J hV (x)) 1 gX7_play_X7_isDeck rfl (by decide +kernel) rfl (by decide) 0 (wM_g0 _ _ _ _) rfl rfl (Nat.le_of_ble_eq_true rfl) dX7_play_2 rfl rfl ?_
  refine r_if_eqB K 20 dX7_play_5 (by decide) (fun h101 => ?_) (fun h101 => ?_)
  ·
    refine r_iconst K (nI 0) dX7_play_20 (by decide) ?_
    refine r_st (st' := [.int (nI ((inB x 0 ((S 3 0 : Nat) - 1) && inB y 0 ((S 3 0 : Nat) - 1)).toNat))]) (by simp [h101]) ?_
    exact HM21
  ·
    refine r_aload_n K dX7_play_8 rfl ?_
    refine r_iload_n K dX7_play_9 rfl ?_
    refine r_callVs (rest := []) K (c_X7_isDeck l D b c S J hV (y)) 1 gX7_play_X7_isDeck rfl (by decide +kernel) rfl (by decide) 0 (wM_g0 _ _ _ _) rfl rfl (Nat.le_of_ble_eq_true rfl) dX7_play_10 rfl rfl ?_
    refine r_if_eqB K 20 dX7_play_13 (by decide) (fun h102 => ?_) (fun h102 => ?_)
    ·
      refine r_iconst K (nI 0) dX7_play_20 (by decide) ?_
      refine r_st (st' := [.int (nI ((inB x 0 ((S 3 0 : Nat) - 1) && inB y 0 ((S 3 0 : Nat) - 1)).toNat))]) (by simp [h101, h102]) ?_
      exact HM21
    ·
      refine r_iconst K (nI 1) dX7_play_16 (by decide) ?_
      refine r_goto K 21 dX7_play_17 (by decide) ?_
      refine r_st (st' := [.int (nI ((inB x 0 ((S 3 0 : Nat) - 1) && inB y 0 ((S 3 0 : Nat) - 1)).toNat))]) (by simp [h101, h102]) ?_
      exact HM21
