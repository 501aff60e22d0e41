def rmX7_has : Room := { frames := 2, cells := 0, slots := 0, locals := 42 }
theorem hin_X7_has_7 : ∀ w ∈ wsX70, w ∈ wsX7_has := fun _ h => List.mem_cons_of_mem _ (List.mem_append_right _ h)
set_option maxHeartbeats 4000000 in
set_option maxRecDepth 100000 in
theorem c_X7_has (l : Launch) (D : va_G) (b : Nat → Nat) (c : Nat → ClassId) (S J : St) (hV : V S) (x y : Int32) : Ci l yX7_has wsX7_has rmX7_has D (tyW c) [.ref (b 0), .int x, .int y] (wM b c S J) (fun r (J1 : St) => mPost (thr (inB x 0 5 && inB y 0 15) true true) (nI (hasN S (tn x) (tn y))) r J1) (fun J1 => wM b c S J1) := by
  refine Ci.of (lv0 := [(0, .ref (b 0)), (1, .int x), (2, .int y)]) (by decide +kernel) rfl (Nat.le_of_ble_eq_true rfl) rfl (fun G K hret => ?_)
  have hcd := V_cards hV
  have HM24 : G 0 0 (wM b c S J) [(0, .ref (b 0)), (1, .int x), (2, .int y), (3, .int (nI 0))] 24 [.int (nI 1), .int (nI 1), .int (nI ((inB x 0 5 && inB y 0 15).toNat)), .ref (b 0)] := by
    refine r_callVs (rest := []) K (c_X7_goes l D b c S J (inB x 0 5 && inB y 0 15) true true) 3 gX7_has_X7_goes rfl (by decide +kernel) rfl (by decide) 0 (wM_g0 _ _ _ _) rfl rfl (Nat.le_of_ble_eq_true rfl) dX7_has_24 rfl rfl ?_
    by_cases hth : thr (inB x 0 5 && inB y 0 15) true true = 0
    ·
      refine r_top (show _ = nI 1 from by rw [decide_eq_true hth]; rfl) ?_
      obtain ⟨hb1, -, -⟩ := thr_eq0 hth
      obtain ⟨hs1, hs2⟩ := Bool.and_eq_true_iff.mp hb1
      obtain ⟨xk, hxka, hxkb, hexk, hxkc⟩ := inB_ex (by decide) hs1
      subst hexk
      obtain ⟨yk, hyka, hykb, heyk, hykc⟩ := inB_ex (by decide) hs2
      subst heyk
      refine r_istore (lv' := [(0, .ref (b 0)), (1, .int (nI xk)), (2, .int (nI yk)), (3, .int (nI 0)), (4, .int (nI 1))]) K dX7_has_27 (by decide) rfl ?_
      refine r_iconst K (nI 0) dX7_has_29 (by decide) ?_
      refine r_istore (lv' := [(0, .ref (b 0)), (1, .int (nI xk)), (2, .int (nI yk)), (3, .int (nI 0)), (4, .int (nI 1)), (5, .int (nI 0))]) K dX7_has_30 (by decide) rfl ?_
      have L3 : ∀ (z : Nat) (i v : Nat), S 2 0 < i + z → (i ≤ S 2 0) → (v = cnt (hasB S xk yk) i) → G 0 0 (wM b c S (up J 0 0 (thr (inB (nI xk) 0 5 && inB (nI yk) 0 15) true true))) [(0, .ref (b 0)), (1, .int (nI xk)), (2, .int (nI yk)), (3, .int (nI v)), (4, .int (nI 1)), (5, .int (nI i))] 32 [] := by
        intro z
        induction z with
        | zero => intro i v hz hi hv; exact absurd hz (by omega)
        | succ z ih =>
          intro i v hz hi hv
          refine r_iload K dX7_has_32 rfl ?_
          refine r_aload_n K dX7_has_34 rfl ?_
          refine r_get K hin_X7_has_7 0 (wM_g0 _ _ _ _) rfl 7 (by decide) (List.mem_of_getElem? (i := 1) rfl) rfl dX7_has_35 ?_
          have hf4 := V_b hV 2 0
          refine r_ic_ge K 82 dX7_has_38 (by decide) (by omega) (by omega) (fun h5 => ?_) (fun h5 => ?_)
          ·
            refine r_iload_n K dX7_has_82 rfl ?_
            exact hret 0 0 _ _ _ _ _ dX7_has_83 ⟨up_same, fun _ => by rw [tn_nI hxkc, tn_nI hykc, hv, show i = S 2 0 by omega]; rfl⟩ rfl (Nat.le_of_ble_eq_true rfl) (Nat.le_of_ble_eq_true rfl)
          ·
            refine r_iload K dX7_has_41 rfl ?_
            refine r_if_eq K 82 dX7_has_43 (by decide) (by decide) (fun h7 => absurd h7 (by decide)) (fun h7 => ?_)
            refine r_iload_n K dX7_has_46 rfl ?_
            refine r_aload_n K dX7_has_47 rfl ?_
            refine r_get K hin_X7_has_7 0 (wM_g0 _ _ _ _) rfl 10 (by decide) (List.mem_of_getElem? (i := 2) rfl) rfl dX7_has_48 ?_
            refine r_iload K dX7_has_51 rfl ?_
            refine r_iald K 8 0 (wM_g8 _ _ _ _) rfl (by omega) (by decide) dX7_has_53 ?_
            have hf8 := V_b hV 17 i
            refine r_iload_n K dX7_has_54 rfl ?_
            refine r_ic_ne K 73 dX7_has_55 (by decide) (by omega) (by omega) (fun h9 => ?_) (fun h9 => ?_)
            ·
              refine r_iconst K (nI 0) dX7_has_73 (by decide) ?_
              refine r_iadd K dX7_has_74 ?_
              refine r_istore_n (lv' := [(0, .ref (b 0)), (1, .int (nI xk)), (2, .int (nI yk)), (3, .int (nI (v + 0))), (4, .int (nI 1)), (5, .int (nI i))]) K dX7_has_75 (by decide) rfl ?_
              refine r_iinc (lv' := [(0, .ref (b 0)), (1, .int (nI xk)), (2, .int (nI yk)), (3, .int (nI (v + 0))), (4, .int (nI 1)), (5, .int (nI (i + 1)))]) K dX7_has_76 rfl (nI_1 _) (by decide) rfl ?_
              refine r_goto K 32 dX7_has_79 (by decide) ?_
              exact ih (i + 1) (v + 0) (by omega) (by omega) (by rw [cnt_n (hasB_1 h9), hv]; rfl)
            ·
              refine r_aload_n K dX7_has_58 rfl ?_
              refine r_get K hin_X7_has_7 0 (wM_g0 _ _ _ _) rfl 8 (by decide) (List.mem_of_getElem? (i := 3) rfl) rfl dX7_has_59 ?_
              refine r_iload K dX7_has_62 rfl ?_
              refine r_iald K 6 0 (wM_g6 _ _ _ _) rfl (by omega) (by decide) dX7_has_64 ?_
              have hf10 := V_kind hV i
              refine r_iload_n K dX7_has_65 rfl ?_
              refine r_ic_ne K 73 dX7_has_66 (by decide) (by omega) (by omega) (fun h11 => ?_) (fun h11 => ?_)
              ·
                refine r_iconst K (nI 0) dX7_has_73 (by decide) ?_
                refine r_iadd K dX7_has_74 ?_
                refine r_istore_n (lv' := [(0, .ref (b 0)), (1, .int (nI xk)), (2, .int (nI yk)), (3, .int (nI (v + 0))), (4, .int (nI 1)), (5, .int (nI i))]) K dX7_has_75 (by decide) rfl ?_
                refine r_iinc (lv' := [(0, .ref (b 0)), (1, .int (nI xk)), (2, .int (nI yk)), (3, .int (nI (v + 0))), (4, .int (nI 1)), (5, .int (nI (i + 1)))]) K dX7_has_76 rfl (nI_1 _) (by decide) rfl ?_
                refine r_goto K 32 dX7_has_79 (by decide) ?_
                exact ih (i + 1) (v + 0) (by omega) (by omega) (by rw [cnt_n (hasB_2 h11), hv]; rfl)
              ·
                refine r_iconst K (nI 1) dX7_has_69 (by decide) ?_
                refine r_goto K 74 dX7_has_70 (by decide) ?_
                refine r_iadd K dX7_has_74 ?_
                refine r_istore_n (lv' := [(0, .ref (b 0)), (1, .int (nI xk)), (2, .int (nI yk)), (3, .int (nI (v + 1))), (4, .int (nI 1)), (5, .int (nI i))]) K dX7_has_75 (by decide) rfl ?_
                refine r_iinc (lv' := [(0, .ref (b 0)), (1, .int (nI xk)), (2, .int (nI yk)), (3, .int (nI (v + 1))), (4, .int (nI 1)), (5, .int (nI (i + 1)))]) K dX7_has_76 rfl (nI_1 _) (by decide) rfl ?_
                refine r_goto K 32 dX7_has_79 (by decide) ?_
                exact ih (i + 1) (v + 1) (by omega) (by omega) (by rw [cnt_y (hasB_y h9 h11), hv])
      exact L3 (S 2 0 + 1) 0 0 (by omega) (by omega) rfl
    ·
      refine r_top (show _ = nI 0 from by rw [decide_eq_false hth]; rfl) ?_
      refine r_istore (lv' := [(0, .ref (b 0)), (1, .int x), (2, .int y), (3, .int (nI 0)), (4, .int (nI 0))]) K dX7_has_27 (by decide) rfl ?_
      refine r_iconst K (nI 0) dX7_has_29 (by decide) ?_
      refine r_istore (lv' := [(0, .ref (b 0)), (1, .int x), (2, .int y), (3, .int (nI 0)), (4, .int (nI 0)), (5, .int (nI 0))]) K dX7_has_30 (by decide) rfl ?_
      refine r_iload K dX7_has_32 rfl ?_
      refine r_aload_n K dX7_has_34 rfl ?_
      refine r_get K hin_X7_has_7 0 (wM_g0 _ _ _ _) rfl 7 (by decide) (List.mem_of_getElem? (i := 1) rfl) rfl dX7_has_35 ?_
      have hf12 := V_b hV 2 0
      refine r_ic_ge K 82 dX7_has_38 (by decide) (by decide) (by omega) (fun h13 => ?_) (fun h13 => ?_)
      ·
        refine r_iload_n K dX7_has_82 rfl ?_
        exact hret 0 0 _ _ _ _ _ dX7_has_83 ⟨up_same, fun q => absurd q hth⟩ rfl (Nat.le_of_ble_eq_true rfl) (Nat.le_of_ble_eq_true rfl)
      ·
        refine r_iload K dX7_has_41 rfl ?_
        refine r_if_eq K 82 dX7_has_43 (by decide) (by decide) (fun h15 => ?_) (fun h15 => absurd h15 (by decide))
        refine r_iload_n K dX7_has_82 rfl ?_
        exact hret 0 0 _ _ _ _ _ dX7_has_83 ⟨up_same, fun q => absurd q hth⟩ rfl (Nat.le_of_ble_eq_true rfl) (Nat.le_of_ble_eq_true rfl)
  refine r_iconst K (nI 0) dX7_has_0 (by decide) ?_
  refine r_istore_n (lv' := [(0, .ref (b 0)), (1, .int x), (2, .int y), (3, .int (nI 0))]) K dX7_has_1 (by decide) rfl ?_
  refine r_aload_n K dX7_has_2 rfl ?_
  refine r_iload_n K dX7_has_3 rfl ?_
  refine r_callSs (rest := [.ref (b 0)]) K (c_X7_isCollector l D b c S J (x)) 1 gX7_has_X7_isCollector rfl (by decide +kernel) rfl (by decide) rfl (Nat.le_of_ble_eq_true rfl) dX7_has_4 rfl rfl ?_
  refine r_if_eqB K 21 dX7_has_7 (by decide) (fun h16 => ?_) (fun h16 => ?_)
  ·
    refine r_iconst K (nI 0) dX7_has_21 (by decide) ?_
    refine r_iconst K (nI 1) dX7_has_22 (by decide) ?_
    refine r_iconst K (nI 1) dX7_has_23 (by decide) ?_
    refine r_st (st' := [.int (nI 1), .int (nI 1), .int (nI ((inB x 0 5 && inB y 0 15).toNat)), .ref (b 0)]) (by simp [h16]) ?_
    exact HM24
  ·
    refine r_iload_n K dX7_has_10 rfl ?_
    refine r_callSs (rest := [.ref (b 0)]) K (c_X7_isKind l D b c S J (y)) 1 gX7_has_X7_isKind rfl (by decide +kernel) rfl (by decide) rfl (Nat.le_of_ble_eq_true rfl) dX7_has_11 rfl rfl ?_
    refine r_if_eqB K 21 dX7_has_14 (by decide) (fun h17 => ?_) (fun h17 => ?_)
    ·
      refine r_iconst K (nI 0) dX7_has_21 (by decide) ?_
      refine r_iconst K (nI 1) dX7_has_22 (by decide) ?_
      refine r_iconst K (nI 1) dX7_has_23 (by decide) ?_
      refine r_st (st' := [.int (nI 1), .int (nI 1), .int (nI ((inB x 0 5 && inB y 0 15).toNat)), .ref (b 0)]) (by simp [h16, h17]) ?_
      exact HM24
    ·
      refine r_iconst K (nI 1) dX7_has_17 (by decide) ?_
      refine r_goto K 22 dX7_has_18 (by decide) ?_
      refine r_iconst K (nI 1) dX7_has_22 (by decide) ?_
      refine r_iconst K (nI 1) dX7_has_23 (by decide) ?_
      refine r_st (st' := [.int (nI 1), .int (nI 1), .int (nI ((inB x 0 5 && inB y 0 15).toNat)), .ref (b 0)]) (by simp [h16, h17]) ?_
      exact HM24

def rmX7_offer : Room := { frames := 2, cells := 0, slots := 0, locals := 43 }
theorem hin_X7_offer_7 : ∀ w ∈ wsX70, w ∈ wsX7_offer := fun _ h => List.mem_cons_of_mem _ (List.mem_append_right _ h)
set_option maxHeartbeats 4000000 in
set_option maxRecDepth 100000 in
theorem c_X7_offer (l : Launch) (D : va_G) (b : Nat → Nat) (c : Nat → ClassId) (S J : St) (hV : V S)  (x : Int32) (y : Int32) : Ci l yX7_offer wsX7_offer rmX7_offer D (tyW c) [.ref (b 0), .int x, .int y] (wM b c S J) (fun r (J1 : St) => mPost (thr (inB x 0 ((S 2 0 : Nat) - 1) && inB y 0 15) ((inB x 0 ((S 2 0 : Nat) - 1) && inB y 0 15) && decide (S 15 (tn x) ≠ tn y)) (frB S x)) (nI (S 4 0)) r J1) (fun J1 => wM b c (if thr (inB x 0 ((S 2 0 : Nat) - 1) && inB y 0 15) ((inB x 0 ((S 2 0 : Nat) - 1) && inB y 0 15) && decide (S 15 (tn x) ≠ tn y)) (frB S x) = 0 then up (up (up (up S 21 (S 4 0) (tn x)) 24 (S 4 0) (S 17 (tn x))) 23 (S 4 0) (tn y)) 4 0 (S 4 0 + 1) else S) J1) := by
  refine Ci.of (lv0 := [(0, .ref (b 0)), (1, .int x), (2, .int y)]) (by decide +kernel) rfl (Nat.le_of_ble_eq_true rfl) rfl (fun G K hret => ?_)
  have hof := V_offers hV
  have hcd := V_cards hV
  have HM110 : G 0 0 (wM b c S J) [(0, .ref (b 0)), (1, .int x), (2, .int y), (3, .int (nI ((inB x 0 ((S 2 0 : Nat) - 1) && inB y 0 15).toNat)))] 110 [.int (nI ((frB S x).toNat)), .int (nI (((inB x 0 ((S 2 0 : Nat) - 1) && inB y 0 15) && decide (S 15 (tn x) ≠ tn y)).toNat)), .int (nI ((inB x 0 ((S 2 0 : Nat) - 1) && inB y 0 15).toNat)), .ref (b 0)] := by
    refine r_callVs (rest := []) K (c_X7_goes l D b c S J (inB x 0 ((S 2 0 : Nat) - 1) && inB y 0 15) ((inB x 0 ((S 2 0 : Nat) - 1) && inB y 0 15) && decide (S 15 (tn x) ≠ tn y)) (frB S x)) 3 gX7_offer_X7_goes rfl (by decide +kernel) rfl (by decide) 0 (wM_g0 _ _ _ _) rfl rfl (Nat.le_of_ble_eq_true rfl) dX7_offer_110 rfl rfl ?_
    refine r_if_neB K 118 dX7_offer_113 (by decide) (fun h1 => ?_) (fun h1 => ?_)
    ·
      have hth := of_decide_eq_true h1
      obtain ⟨hb1, hb2, hb3⟩ := thr_eq0 hth
      obtain ⟨hs2, hs3⟩ := Bool.and_eq_true_iff.mp hb1
      obtain ⟨xk, hxka, hxkb, hexk, hxkc⟩ := inB_ex (by decide) hs2
      subst hexk
      obtain ⟨yk, hyka, hykb, heyk, hykc⟩ := inB_ex (by decide) hs3
      subst heyk
      obtain ⟨hs4, hs5⟩ := Bool.and_eq_true_iff.mp hb2
      obtain ⟨hs6, hs7⟩ := Bool.and_eq_true_iff.mp hs4
      have hs5 := of_decide_eq_true hs5
      simp only [tn_nI hxkc, tn_nI hykc] at hs5
      have hfr := frB_lt hb3
      refine r_aload_n K dX7_offer_118 rfl ?_
      refine r_get K hin_X7_offer_7 0 (wM_g0 _ _ _ _) rfl 17 (by decide) (List.mem_of_getElem? (i := 2) rfl) rfl dX7_offer_119 ?_
      refine r_aload_n K dX7_offer_122 rfl ?_
      refine r_get K hin_X7_offer_7 0 (wM_g0 _ _ _ _) rfl 16 (by decide) (List.mem_of_getElem? (i := 1) rfl) rfl dX7_offer_123 ?_
      have hf8 := V_b hV 4 0
      refine r_iload_n K dX7_offer_126 rfl ?_
      refine r_iast K 13 0 (wM_g13 _ _ _ _) rfl (by omega) (by decide) dX7_offer_127 (wM_s13 _ _ _ _ _ _) ?_
      refine r_aload_n K dX7_offer_128 rfl ?_
      refine r_get K hin_X7_offer_7 0 (wM_g0 _ _ _ _) rfl 18 (by decide) (List.mem_of_getElem? (i := 4) rfl) rfl dX7_offer_129 ?_
      refine r_aload_n K dX7_offer_132 rfl ?_
      refine r_get K hin_X7_offer_7 0 (wM_g0 _ _ _ _) rfl 16 (by decide) (List.mem_of_getElem? (i := 1) rfl) rfl dX7_offer_133 ?_
      refine r_top (congrArg nI (congrFun (up_ne (by decide)) _)) ?_
      refine r_aload_n K dX7_offer_136 rfl ?_
      refine r_get K hin_X7_offer_7 0 (wM_g0 _ _ _ _) rfl 10 (by decide) (List.mem_of_getElem? (i := 5) rfl) rfl dX7_offer_137 ?_
      refine r_iload_n K dX7_offer_140 rfl ?_
      refine r_iald K 8 0 (wM_g8 _ _ _ _) rfl (by omega) (by decide) dX7_offer_141 ?_
      refine r_top (congrArg nI (congrFun (up_ne (by decide)) _)) ?_
      have hf10 := V_b hV 17 xk
      refine r_iast K 14 0 (wM_g14 _ _ _ _) rfl (by omega) (by decide) dX7_offer_142 (wM_s14 _ _ _ _ _ _) ?_
      refine r_aload_n K dX7_offer_143 rfl ?_
      refine r_get K hin_X7_offer_7 0 (wM_g0 _ _ _ _) rfl 19 (by decide) (List.mem_of_getElem? (i := 6) rfl) rfl dX7_offer_144 ?_
      refine r_aload_n K dX7_offer_147 rfl ?_
      refine r_get K hin_X7_offer_7 0 (wM_g0 _ _ _ _) rfl 16 (by decide) (List.mem_of_getElem? (i := 1) rfl) rfl dX7_offer_148 ?_
      refine r_top (congrArg nI (congrFun (up_ne (by decide)) _)) ?_
      refine r_top (congrArg nI (congrFun (up_ne (by decide)) _)) ?_
      refine r_iload_n K dX7_offer_151 rfl ?_
      refine r_iast K 15 0 (wM_g15 _ _ _ _) rfl (by omega) (by decide) dX7_offer_152 (wM_s15 _ _ _ _ _ _) ?_
      refine r_aload_n K dX7_offer_153 rfl ?_
      refine r_dup K dX7_offer_154 rfl ?_
      refine r_get K hin_X7_offer_7 0 (wM_g0 _ _ _ _) rfl 16 (by decide) (List.mem_of_getElem? (i := 1) rfl) rfl dX7_offer_155 ?_
      refine r_top (congrArg nI (congrFun (up_ne (by decide)) _)) ?_
      refine r_top (congrArg nI (congrFun (up_ne (by decide)) _)) ?_
      refine r_top (congrArg nI (congrFun (up_ne (by decide)) _)) ?_
      refine r_iconst K (nI 1) dX7_offer_158 (by decide) ?_
      refine r_iadd K dX7_offer_159 ?_
      refine r_put K hin_X7_offer_7 tyX7 tyX7_ok nmX7 0 (wM_g0 _ _ _ _) rfl 16 (by decide) (List.mem_of_getElem? (i := 1) rfl) rfl rfl rfl (Nat.le_of_ble_eq_true rfl) dX7_offer_160 (wM_s0_16 _ _ _ _ _) ?_
      refine r_aload_n K dX7_offer_163 rfl ?_
      refine r_get K hin_X7_offer_7 0 (wM_g0 _ _ _ _) rfl 16 (by decide) (List.mem_of_getElem? (i := 1) rfl) rfl dX7_offer_164 ?_
      refine r_top (congrArg nI up_same) ?_
      refine r_iconst K (nI 1) dX7_offer_167 (by decide) ?_
      refine r_isub K dX7_offer_168 (by omega) ?_
      exact hret 0 0 _ _ _ _ _ dX7_offer_169 ⟨up_same, fun _ => by rw [Nat.add_sub_cancel]⟩ (by rw [if_pos hth, tn_nI hxkc, tn_nI hykc]) (Nat.le_of_ble_eq_true rfl) (Nat.le_of_ble_eq_true rfl)
    ·
      refine r_iconst K (nI 0) dX7_offer_116 (by decide) ?_
      exact hret 0 0 _ _ _ _ _ dX7_offer_117 ⟨up_same, fun q => absurd q (of_decide_eq_false h1)⟩ (by rw [if_neg (of_decide_eq_false h1)]) (Nat.le_of_ble_eq_true rfl) (Nat.le_of_ble_eq_true rfl)
  have HM35 : G 0 0 (wM b c S J) [(0, .ref (b 0)), (1, .int x), (2, .int y), (3, .int (nI ((inB x 0 ((S 2 0 : Nat) - 1) && inB y 0 15).toNat)))] 35 [.int (nI ((decide (S 4 0 < 40)).toNat))] := by
    refine r_istore (lv' := [(0, .ref (b 0)), (1, .int x), (2, .int y), (3, .int (nI ((inB x 0 ((S 2 0 : Nat) - 1) && inB y 0 15).toNat))), (4, .int (nI ((decide (S 4 0 < 40)).toNat)))]) K dX7_offer_35 (by decide) rfl ?_
    refine r_iconst K (nI 0) dX7_offer_37 (by decide) ?_
    refine r_istore (lv' := [(0, .ref (b 0)), (1, .int x), (2, .int y), (3, .int (nI ((inB x 0 ((S 2 0 : Nat) - 1) && inB y 0 15).toNat))), (4, .int (nI ((decide (S 4 0 < 40)).toNat))), (5, .int (nI 0))]) K dX7_offer_38 (by decide) rfl ?_
    have L13 : ∀ (z : Nat) (i : Nat) (v : Bool), S 4 0 < i + z → (i ≤ S 4 0) → (v = (decide (S 4 0 < 40) && !anyB (ocB S x) i)) → G 0 0 (wM b c S J) [(0, .ref (b 0)), (1, .int x), (2, .int y), (3, .int (nI ((inB x 0 ((S 2 0 : Nat) - 1) && inB y 0 15).toNat))), (4, .int (nI ((v).toNat))), (5, .int (nI i))] 40 [] := by
      intro z
      induction z with
      | zero => intro i v hz hi hv; exact absurd hz (by omega)
      | succ z ih =>
        intro i v hz hi hv
        refine r_iload K dX7_offer_40 rfl ?_
        refine r_aload_n K dX7_offer_42 rfl ?_
        refine r_get K hin_X7_offer_7 0 (wM_g0 _ _ _ _) rfl 16 (by decide) (List.mem_of_getElem? (i := 1) rfl) rfl dX7_offer_43 ?_
        have hf14 := V_b hV 4 0
        refine r_ic_ge K 87 dX7_offer_46 (by decide) (by omega) (by omega) (fun h15 => ?_) (fun h15 => ?_)
        ·
          have hvf : v = frB S x := by rw [hv, show i = S 4 0 by omega]; rfl
          refine r_aload_n K dX7_offer_87 rfl ?_
          refine r_iload_n K dX7_offer_88 rfl ?_
          refine r_iload_n K dX7_offer_89 rfl ?_
          refine r_if_eqB K 107 dX7_offer_90 (by decide) (fun h16 => ?_) (fun h16 => ?_)
          ·
            refine r_iconst K (nI 0) dX7_offer_107 (by decide) ?_
            refine r_iload K dX7_offer_108 rfl ?_
            refine r_pick [0, 1, 2, 3] K rfl ?_
            refine r_st (st' := [.int (nI ((frB S x).toNat)), .int (nI (((inB x 0 ((S 2 0 : Nat) - 1) && inB y 0 15) && decide (S 15 (tn x) ≠ tn y)).toNat)), .int (nI ((inB x 0 ((S 2 0 : Nat) - 1) && inB y 0 15).toNat)), .ref (b 0)]) (by simp [h16, hvf]) ?_
            exact HM110
          ·
            obtain ⟨hs17, hs18⟩ := Bool.and_eq_true_iff.mp h16
            obtain ⟨xk, hxka, hxkb, hexk, hxkc⟩ := inB_ex (by decide) hs17
            subst hexk
            obtain ⟨yk, hyka, hykb, heyk, hykc⟩ := inB_ex (by decide) hs18
            subst heyk
            refine r_aload_n K dX7_offer_93 rfl ?_
            refine r_get K hin_X7_offer_7 0 (wM_g0 _ _ _ _) rfl 8 (by decide) (List.mem_of_getElem? (i := 3) rfl) rfl dX7_offer_94 ?_
            refine r_iload_n K dX7_offer_97 rfl ?_
            refine r_iald K 6 0 (wM_g6 _ _ _ _) rfl (by omega) (by decide) dX7_offer_98 ?_
            have hf19 := V_kind hV xk
            refine r_iload_n K dX7_offer_99 rfl ?_
            refine r_ic_eq K 107 dX7_offer_100 (by decide) (by omega) (by omega) (fun h20 => ?_) (fun h20 => ?_)
            ·
              refine r_iconst K (nI 0) dX7_offer_107 (by decide) ?_
              refine r_iload K dX7_offer_108 rfl ?_
              refine r_pick [0, 1, 2, 3] K rfl ?_
              refine r_st (st' := [.int (nI ((frB S (nI xk)).toNat)), .int (nI (((inB (nI xk) 0 ((S 2 0 : Nat) - 1) && inB (nI yk) 0 15) && decide (S 15 (tn (nI xk)) ≠ tn (nI yk))).toNat)), .int (nI ((inB (nI xk) 0 ((S 2 0 : Nat) - 1) && inB (nI yk) 0 15).toNat)), .ref (b 0)]) (by simp [h16, h20, hvf, tn_nI hxkc, tn_nI hykc]) ?_
              exact HM110
            ·
              refine r_iconst K (nI 1) dX7_offer_103 (by decide) ?_
              refine r_goto K 108 dX7_offer_104 (by decide) ?_
              refine r_iload K dX7_offer_108 rfl ?_
              refine r_pick [0, 1, 2, 3] K rfl ?_
              refine r_st (st' := [.int (nI ((frB S (nI xk)).toNat)), .int (nI (((inB (nI xk) 0 ((S 2 0 : Nat) - 1) && inB (nI yk) 0 15) && decide (S 15 (tn (nI xk)) ≠ tn (nI yk))).toNat)), .int (nI ((inB (nI xk) 0 ((S 2 0 : Nat) - 1) && inB (nI yk) 0 15).toNat)), .ref (b 0)]) (by simp [h16, h20, hvf, tn_nI hxkc, tn_nI hykc]) ?_
              exact HM110
        ·
          refine r_iload K dX7_offer_49 rfl ?_
          refine r_if_eqB K 78 dX7_offer_51 (by decide) (fun h21 => ?_) (fun h21 => ?_)
          ·
            refine r_iconst K (nI 0) dX7_offer_78 (by decide) ?_
            refine r_istore (lv' := [(0, .ref (b 0)), (1, .int x), (2, .int y), (3, .int (nI ((inB x 0 ((S 2 0 : Nat) - 1) && inB y 0 15).toNat))), (4, .int (nI 0)), (5, .int (nI i))]) K dX7_offer_79 (by decide) rfl ?_
            refine r_iinc (lv' := [(0, .ref (b 0)), (1, .int x), (2, .int y), (3, .int (nI ((inB x 0 ((S 2 0 : Nat) - 1) && inB y 0 15).toNat))), (4, .int (nI 0)), (5, .int (nI (i + 1)))]) K dX7_offer_81 rfl (nI_1 _) (by decide) rfl ?_
            refine r_goto K 40 dX7_offer_84 (by decide) ?_
            exact ih (i + 1) false (by omega) (by omega) (by rw [anyB_succ, fr_step, ← hv]; simp [ocB, h15, h21])
          ·
            refine r_aload_n K dX7_offer_54 rfl ?_
            refine r_get K hin_X7_offer_7 0 (wM_g0 _ _ _ _) rfl 17 (by decide) (List.mem_of_getElem? (i := 2) rfl) rfl dX7_offer_55 ?_
            refine r_iload K dX7_offer_58 rfl ?_
            refine r_iald K 13 0 (wM_g13 _ _ _ _) rfl (by omega) (by decide) dX7_offer_60 ?_
            have hf22 := V_ocard hV i
            refine r_iload_n K dX7_offer_61 rfl ?_
            refine r_ic_neR K 74 dX7_offer_62 (by decide) (fun h23 => ?_) (fun h23 => ?_)
            ·
              refine r_iconst K (nI 1) dX7_offer_74 (by decide) ?_
              refine r_goto K 79 dX7_offer_75 (by decide) ?_
              refine r_istore (lv' := [(0, .ref (b 0)), (1, .int x), (2, .int y), (3, .int (nI ((inB x 0 ((S 2 0 : Nat) - 1) && inB y 0 15).toNat))), (4, .int (nI 1)), (5, .int (nI i))]) K dX7_offer_79 (by decide) rfl ?_
              refine r_iinc (lv' := [(0, .ref (b 0)), (1, .int x), (2, .int y), (3, .int (nI ((inB x 0 ((S 2 0 : Nat) - 1) && inB y 0 15).toNat))), (4, .int (nI 1)), (5, .int (nI (i + 1)))]) K dX7_offer_81 rfl (nI_1 _) (by decide) rfl ?_
              refine r_goto K 40 dX7_offer_84 (by decide) ?_
              exact ih (i + 1) true (by omega) (by omega) (by rw [anyB_succ, fr_step, ← hv]; simp [ocB, h15, h21, h23])
            ·
              refine r_aload_n K dX7_offer_65 rfl ?_
              refine r_iload K dX7_offer_66 rfl ?_
              refine r_callVs (rest := []) K (c_X7_opens l D b c S J hV i (by omega)) 1 gX7_offer_X7_opens rfl (by decide +kernel) rfl (by decide) 0 (wM_g0 _ _ _ _) rfl rfl (Nat.le_of_ble_eq_true rfl) dX7_offer_68 rfl rfl ?_
              refine r_if_neB K 78 dX7_offer_71 (by decide) (fun h24 => ?_) (fun h24 => ?_)
              ·
                refine r_iconst K (nI 0) dX7_offer_78 (by decide) ?_
                refine r_istore (lv' := [(0, .ref (b 0)), (1, .int x), (2, .int y), (3, .int (nI ((inB x 0 ((S 2 0 : Nat) - 1) && inB y 0 15).toNat))), (4, .int (nI 0)), (5, .int (nI i))]) K dX7_offer_79 (by decide) rfl ?_
                refine r_iinc (lv' := [(0, .ref (b 0)), (1, .int x), (2, .int y), (3, .int (nI ((inB x 0 ((S 2 0 : Nat) - 1) && inB y 0 15).toNat))), (4, .int (nI 0)), (5, .int (nI (i + 1)))]) K dX7_offer_81 rfl (nI_1 _) (by decide) rfl ?_
                refine r_goto K 40 dX7_offer_84 (by decide) ?_
                exact ih (i + 1) false (by omega) (by omega) (by rw [anyB_succ, fr_step, ← hv]; simp [ocB, h15, h21, h23, h24])
              ·
                refine r_iconst K (nI 1) dX7_offer_74 (by decide) ?_
                refine r_goto K 79 dX7_offer_75 (by decide) ?_
                refine r_istore (lv' := [(0, .ref (b 0)), (1, .int x), (2, .int y), (3, .int (nI ((inB x 0 ((S 2 0 : Nat) - 1) && inB y 0 15).toNat))), (4, .int (nI 1)), (5, .int (nI i))]) K dX7_offer_79 (by decide) rfl ?_
                refine r_iinc (lv' := [(0, .ref (b 0)), (1, .int x), (2, .int y), (3, .int (nI ((inB x 0 ((S 2 0 : Nat) - 1) && inB y 0 15).toNat))), (4, .int (nI 1)), (5, .int (nI (i + 1)))]) K dX7_offer_81 rfl (nI_1 _) (by decide) rfl ?_
                refine r_goto K 40 dX7_offer_84 (by decide) ?_
                exact ih (i + 1) true (by omega) (by omega) (by rw [anyB_succ, fr_step, ← hv]; simp [ocB, h15, h21, h23, h24])
    exact L13 (S 4 0 + 1) 0 _ (by omega) (by omega) (by rw [show anyB (ocB S x) 0 = false from rfl, Bool.not_false, Bool.and_true])
  have HM20 : G 0 0 (wM b c S J) [(0, .ref (b 0)), (1, .int x), (2, .int y)] 20 [.int (nI ((inB x 0 ((S 2 0 : Nat) - 1) && inB y 0 15).toNat))] := by
    refine r_istore_n (lv' := [(0, .ref (b 0)), (1, .int x), (2, .int y), (3, .int (nI ((inB x 0 ((S 2 0 : Nat) - 1) && inB y 0 15).toNat)))]) K dX7_offer_20 (by decide) rfl ?_
    refine r_aload_n K dX7_offer_21 rfl ?_
    refine r_get K hin_X7_offer_7 0 (wM_g0 _ _ _ _) rfl 16 (by decide) (List.mem_of_getElem? (i := 1) rfl) rfl dX7_offer_22 ?_
    have hf25 := V_b hV 4 0
    refine r_bipush K (nI 40) dX7_offer_25 (by decide) ?_
    refine r_ic_ge K 34 dX7_offer_27 (by decide) (by omega) (by decide) (fun h26 => ?_) (fun h26 => ?_)
    ·
      refine r_iconst K (nI 0) dX7_offer_34 (by decide) ?_
      refine r_st (st' := [.int (nI ((decide (S 4 0 < 40)).toNat))]) (by simp [h26, Nat.not_lt.mpr h26]) ?_
      exact HM35
    ·
      refine r_iconst K (nI 1) dX7_offer_30 (by decide) ?_
      refine r_goto K 35 dX7_offer_31 (by decide) ?_
      refine r_st (st' := [.int (nI ((decide (S 4 0 < 40)).toNat))]) (by simp [h26]) ?_
      exact HM35
  refine r_aload_n K dX7_offer_0 rfl ?_
  refine r_iload_n K dX7_offer_1 rfl ?_
  refine r_callVs (rest := []) K (c_X7_isCard l D b c S J hV (x)) 1 gX7_offer_X7_isCard rfl (by decide +kernel) rfl (by decide) 0 (wM_g0 _ _ _ _) rfl rfl (Nat.le_of_ble_eq_true rfl) dX7_offer_2 rfl rfl ?_
  refine r_if_eqB K 19 dX7_offer_5 (by decide) (fun h27 => ?_) (fun h27 => ?_)
  ·
    refine r_iconst K (nI 0) dX7_offer_19 (by decide) ?_
    refine r_st (st' := [.int (nI ((inB x 0 ((S 2 0 : Nat) - 1) && inB y 0 15).toNat))]) (by simp [h27]) ?_
    exact HM20
  ·
    refine r_iload_n K dX7_offer_8 rfl ?_
    refine r_callSs (rest := []) K (c_X7_isKind l D b c S J (y)) 1 gX7_offer_X7_isKind rfl (by decide +kernel) rfl (by decide) rfl (Nat.le_of_ble_eq_true rfl) dX7_offer_9 rfl rfl ?_
    refine r_if_eqB K 19 dX7_offer_12 (by decide) (fun h28 => ?_) (fun h28 => ?_)
    ·
      refine r_iconst K (nI 0) dX7_offer_19 (by decide) ?_
      refine r_st (st' := [.int (nI ((inB x 0 ((S 2 0 : Nat) - 1) && inB y 0 15).toNat))]) (by simp [h27, h28]) ?_
      exact HM20
    ·
      refine r_iconst K (nI 1) dX7_offer_15 (by decide) ?_
      refine r_goto K 20 dX7_offer_16 (by decide) ?_
      refine r_st (st' := [.int (nI ((inB x 0 ((S 2 0 : Nat) - 1) && inB y 0 15).toNat))]) (by simp [h27, h28]) ?_
      exact HM20

def rmX7_fits : Room := { frames := 1, cells := 0, slots := 0, locals := 22 }
theorem hin_X7_fits_7 : ∀ w ∈ wsX70, w ∈ wsX7_fits := fun _ h => List.mem_cons_of_mem _ (List.mem_append_right _ h)
set_option maxHeartbeats 4000000 in
set_option maxRecDepth 100000 in
theorem c_X7_fits (l : Launch) (D : va_G) (b : Nat → Nat) (c : Nat → ClassId) (S J : St) (hV : V S) (pre : List Nat) (t x len : Nat) (ht : pre.length = t) (hl : t < len) (hl2 : 2 ≤ len) (hl4 : len ≤ 4) (hpre : ∀ q, q < t → J 27 q = g0 pre q) (hxt : J 27 t = x) (hgN : ∀ q, q < t → g0 pre q < 40) (hx : x < 40) : Cs l yX7_fits wsX7_fits rmX7_fits D (tyW c) [.ref (b 0), .int (nI t), .int (nI len)] (wM b c S J) (nI (fitB S pre x len).toNat) (wM b c S J) := by
  refine Ci.ofZ (lv0 := [(0, .ref (b 0)), (1, .int (nI t)), (2, .int (nI len))]) (by decide +kernel) rfl (Nat.le_of_ble_eq_true rfl) rfl (fun G K hret => ?_)
  subst ht
  have HM50 : G 0 0 (wM b c S J) [(0, .ref (b 0)), (1, .int (nI pre.length)), (2, .int (nI len)), (3, .int (nI x))] 50 [.int (nI (((opB S x && (decide (pre.length = 0) || (decide (g0 pre 0 < x) && gvM S (g0 pre (pre.length - 1)) x)))).toNat))] := by
    refine r_istore (lv' := [(0, .ref (b 0)), (1, .int (nI pre.length)), (2, .int (nI len)), (3, .int (nI x)), (4, .int (nI (((opB S x && (decide (pre.length = 0) || (decide (g0 pre 0 < x) && gvM S (g0 pre (pre.length - 1)) x)))).toNat)))]) K dX7_fits_50 (by decide) rfl ?_
    refine r_iconst K (nI 0) dX7_fits_52 (by decide) ?_
    refine r_istore (lv' := [(0, .ref (b 0)), (1, .int (nI pre.length)), (2, .int (nI len)), (3, .int (nI x)), (4, .int (nI (((opB S x && (decide (pre.length = 0) || (decide (g0 pre 0 < x) && gvM S (g0 pre (pre.length - 1)) x)))).toNat))), (5, .int (nI 0))]) K dX7_fits_53 (by decide) rfl ?_
    have L1 : ∀ (z : Nat) (i : Nat) (v : Bool), pre.length < i + z → (i ≤ pre.length) → (v = ((opB S x && (decide (pre.length = 0) || (decide (g0 pre 0 < x) && gvM S (g0 pre (pre.length - 1)) x))) && allB (fun q => decide (S 24 (g0 pre q) ≠ S 24 x)) i)) → G 0 0 (wM b c S J) [(0, .ref (b 0)), (1, .int (nI pre.length)), (2, .int (nI len)), (3, .int (nI x)), (4, .int (nI ((v).toNat))), (5, .int (nI i))] 55 [] := by
      intro z
      induction z with
      | zero => intro i v hz hi hv; exact absurd hz (by omega)
      | succ z ih =>
        intro i v hz hi hv
        refine r_iload K dX7_fits_55 rfl ?_
        refine r_iload_n K dX7_fits_57 rfl ?_
        refine r_ic_ge K 100 dX7_fits_58 (by decide) (by omega) (by omega) (fun h2 => ?_) (fun h2 => ?_)
        ·
          have hin : i = pre.length := by omega
          subst hin
          refine r_iload K dX7_fits_100 rfl ?_
          refine r_if_eqB K 130 dX7_fits_102 (by decide) (fun h3 => ?_) (fun h3 => ?_)
          ·
            refine r_iconst K (nI 0) dX7_fits_130 (by decide) ?_
            exact hret 0 0 _ _ _ 0 () dX7_fits_131 (by decide) (by rw [show fitB S pre x len = (((opB S x && (decide (pre.length = 0) || (decide (g0 pre 0 < x) && gvM S (g0 pre (pre.length - 1)) x))) && allB (fun q => decide (S 24 (g0 pre q) ≠ S 24 x)) pre.length) && (decide (pre.length < len - 1) || gvM S x (g0 pre 0))) from rfl, ← hv]; simp [h3]) rfl (Nat.le_of_ble_eq_true rfl) (Nat.le_of_ble_eq_true rfl)
          ·
            refine r_iload_n K dX7_fits_105 rfl ?_
            refine r_iload_n K dX7_fits_106 rfl ?_
            refine r_iconst K (nI 1) dX7_fits_107 (by decide) ?_
            refine r_isub K dX7_fits_108 (by omega) ?_
            refine r_ic_lt K 126 dX7_fits_109 (by decide) (by omega) (by omega) (fun h4 => ?_) (fun h4 => ?_)
            ·
              refine r_iconst K (nI 1) dX7_fits_126 (by decide) ?_
              refine r_goto K 131 dX7_fits_127 (by decide) ?_
              exact hret 0 0 _ _ _ 1 () dX7_fits_131 (by decide) (by rw [show fitB S pre x len = (((opB S x && (decide (pre.length = 0) || (decide (g0 pre 0 < x) && gvM S (g0 pre (pre.length - 1)) x))) && allB (fun q => decide (S 24 (g0 pre q) ≠ S 24 x)) pre.length) && (decide (pre.length < len - 1) || gvM S x (g0 pre 0))) from rfl, ← hv]; simp [h3, h4]) rfl (Nat.le_of_ble_eq_true rfl) (Nat.le_of_ble_eq_true rfl)
            ·
              refine r_aload_n K dX7_fits_112 rfl ?_
              refine r_iload_n K dX7_fits_113 rfl ?_
              refine r_aload_n K dX7_fits_114 rfl ?_
              refine r_get K hin_X7_fits_7 0 (wM_g0 _ _ _ _) rfl 21 (by decide) (List.mem_of_getElem? (i := 1) rfl) rfl dX7_fits_115 ?_
              refine r_iconst K (nI 0) dX7_fits_118 (by decide) ?_
              refine r_iald K 17 0 (wM_g17 _ _ _ _) rfl (by omega) (by decide) dX7_fits_119 ?_
              refine r_top (congrArg nI (hpre 0 (by omega))) ?_
              have hg5 := hgN 0 (by omega)
              refine r_callVs (rest := []) K (c_X7_gives l D b c S J hV x (g0 pre 0) (by omega) (by omega)) 2 gX7_fits_X7_gives rfl (by decide +kernel) rfl (by decide) 0 (wM_g0 _ _ _ _) rfl rfl (Nat.le_of_ble_eq_true rfl) dX7_fits_120 rfl rfl ?_
              refine r_if_eqB K 130 dX7_fits_123 (by decide) (fun h6 => ?_) (fun h6 => ?_)
              ·
                refine r_iconst K (nI 0) dX7_fits_130 (by decide) ?_
                exact hret 0 0 _ _ _ 0 () dX7_fits_131 (by decide) (by rw [show fitB S pre x len = (((opB S x && (decide (pre.length = 0) || (decide (g0 pre 0 < x) && gvM S (g0 pre (pre.length - 1)) x))) && allB (fun q => decide (S 24 (g0 pre q) ≠ S 24 x)) pre.length) && (decide (pre.length < len - 1) || gvM S x (g0 pre 0))) from rfl, ← hv]; simp [h3, h4, Nat.not_lt.mpr h4, h6]) rfl (Nat.le_of_ble_eq_true rfl) (Nat.le_of_ble_eq_true rfl)
              ·
                refine r_iconst K (nI 1) dX7_fits_126 (by decide) ?_
                refine r_goto K 131 dX7_fits_127 (by decide) ?_
                exact hret 0 0 _ _ _ 1 () dX7_fits_131 (by decide) (by rw [show fitB S pre x len = (((opB S x && (decide (pre.length = 0) || (decide (g0 pre 0 < x) && gvM S (g0 pre (pre.length - 1)) x))) && allB (fun q => decide (S 24 (g0 pre q) ≠ S 24 x)) pre.length) && (decide (pre.length < len - 1) || gvM S x (g0 pre 0))) from rfl, ← hv]; simp [h3, h4, Nat.not_lt.mpr h4, h6]) rfl (Nat.le_of_ble_eq_true rfl) (Nat.le_of_ble_eq_true rfl)
        ·
          refine r_iload K dX7_fits_61 rfl ?_
          refine r_if_eqB K 91 dX7_fits_63 (by decide) (fun h7 => ?_) (fun h7 => ?_)
          ·
            refine r_iconst K (nI 0) dX7_fits_91 (by decide) ?_
            refine r_istore (lv' := [(0, .ref (b 0)), (1, .int (nI pre.length)), (2, .int (nI len)), (3, .int (nI x)), (4, .int (nI 0)), (5, .int (nI i))]) K dX7_fits_92 (by decide) rfl ?_
            refine r_iinc (lv' := [(0, .ref (b 0)), (1, .int (nI pre.length)), (2, .int (nI len)), (3, .int (nI x)), (4, .int (nI 0)), (5, .int (nI (i + 1)))]) K dX7_fits_94 rfl (nI_1 _) (by decide) rfl ?_
            refine r_goto K 55 dX7_fits_97 (by decide) ?_
            exact ih (i + 1) false (by omega) (by omega) (by rw [show allB (fun q => decide (S 24 (g0 pre q) ≠ S 24 x)) (i + 1) = (allB (fun q => decide (S 24 (g0 pre q) ≠ S 24 x)) i && decide (S 24 (g0 pre i) ≠ S 24 x)) from rfl, ← Bool.and_assoc, ← hv]; simp [h2, h7])
          ·
            refine r_aload_n K dX7_fits_66 rfl ?_
            refine r_get K hin_X7_fits_7 0 (wM_g0 _ _ _ _) rfl 18 (by decide) (List.mem_of_getElem? (i := 2) rfl) rfl dX7_fits_67 ?_
            refine r_aload_n K dX7_fits_70 rfl ?_
            refine r_get K hin_X7_fits_7 0 (wM_g0 _ _ _ _) rfl 21 (by decide) (List.mem_of_getElem? (i := 1) rfl) rfl dX7_fits_71 ?_
            refine r_iload K dX7_fits_74 rfl ?_
            refine r_iald K 17 0 (wM_g17 _ _ _ _) rfl (by omega) (by decide) dX7_fits_76 ?_
            refine r_top (congrArg nI (hpre i (by omega))) ?_
            have hg8 := hgN i (by omega)
            refine r_iald K 14 0 (wM_g14 _ _ _ _) rfl (by omega) (by decide) dX7_fits_77 ?_
            have hf9 := V_b hV 24 (g0 pre i)
            refine r_aload_n K dX7_fits_78 rfl ?_
            refine r_get K hin_X7_fits_7 0 (wM_g0 _ _ _ _) rfl 18 (by decide) (List.mem_of_getElem? (i := 2) rfl) rfl dX7_fits_79 ?_
            refine r_iload_n K dX7_fits_82 rfl ?_
            refine r_iald K 14 0 (wM_g14 _ _ _ _) rfl (by omega) (by decide) dX7_fits_83 ?_
            have hf10 := V_b hV 24 x
            refine r_ic_eq K 91 dX7_fits_84 (by decide) (by omega) (by omega) (fun h11 => ?_) (fun h11 => ?_)
            ·
              refine r_iconst K (nI 0) dX7_fits_91 (by decide) ?_
              refine r_istore (lv' := [(0, .ref (b 0)), (1, .int (nI pre.length)), (2, .int (nI len)), (3, .int (nI x)), (4, .int (nI 0)), (5, .int (nI i))]) K dX7_fits_92 (by decide) rfl ?_
              refine r_iinc (lv' := [(0, .ref (b 0)), (1, .int (nI pre.length)), (2, .int (nI len)), (3, .int (nI x)), (4, .int (nI 0)), (5, .int (nI (i + 1)))]) K dX7_fits_94 rfl (nI_1 _) (by decide) rfl ?_
              refine r_goto K 55 dX7_fits_97 (by decide) ?_
              exact ih (i + 1) false (by omega) (by omega) (by rw [show allB (fun q => decide (S 24 (g0 pre q) ≠ S 24 x)) (i + 1) = (allB (fun q => decide (S 24 (g0 pre q) ≠ S 24 x)) i && decide (S 24 (g0 pre i) ≠ S 24 x)) from rfl, ← Bool.and_assoc, ← hv]; simp [h2, h7, h11])
            ·
              refine r_iconst K (nI 1) dX7_fits_87 (by decide) ?_
              refine r_goto K 92 dX7_fits_88 (by decide) ?_
              refine r_istore (lv' := [(0, .ref (b 0)), (1, .int (nI pre.length)), (2, .int (nI len)), (3, .int (nI x)), (4, .int (nI 1)), (5, .int (nI i))]) K dX7_fits_92 (by decide) rfl ?_
              refine r_iinc (lv' := [(0, .ref (b 0)), (1, .int (nI pre.length)), (2, .int (nI len)), (3, .int (nI x)), (4, .int (nI 1)), (5, .int (nI (i + 1)))]) K dX7_fits_94 rfl (nI_1 _) (by decide) rfl ?_
              refine r_goto K 55 dX7_fits_97 (by decide) ?_
              exact ih (i + 1) true (by omega) (by omega) (by rw [show allB (fun q => decide (S 24 (g0 pre q) ≠ S 24 x)) (i + 1) = (allB (fun q => decide (S 24 (g0 pre q) ≠ S 24 x)) i && decide (S 24 (g0 pre i) ≠ S 24 x)) from rfl, ← Bool.and_assoc, ← hv]; simp [h2, h7, h11])
    exact L1 (pre.length + 1) 0 _ (by omega) (by omega) (by rw [show allB (fun q => decide (S 24 (g0 pre q) ≠ S 24 x)) 0 = true from rfl, Bool.and_true])
  refine r_aload_n K dX7_fits_0 rfl ?_
  refine r_get K hin_X7_fits_7 0 (wM_g0 _ _ _ _) rfl 21 (by decide) (List.mem_of_getElem? (i := 1) rfl) rfl dX7_fits_1 ?_
  refine r_iload_n K dX7_fits_4 rfl ?_
  refine r_iald K 17 0 (wM_g17 _ _ _ _) rfl (by omega) (by decide) dX7_fits_5 ?_
  refine r_top (congrArg nI hxt) ?_
  refine r_istore_n (lv' := [(0, .ref (b 0)), (1, .int (nI pre.length)), (2, .int (nI len)), (3, .int (nI x))]) K dX7_fits_6 (by decide) rfl ?_
  refine r_aload_n K dX7_fits_7 rfl ?_
  refine r_iload_n K dX7_fits_8 rfl ?_
  refine r_callVs (rest := []) K (c_X7_opens l D b c S J hV x (by omega)) 1 gX7_fits_X7_opens rfl (by decide +kernel) rfl (by decide) 0 (wM_g0 _ _ _ _) rfl rfl (Nat.le_of_ble_eq_true rfl) dX7_fits_9 rfl rfl ?_
  refine r_if_eqB K 49 dX7_fits_12 (by decide) (fun h12 => ?_) (fun h12 => ?_)
  ·
    refine r_iconst K (nI 0) dX7_fits_49 (by decide) ?_
    refine r_st (st' := [.int (nI (((opB S x && (decide (pre.length = 0) || (decide (g0 pre 0 < x) && gvM S (g0 pre (pre.length - 1)) x)))).toNat))]) (by simp [h12]) ?_
    exact HM50
  ·
    refine r_iload_n K dX7_fits_15 rfl ?_
    refine r_if_eq K 45 dX7_fits_16 (by decide) (by omega) (fun h13 => ?_) (fun h13 => ?_)
    ·
      refine r_iconst K (nI 1) dX7_fits_45 (by decide) ?_
      refine r_goto K 50 dX7_fits_46 (by decide) ?_
      refine r_st (st' := [.int (nI (((opB S x && (decide (pre.length = 0) || (decide (g0 pre 0 < x) && gvM S (g0 pre (pre.length - 1)) x)))).toNat))]) (by simp [h12, h13]) ?_
      exact HM50
    ·
      refine r_iload_n K dX7_fits_19 rfl ?_
      refine r_aload_n K dX7_fits_20 rfl ?_
      refine r_get K hin_X7_fits_7 0 (wM_g0 _ _ _ _) rfl 21 (by decide) (List.mem_of_getElem? (i := 1) rfl) rfl dX7_fits_21 ?_
      refine r_iconst K (nI 0) dX7_fits_24 (by decide) ?_
      refine r_iald K 17 0 (wM_g17 _ _ _ _) rfl (by omega) (by decide) dX7_fits_25 ?_
      refine r_top (congrArg nI (hpre 0 (by omega))) ?_
      have hg14 := hgN 0 (by omega)
      refine r_ic_le K 49 dX7_fits_26 (by decide) (by omega) (by omega) (fun h15 => ?_) (fun h15 => ?_)
      ·
        refine r_iconst K (nI 0) dX7_fits_49 (by decide) ?_
        refine r_st (st' := [.int (nI (((opB S x && (decide (pre.length = 0) || (decide (g0 pre 0 < x) && gvM S (g0 pre (pre.length - 1)) x)))).toNat))]) (by simp [h12, h13, h15, Nat.not_lt.mpr h15]) ?_
        exact HM50
      ·
        refine r_aload_n K dX7_fits_29 rfl ?_
        refine r_aload_n K dX7_fits_30 rfl ?_
        refine r_get K hin_X7_fits_7 0 (wM_g0 _ _ _ _) rfl 21 (by decide) (List.mem_of_getElem? (i := 1) rfl) rfl dX7_fits_31 ?_
        refine r_iload_n K dX7_fits_34 rfl ?_
        refine r_iconst K (nI 1) dX7_fits_35 (by decide) ?_
        refine r_isub K dX7_fits_36 (by omega) ?_
        refine r_iald K 17 0 (wM_g17 _ _ _ _) rfl (by omega) (by decide) dX7_fits_37 ?_
        refine r_top (congrArg nI (hpre (pre.length - 1) (by omega))) ?_
        have hg16 := hgN (pre.length - 1) (by omega)
        refine r_iload_n K dX7_fits_38 rfl ?_
        refine r_callVs (rest := []) K (c_X7_gives l D b c S J hV (g0 pre (pre.length - 1)) x (by omega) (by omega)) 2 gX7_fits_X7_gives rfl (by decide +kernel) rfl (by decide) 0 (wM_g0 _ _ _ _) rfl rfl (Nat.le_of_ble_eq_true rfl) dX7_fits_39 rfl rfl ?_
        refine r_if_eqB K 49 dX7_fits_42 (by decide) (fun h17 => ?_) (fun h17 => ?_)
        ·
          refine r_iconst K (nI 0) dX7_fits_49 (by decide) ?_
          refine r_st (st' := [.int (nI (((opB S x && (decide (pre.length = 0) || (decide (g0 pre 0 < x) && gvM S (g0 pre (pre.length - 1)) x)))).toNat))]) (by simp [h12, h13, h15, Nat.not_le.mpr h15, h17]) ?_
          exact HM50
        ·
          refine r_iconst K (nI 1) dX7_fits_45 (by decide) ?_
          refine r_goto K 50 dX7_fits_46 (by decide) ?_
          refine r_st (st' := [.int (nI (((opB S x && (decide (pre.length = 0) || (decide (g0 pre 0 < x) && gvM S (g0 pre (pre.length - 1)) x)))).toNat))]) (by simp [h12, h13, h15, Nat.not_le.mpr h15, h17]) ?_
          exact HM50
