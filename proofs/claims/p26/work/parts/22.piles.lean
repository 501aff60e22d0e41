def rmX4_append : Room := { frames := 0, cells := 0, slots := 0, locals := 0 }
theorem hin_X4_append_4 : ∀ w ∈ wsX40, w ∈ wsX4_append := fun _ h => List.mem_cons_of_mem _ (List.mem_append_right _ h)
set_option maxHeartbeats 4000000 in
set_option maxRecDepth 100000 in
theorem c_X4_append (l : Launch) (D : va_G) (a : Nat → Nat) (c : Nat → ClassId) (S J : St) (hV : V S) (k v q : Nat) (hc : S 2 0 < 80) : Cs l yX4_append wsX4_append rmX4_append D (tyW c) [.ref (a 2), .int (nI k), .int (nI v), .int (nI q)] (wC a c S J) (nI (S 2 0)) (wC a c (up (up (up (up S 15 (S 2 0) k) 16 (S 2 0) v) 17 (S 2 0) q) 2 0 (S 2 0 + 1)) J) := by
  refine Ci.of (lv0 := [(0, .ref (a 2)), (1, .int (nI k)), (2, .int (nI v)), (3, .int (nI q))]) (by decide +kernel) rfl (Nat.le_of_ble_eq_true rfl) rfl (fun G K hret => ?_)
  refine r_aload_n K dX4_append_0 rfl ?_
  refine r_get K hin_X4_append_4 2 (wC_g2 _ _ _ _) rfl 3 (by decide) (List.mem_of_getElem? (i := 1) rfl) rfl dX4_append_1 ?_
  have hf1 := V_b hV 2 0
  refine r_istore (lv' := [(0, .ref (a 2)), (1, .int (nI k)), (2, .int (nI v)), (3, .int (nI q)), (4, .int (nI (S 2 0)))]) K dX4_append_4 (by decide) rfl ?_
  refine r_aload_n K dX4_append_6 rfl ?_
  refine r_get K hin_X4_append_4 2 (wC_g2 _ _ _ _) rfl 0 (by decide) (List.mem_of_getElem? (i := 2) rfl) rfl dX4_append_7 ?_
  refine r_iload K dX4_append_10 rfl ?_
  refine r_iload_n K dX4_append_12 rfl ?_
  refine r_iast K 15 0 (wC_g15 _ _ _ _) rfl (by omega) (by decide) dX4_append_13 (wC_s15 _ _ _ _ _ _) ?_
  refine r_aload_n K dX4_append_14 rfl ?_
  refine r_get K hin_X4_append_4 2 (wC_g2 _ _ _ _) rfl 1 (by decide) (List.mem_of_getElem? (i := 3) rfl) rfl dX4_append_15 ?_
  refine r_iload K dX4_append_18 rfl ?_
  refine r_iload_n K dX4_append_20 rfl ?_
  refine r_iast K 16 0 (wC_g16 _ _ _ _) rfl (by omega) (by decide) dX4_append_21 (wC_s16 _ _ _ _ _ _) ?_
  refine r_aload_n K dX4_append_22 rfl ?_
  refine r_get K hin_X4_append_4 2 (wC_g2 _ _ _ _) rfl 2 (by decide) (List.mem_of_getElem? (i := 4) rfl) rfl dX4_append_23 ?_
  refine r_iload K dX4_append_26 rfl ?_
  refine r_iload_n K dX4_append_28 rfl ?_
  refine r_iast K 17 0 (wC_g17 _ _ _ _) rfl (by omega) (by decide) dX4_append_29 (wC_s17 _ _ _ _ _ _) ?_
  refine r_aload_n K dX4_append_30 rfl ?_
  refine r_dup K dX4_append_31 rfl ?_
  refine r_get K hin_X4_append_4 2 (wC_g2 _ _ _ _) rfl 3 (by decide) (List.mem_of_getElem? (i := 1) rfl) rfl dX4_append_32 ?_
  refine r_top (congrArg nI (congrFun (up_ne (by decide)) _)) ?_
  refine r_top (congrArg nI (congrFun (up_ne (by decide)) _)) ?_
  refine r_top (congrArg nI (congrFun (up_ne (by decide)) _)) ?_
  refine r_iconst K (nI 1) dX4_append_35 (by decide) ?_
  refine r_iadd K dX4_append_36 ?_
  refine r_put K hin_X4_append_4 tyX4 tyX4_ok nmX4 2 (wC_g2 _ _ _ _) rfl 3 (by decide) (List.mem_of_getElem? (i := 1) rfl) rfl rfl rfl (Nat.le_of_ble_eq_true rfl) dX4_append_37 (wC_s2_3 _ _ _ _ _) ?_
  refine r_iload K dX4_append_40 rfl ?_
  exact hret 0 0 _ _ _ (nI (S 2 0)) () dX4_append_42 rfl rfl (Nat.le_of_ble_eq_true rfl) (Nat.le_of_ble_eq_true rfl)

def rmX4_countOf : Room := { frames := 0, cells := 0, slots := 0, locals := 0 }
theorem hin_X4_countOf_4 : ∀ w ∈ wsX40, w ∈ wsX4_countOf := fun _ h => List.mem_cons_of_mem _ (List.mem_append_right _ h)
set_option maxHeartbeats 4000000 in
set_option maxRecDepth 100000 in
theorem c_X4_countOf (l : Launch) (D : va_G) (a : Nat → Nat) (c : Nat → ClassId) (S J : St) (hV : V S) (q k : Nat) (hq : q < 1000000) (hk : k < 1000000) : Cs l yX4_countOf wsX4_countOf rmX4_countOf D (tyW c) [.ref (a 2), .int (nI q), .int (nI k)] (wC a c S J) (nI (hasN S q k)) (wC a c S J) := by
  refine Ci.of (lv0 := [(0, .ref (a 2)), (1, .int (nI q)), (2, .int (nI k))]) (by decide +kernel) rfl (Nat.le_of_ble_eq_true rfl) rfl (fun G K hret => ?_)
  have hcd := V_cards hV
  refine r_iconst K (nI 0) dX4_countOf_0 (by decide) ?_
  refine r_istore_n (lv' := [(0, .ref (a 2)), (1, .int (nI q)), (2, .int (nI k)), (3, .int (nI 0))]) K dX4_countOf_1 (by decide) rfl ?_
  refine r_iconst K (nI 0) dX4_countOf_2 (by decide) ?_
  refine r_istore (lv' := [(0, .ref (a 2)), (1, .int (nI q)), (2, .int (nI k)), (3, .int (nI 0)), (4, .int (nI 0))]) K dX4_countOf_3 (by decide) rfl ?_
  have L1 : ∀ (z : Nat) (i x : Nat), S 2 0 < i + z → (i ≤ S 2 0) → (x = cnt (hasB S q k) i) → G 0 0 (wC a c S J) [(0, .ref (a 2)), (1, .int (nI q)), (2, .int (nI k)), (3, .int (nI x)), (4, .int (nI i))] 5 [] := by
    intro z
    induction z with
    | zero => intro i x hz hi hx; exact absurd hz (by omega)
    | succ z ih =>
      intro i x hz hi hx
      refine r_iload K dX4_countOf_5 rfl ?_
      refine r_aload_n K dX4_countOf_7 rfl ?_
      refine r_get K hin_X4_countOf_4 2 (wC_g2 _ _ _ _) rfl 3 (by decide) (List.mem_of_getElem? (i := 1) rfl) rfl dX4_countOf_8 ?_
      have hf2 := V_b hV 2 0
      refine r_ic_ge K 45 dX4_countOf_11 (by decide) (by omega) (by omega) (fun h3 => ?_) (fun h3 => ?_)
      ·
        refine r_iload_n K dX4_countOf_45 rfl ?_
        exact hret 0 0 _ _ _ (nI x) () dX4_countOf_46 (by rw [hx, show i = S 2 0 by omega]; rfl) rfl (Nat.le_of_ble_eq_true rfl) (Nat.le_of_ble_eq_true rfl)
      ·
        refine r_aload_n K dX4_countOf_14 rfl ?_
        refine r_get K hin_X4_countOf_4 2 (wC_g2 _ _ _ _) rfl 2 (by decide) (List.mem_of_getElem? (i := 2) rfl) rfl dX4_countOf_15 ?_
        refine r_iload K dX4_countOf_18 rfl ?_
        refine r_iald K 17 0 (wC_g17 _ _ _ _) rfl (by omega) (by decide) dX4_countOf_20 ?_
        have hf4 := V_b hV 17 i
        refine r_iload_n K dX4_countOf_21 rfl ?_
        refine r_ic_ne K 39 dX4_countOf_22 (by decide) (by omega) (by omega) (fun h5 => ?_) (fun h5 => ?_)
        ·
          refine r_iinc (lv' := [(0, .ref (a 2)), (1, .int (nI q)), (2, .int (nI k)), (3, .int (nI x)), (4, .int (nI (i + 1)))]) K dX4_countOf_39 rfl (nI_1 _) (by decide) rfl ?_
          refine r_goto K 5 dX4_countOf_42 (by decide) ?_
          exact ih (i + 1) x (by omega) (by omega) (by rw [cnt_n (hasB_1 h5), hx])
        ·
          refine r_aload_n K dX4_countOf_25 rfl ?_
          refine r_get K hin_X4_countOf_4 2 (wC_g2 _ _ _ _) rfl 0 (by decide) (List.mem_of_getElem? (i := 3) rfl) rfl dX4_countOf_26 ?_
          refine r_iload K dX4_countOf_29 rfl ?_
          refine r_iald K 15 0 (wC_g15 _ _ _ _) rfl (by omega) (by decide) dX4_countOf_31 ?_
          have hf6 := V_kind hV i
          refine r_iload_n K dX4_countOf_32 rfl ?_
          refine r_ic_ne K 39 dX4_countOf_33 (by decide) (by omega) (by omega) (fun h7 => ?_) (fun h7 => ?_)
          ·
            refine r_iinc (lv' := [(0, .ref (a 2)), (1, .int (nI q)), (2, .int (nI k)), (3, .int (nI x)), (4, .int (nI (i + 1)))]) K dX4_countOf_39 rfl (nI_1 _) (by decide) rfl ?_
            refine r_goto K 5 dX4_countOf_42 (by decide) ?_
            exact ih (i + 1) x (by omega) (by omega) (by rw [cnt_n (hasB_2 h7), hx])
          ·
            refine r_iinc (lv' := [(0, .ref (a 2)), (1, .int (nI q)), (2, .int (nI k)), (3, .int (nI (x + 1))), (4, .int (nI i))]) K dX4_countOf_36 rfl (nI_1 _) (by decide) rfl ?_
            refine r_iinc (lv' := [(0, .ref (a 2)), (1, .int (nI q)), (2, .int (nI k)), (3, .int (nI (x + 1))), (4, .int (nI (i + 1)))]) K dX4_countOf_39 rfl (nI_1 _) (by decide) rfl ?_
            refine r_goto K 5 dX4_countOf_42 (by decide) ?_
            exact ih (i + 1) (x + 1) (by omega) (by omega) (by rw [cnt_y (hasB_y h5 h7), hx])
  exact L1 (S 2 0 + 1) 0 0 (by omega) (by omega) rfl

def rmX3_shuffle : Room := { frames := 0, cells := 0, slots := 0, locals := 0 }
theorem hin_X3_shuffle_0 : ∀ w ∈ wsX00, w ∈ wsX3_shuffle := fun _ h => List.mem_cons_of_mem _ (List.mem_append_left _ (List.mem_append_right _ h))
theorem hin_X3_shuffle_3 : ∀ w ∈ wsX30, w ∈ wsX3_shuffle := fun _ h => List.mem_cons_of_mem _ (List.mem_append_right _ h)
set_option maxHeartbeats 4000000 in
set_option maxRecDepth 100000 in
theorem c_X3_shuffle_5 (l : Launch) (D : va_G) (a : Nat → Nat) (c : Nat → ClassId) (S J : St) (hV : V S) (d s : Nat) (hd : d < 12) (hn : 1 ≤ S 19 d) (hs : s < 2147483648) : Cv l yX3_shuffle wsX3_shuffle rmX3_shuffle D (tyW c) [.ref (a 5), .ref (a 3), .int (nI d), .int (nI s)] (wC a c S J) (fun J1 : St => shPost S J d s 27 J1) (fun J1 => wC a c S J1) := by
  refine Cv.of (lv0 := [(0, .ref (a 5)), (1, .ref (a 3)), (2, .int (nI d)), (3, .int (nI s))]) (by decide +kernel) rfl (Nat.le_of_ble_eq_true rfl) rfl (fun G K hret => ?_)
  have hsz := V_size hV d
  refine r_aload_n K dX3_shuffle_0 rfl ?_
  refine r_get K hin_X3_shuffle_0 3 (wC_g3 _ _ _ _) rfl 1 (by decide) (List.mem_of_getElem? (i := 1) rfl) rfl dX3_shuffle_1 ?_
  refine r_iload_n K dX3_shuffle_4 rfl ?_
  refine r_iald K 19 0 (wC_g19 _ _ _ _) rfl (by omega) (by decide) dX3_shuffle_5 ?_
  have hf1 := V_size hV d
  refine r_istore (lv' := [(0, .ref (a 5)), (1, .ref (a 3)), (2, .int (nI d)), (3, .int (nI s)), (4, .int (nI (S 19 d)))]) K dX3_shuffle_6 (by decide) rfl ?_
  refine r_iconst K (nI 0) dX3_shuffle_8 (by decide) ?_
  refine r_istore (lv' := [(0, .ref (a 5)), (1, .ref (a 3)), (2, .int (nI d)), (3, .int (nI s)), (4, .int (nI (S 19 d))), (5, .int (nI 0))]) K dX3_shuffle_9 (by decide) rfl ?_
  have L2 : ∀ (z : Nat) (i : Nat) (Jx : St), S 19 d < i + z → (i ≤ S 19 d) → (∀ g, g ≠ 27 → Jx g = J g) → (∀ p, p < i → Jx 27 p = S (30 + d) p) → G 0 0 (wC a c S Jx) [(0, .ref (a 5)), (1, .ref (a 3)), (2, .int (nI d)), (3, .int (nI s)), (4, .int (nI (S 19 d))), (5, .int (nI i))] 11 [] := by
    intro z
    induction z with
    | zero => intro i Jx hz hi ho hr; exact absurd hz (by omega)
    | succ z ih =>
      intro i Jx hz hi ho hr
      refine r_iload K dX3_shuffle_11 rfl ?_
      refine r_iload K dX3_shuffle_13 rfl ?_
      refine r_ic_ge K 40 dX3_shuffle_15 (by decide) (by omega) (by omega) (fun h3 => ?_) (fun h3 => ?_)
      ·
        have hin : i = S 19 d := by omega
        subst hin
        refine r_iload_n K dX3_shuffle_40 rfl ?_
        refine r_i2l K dX3_shuffle_41 (by omega) ?_
        refine r_lstore (lv' := [(0, .ref (a 5)), (1, .ref (a 3)), (2, .int (nI d)), (3, .int (nI s)), (4, .int (nI (S 19 d))), (5, .long (lN s))]) K dX3_shuffle_42 (by decide) rfl ?_
        refine r_iload K dX3_shuffle_44 rfl ?_
        refine r_iconst K (nI 1) dX3_shuffle_46 (by decide) ?_
        refine r_isub K dX3_shuffle_47 (by omega) ?_
        refine r_istore (lv' := [(0, .ref (a 5)), (1, .ref (a 3)), (2, .int (nI d)), (3, .int (nI s)), (4, .int (nI (S 19 d))), (5, .long (lN s)), (7, .int (nI (S 19 d - 1)))]) K dX3_shuffle_48 (by decide) rfl ?_
        have M4 : ∀ (z2 : Nat) (i t : Nat) (Jy : St), i < z2 → (i ≤ S 19 d - 1) → (t < 2147483648) → (∀ g, g ≠ 27 → Jy g = J g) → (sh0 i (Jy 27) t = (sh0 (S 19 d - 1) (Jx 27) s)) → G 0 0 (wC a c S Jy) [(0, .ref (a 5)), (1, .ref (a 3)), (2, .int (nI d)), (3, .int (nI s)), (4, .int (nI (S 19 d))), (5, .long (lN t)), (7, .int (nI i))] 50 [] := by
          intro z2
          induction z2 with
          | zero => intro i t Jy hz hi ht ho2 hR; exact absurd hz (by omega)
          | succ z2 ih =>
            intro i t Jy hz hi ht ho2 hR
            refine r_iload K dX3_shuffle_50 rfl ?_
            refine r_iconst K (nI 1) dX3_shuffle_52 (by decide) ?_
            refine r_ic_lt K 125 dX3_shuffle_53 (by decide) (by omega) (by decide) (fun h5 => ?_) (fun h5 => ?_)
            ·
              obtain rfl : i = 0 := by omega
              exact hret 0 0 _ _ _ Jy dX3_shuffle_125 ⟨ho2, fun p hp => by rw [show Jy 27 = _ from hR]; exact shG_agree drw_lt _ _ (by omega) hr p hp⟩ rfl (Nat.le_of_ble_eq_true rfl) (Nat.le_of_ble_eq_true rfl)
            ·
              obtain ⟨i, rfl⟩ : ∃ j, i = j + 1 := ⟨i - 1, by omega⟩
              refine r_lload K dX3_shuffle_56 rfl ?_
              refine r_ldc2 K (v := lN 1103515245) (List.mem_of_getElem? (i := 4) rfl) dX3_shuffle_58 ?_
              refine r_lmul K dX3_shuffle_61 ?_
              refine r_ldc2 K (v := lN 12345) (List.mem_of_getElem? (i := 5) rfl) dX3_shuffle_62 ?_
              refine r_ladd K dX3_shuffle_65 ?_
              refine r_ldc2 K (v := lN 2147483648) (List.mem_of_getElem? (i := 6) rfl) dX3_shuffle_66 ?_
              refine r_lrem K dX3_shuffle_69 (by omega) (by omega) (by omega) ?_
              obtain ⟨t1, ht1e⟩ : ∃ y, y = (((t * 1103515245) + 12345) % 2147483648) := ⟨_, rfl⟩
              have ht1 : t1 < 2147483648 := by rw [ht1e]; exact Nat.mod_lt _ (by decide)
              refine r_topL (congrArg lN ht1e.symm) ?_
              refine r_lstore (lv' := [(0, .ref (a 5)), (1, .ref (a 3)), (2, .int (nI d)), (3, .int (nI s)), (4, .int (nI (S 19 d))), (5, .long (lN t1)), (7, .int (nI (i + 1)))]) K dX3_shuffle_70 (by decide) rfl ?_
              refine r_lload K dX3_shuffle_72 rfl ?_
              refine r_ldc2 K (v := lN 65536) (List.mem_of_getElem? (i := 7) rfl) dX3_shuffle_74 ?_
              refine r_ldiv K dX3_shuffle_77 (by omega) (by omega) (by omega) ?_
              refine r_iload K dX3_shuffle_78 rfl ?_
              refine r_iconst K (nI 1) dX3_shuffle_80 (by decide) ?_
              refine r_iadd K dX3_shuffle_81 ?_
              refine r_i2l K dX3_shuffle_82 (by omega) ?_
              refine r_lrem K dX3_shuffle_83 (by omega) (by omega) (by omega) ?_
              refine r_l2i K dX3_shuffle_84 ?_
              obtain ⟨j, hj⟩ : ∃ y, y = ((t1 / 65536) % ((i + 1) + 1)) := ⟨_, rfl⟩
              have hjl : j < i + 1 + 1 := by rw [hj]; exact Nat.mod_lt _ (by omega)
              refine r_top (congrArg nI hj.symm) ?_
              refine r_istore (lv' := [(0, .ref (a 5)), (1, .ref (a 3)), (2, .int (nI d)), (3, .int (nI s)), (4, .int (nI (S 19 d))), (5, .long (lN t1)), (7, .int (nI (i + 1))), (8, .int (nI j))]) K dX3_shuffle_85 (by decide) rfl ?_
              refine r_aload_n K dX3_shuffle_87 rfl ?_
              refine r_get K hin_X3_shuffle_3 5 (wC_g5 _ _ _ _) rfl 0 (by decide) (List.mem_of_getElem? (i := 2) rfl) rfl dX3_shuffle_88 ?_
              refine r_iload K dX3_shuffle_91 rfl ?_
              refine r_iald K 27 0 (wC_g27 _ _ _ _) rfl (by omega) (by decide) dX3_shuffle_93 ?_
              refine r_istore (lv' := [(0, .ref (a 5)), (1, .ref (a 3)), (2, .int (nI d)), (3, .int (nI s)), (4, .int (nI (S 19 d))), (5, .long (lN t1)), (7, .int (nI (i + 1))), (8, .int (nI j)), (9, .int (nI (Jy 27 (i + 1))))]) K dX3_shuffle_94 (by decide) rfl ?_
              refine r_aload_n K dX3_shuffle_96 rfl ?_
              refine r_get K hin_X3_shuffle_3 5 (wC_g5 _ _ _ _) rfl 0 (by decide) (List.mem_of_getElem? (i := 2) rfl) rfl dX3_shuffle_97 ?_
              refine r_iload K dX3_shuffle_100 rfl ?_
              refine r_aload_n K dX3_shuffle_102 rfl ?_
              refine r_get K hin_X3_shuffle_3 5 (wC_g5 _ _ _ _) rfl 0 (by decide) (List.mem_of_getElem? (i := 2) rfl) rfl dX3_shuffle_103 ?_
              refine r_iload K dX3_shuffle_106 rfl ?_
              refine r_iald K 27 0 (wC_g27 _ _ _ _) rfl (by omega) (by decide) dX3_shuffle_108 ?_
              refine r_iast K 27 0 (wC_g27 _ _ _ _) rfl (by omega) (by decide) dX3_shuffle_109 (wC_s27 _ _ _ _ _ _) ?_
              refine r_aload_n K dX3_shuffle_110 rfl ?_
              refine r_get K hin_X3_shuffle_3 5 (wC_g5 _ _ _ _) rfl 0 (by decide) (List.mem_of_getElem? (i := 2) rfl) rfl dX3_shuffle_111 ?_
              refine r_iload K dX3_shuffle_114 rfl ?_
              refine r_iload K dX3_shuffle_116 rfl ?_
              refine r_iast K 27 0 (wC_g27 _ _ _ _) rfl (by omega) (by decide) dX3_shuffle_118 (wC_s27 _ _ _ _ _ _) ?_
              refine r_iinc (lv' := [(0, .ref (a 5)), (1, .ref (a 3)), (2, .int (nI d)), (3, .int (nI s)), (4, .int (nI (S 19 d))), (5, .long (lN t1)), (7, .int (nI i)), (8, .int (nI j)), (9, .int (nI (Jy 27 (i + 1))))]) K dX3_shuffle_119 rfl dec_nI (by decide) rfl ?_
              refine r_goto K 50 dX3_shuffle_122 (by decide) ?_
              refine r_pick [0, 1, 2, 3, 4, 5, 6] K rfl ?_
              exact ih i t1 _ (by omega) (by omega) ht1 (fun g hg => (up_ne hg).trans ((up_ne hg).trans (ho2 g hg))) ((sh0_up ht1e hj).trans hR)
        exact M4 (S 19 d) (S 19 d - 1) s Jx (by omega) (Nat.le_refl _) hs ho rfl
      ·
        refine r_aload_n K dX3_shuffle_18 rfl ?_
        refine r_get K hin_X3_shuffle_3 5 (wC_g5 _ _ _ _) rfl 0 (by decide) (List.mem_of_getElem? (i := 2) rfl) rfl dX3_shuffle_19 ?_
        refine r_iload K dX3_shuffle_22 rfl ?_
        refine r_aload_n K dX3_shuffle_24 rfl ?_
        refine r_get K hin_X3_shuffle_0 3 (wC_g3 _ _ _ _) rfl 2 (by decide) (List.mem_of_getElem? (i := 3) rfl) rfl dX3_shuffle_25 ?_
        refine r_iload_n K dX3_shuffle_28 rfl ?_
        refine r_aald2 K 20 2 (wC_g20 _ _ _ _) rfl (by omega) (by decide) (rowsOf_at _ (by omega)) dX3_shuffle_29 ?_
        refine r_iload K dX3_shuffle_30 rfl ?_
        refine r_iald K (30 + d) 0 (wC_row _ _ _ _ (by omega)) rfl (by omega) (by decide) dX3_shuffle_32 ?_
        have hf6 := V_card hV d i (by omega)
        refine r_iast K 27 0 (wC_g27 _ _ _ _) rfl (by omega) (by decide) dX3_shuffle_33 (wC_s27 _ _ _ _ _ _) ?_
        refine r_iinc (lv' := [(0, .ref (a 5)), (1, .ref (a 3)), (2, .int (nI d)), (3, .int (nI s)), (4, .int (nI (S 19 d))), (5, .int (nI (i + 1)))]) K dX3_shuffle_34 rfl (nI_1 _) (by decide) rfl ?_
        refine r_goto K 11 dX3_shuffle_37 (by decide) ?_
        exact ih (i + 1) _ (by omega) (by omega) (fun g hg => (up_ne hg).trans (ho g hg)) (cp_step hr)
  exact L2 (S 19 d + 1) 0 J (by omega) (by omega) (fun _ _ => rfl) (fun p hp => absurd hp (Nat.not_lt_zero p))

set_option maxHeartbeats 4000000 in
set_option maxRecDepth 100000 in
theorem c_X3_shuffle_8 (l : Launch) (D : va_G) (a : Nat → Nat) (c : Nat → ClassId) (S J : St) (hV : V S) (d s : Nat) (hd : d < 12) (hn : 1 ≤ S 19 d) (hs : s < 2147483648) : Cv l yX3_shuffle wsX3_shuffle rmX3_shuffle D (tyW c) [.ref (a 8), .ref (a 3), .int (nI d), .int (nI s)] (wC a c S J) (fun J1 : St => shPost S J d s 28 J1) (fun J1 => wC a c S J1) := by
  refine Cv.of (lv0 := [(0, .ref (a 8)), (1, .ref (a 3)), (2, .int (nI d)), (3, .int (nI s))]) (by decide +kernel) rfl (Nat.le_of_ble_eq_true rfl) rfl (fun G K hret => ?_)
  have hsz := V_size hV d
  refine r_aload_n K dX3_shuffle_0 rfl ?_
  refine r_get K hin_X3_shuffle_0 3 (wC_g3 _ _ _ _) rfl 1 (by decide) (List.mem_of_getElem? (i := 1) rfl) rfl dX3_shuffle_1 ?_
  refine r_iload_n K dX3_shuffle_4 rfl ?_
  refine r_iald K 19 0 (wC_g19 _ _ _ _) rfl (by omega) (by decide) dX3_shuffle_5 ?_
  have hf1 := V_size hV d
  refine r_istore (lv' := [(0, .ref (a 8)), (1, .ref (a 3)), (2, .int (nI d)), (3, .int (nI s)), (4, .int (nI (S 19 d)))]) K dX3_shuffle_6 (by decide) rfl ?_
  refine r_iconst K (nI 0) dX3_shuffle_8 (by decide) ?_
  refine r_istore (lv' := [(0, .ref (a 8)), (1, .ref (a 3)), (2, .int (nI d)), (3, .int (nI s)), (4, .int (nI (S 19 d))), (5, .int (nI 0))]) K dX3_shuffle_9 (by decide) rfl ?_
  have L2 : ∀ (z : Nat) (i : Nat) (Jx : St), S 19 d < i + z → (i ≤ S 19 d) → (∀ g, g ≠ 28 → Jx g = J g) → (∀ p, p < i → Jx 28 p = S (30 + d) p) → G 0 0 (wC a c S Jx) [(0, .ref (a 8)), (1, .ref (a 3)), (2, .int (nI d)), (3, .int (nI s)), (4, .int (nI (S 19 d))), (5, .int (nI i))] 11 [] := by
    intro z
    induction z with
    | zero => intro i Jx hz hi ho hr; exact absurd hz (by omega)
    | succ z ih =>
      intro i Jx hz hi ho hr
      refine r_iload K dX3_shuffle_11 rfl ?_
      refine r_iload K dX3_shuffle_13 rfl ?_
      refine r_ic_ge K 40 dX3_shuffle_15 (by decide) (by omega) (by omega) (fun h3 => ?_) (fun h3 => ?_)
      ·
        have hin : i = S 19 d := by omega
        subst hin
        refine r_iload_n K dX3_shuffle_40 rfl ?_
        refine r_i2l K dX3_shuffle_41 (by omega) ?_
        refine r_lstore (lv' := [(0, .ref (a 8)), (1, .ref (a 3)), (2, .int (nI d)), (3, .int (nI s)), (4, .int (nI (S 19 d))), (5, .long (lN s))]) K dX3_shuffle_42 (by decide) rfl ?_
        refine r_iload K dX3_shuffle_44 rfl ?_
        refine r_iconst K (nI 1) dX3_shuffle_46 (by decide) ?_
        refine r_isub K dX3_shuffle_47 (by omega) ?_
        refine r_istore (lv' := [(0, .ref (a 8)), (1, .ref (a 3)), (2, .int (nI d)), (3, .int (nI s)), (4, .int (nI (S 19 d))), (5, .long (lN s)), (7, .int (nI (S 19 d - 1)))]) K dX3_shuffle_48 (by decide) rfl ?_
        have M4 : ∀ (z2 : Nat) (i t : Nat) (Jy : St), i < z2 → (i ≤ S 19 d - 1) → (t < 2147483648) → (∀ g, g ≠ 28 → Jy g = J g) → (sh0 i (Jy 28) t = (sh0 (S 19 d - 1) (Jx 28) s)) → G 0 0 (wC a c S Jy) [(0, .ref (a 8)), (1, .ref (a 3)), (2, .int (nI d)), (3, .int (nI s)), (4, .int (nI (S 19 d))), (5, .long (lN t)), (7, .int (nI i))] 50 [] := by
          intro z2
          induction z2 with
          | zero => intro i t Jy hz hi ht ho2 hR; exact absurd hz (by omega)
          | succ z2 ih =>
            intro i t Jy hz hi ht ho2 hR
            refine r_iload K dX3_shuffle_50 rfl ?_
            refine r_iconst K (nI 1) dX3_shuffle_52 (by decide) ?_
            refine r_ic_lt K 125 dX3_shuffle_53 (by decide) (by omega) (by decide) (fun h5 => ?_) (fun h5 => ?_)
            ·
              obtain rfl : i = 0 := by omega
              exact hret 0 0 _ _ _ Jy dX3_shuffle_125 ⟨ho2, fun p hp => by rw [show Jy 28 = _ from hR]; exact shG_agree drw_lt _ _ (by omega) hr p hp⟩ rfl (Nat.le_of_ble_eq_true rfl) (Nat.le_of_ble_eq_true rfl)
            ·
              obtain ⟨i, rfl⟩ : ∃ j, i = j + 1 := ⟨i - 1, by omega⟩
              refine r_lload K dX3_shuffle_56 rfl ?_
              refine r_ldc2 K (v := lN 1103515245) (List.mem_of_getElem? (i := 4) rfl) dX3_shuffle_58 ?_
              refine r_lmul K dX3_shuffle_61 ?_
              refine r_ldc2 K (v := lN 12345) (List.mem_of_getElem? (i := 5) rfl) dX3_shuffle_62 ?_
              refine r_ladd K dX3_shuffle_65 ?_
              refine r_ldc2 K (v := lN 2147483648) (List.mem_of_getElem? (i := 6) rfl) dX3_shuffle_66 ?_
              refine r_lrem K dX3_shuffle_69 (by omega) (by omega) (by omega) ?_
              obtain ⟨t1, ht1e⟩ : ∃ y, y = (((t * 1103515245) + 12345) % 2147483648) := ⟨_, rfl⟩
              have ht1 : t1 < 2147483648 := by rw [ht1e]; exact Nat.mod_lt _ (by decide)
              refine r_topL (congrArg lN ht1e.symm) ?_
              refine r_lstore (lv' := [(0, .ref (a 8)), (1, .ref (a 3)), (2, .int (nI d)), (3, .int (nI s)), (4, .int (nI (S 19 d))), (5, .long (lN t1)), (7, .int (nI (i + 1)))]) K dX3_shuffle_70 (by decide) rfl ?_
              refine r_lload K dX3_shuffle_72 rfl ?_
              refine r_ldc2 K (v := lN 65536) (List.mem_of_getElem? (i := 7) rfl) dX3_shuffle_74 ?_
              refine r_ldiv K dX3_shuffle_77 (by omega) (by omega) (by omega) ?_
              refine r_iload K dX3_shuffle_78 rfl ?_
              refine r_iconst K (nI 1) dX3_shuffle_80 (by decide) ?_
              refine r_iadd K dX3_shuffle_81 ?_
              refine r_i2l K dX3_shuffle_82 (by omega) ?_
              refine r_lrem K dX3_shuffle_83 (by omega) (by omega) (by omega) ?_
              refine r_l2i K dX3_shuffle_84 ?_
              obtain ⟨j, hj⟩ : ∃ y, y = ((t1 / 65536) % ((i + 1) + 1)) := ⟨_, rfl⟩
              have hjl : j < i + 1 + 1 := by rw [hj]; exact Nat.mod_lt _ (by omega)
              refine r_top (congrArg nI hj.symm) ?_
              refine r_istore (lv' := [(0, .ref (a 8)), (1, .ref (a 3)), (2, .int (nI d)), (3, .int (nI s)), (4, .int (nI (S 19 d))), (5, .long (lN t1)), (7, .int (nI (i + 1))), (8, .int (nI j))]) K dX3_shuffle_85 (by decide) rfl ?_
              refine r_aload_n K dX3_shuffle_87 rfl ?_
              refine r_get K hin_X3_shuffle_3 8 (wC_g8 _ _ _ _) rfl 0 (by decide) (List.mem_of_getElem? (i := 2) rfl) rfl dX3_shuffle_88 ?_
              refine r_iload K dX3_shuffle_91 rfl ?_
              refine r_iald K 28 0 (wC_g28 _ _ _ _) rfl (by omega) (by decide) dX3_shuffle_93 ?_
              refine r_istore (lv' := [(0, .ref (a 8)), (1, .ref (a 3)), (2, .int (nI d)), (3, .int (nI s)), (4, .int (nI (S 19 d))), (5, .long (lN t1)), (7, .int (nI (i + 1))), (8, .int (nI j)), (9, .int (nI (Jy 28 (i + 1))))]) K dX3_shuffle_94 (by decide) rfl ?_
              refine r_aload_n K dX3_shuffle_96 rfl ?_
              refine r_get K hin_X3_shuffle_3 8 (wC_g8 _ _ _ _) rfl 0 (by decide) (List.mem_of_getElem? (i := 2) rfl) rfl dX3_shuffle_97 ?_
              refine r_iload K dX3_shuffle_100 rfl ?_
              refine r_aload_n K dX3_shuffle_102 rfl ?_
              refine r_get K hin_X3_shuffle_3 8 (wC_g8 _ _ _ _) rfl 0 (by decide) (List.mem_of_getElem? (i := 2) rfl) rfl dX3_shuffle_103 ?_
              refine r_iload K dX3_shuffle_106 rfl ?_
              refine r_iald K 28 0 (wC_g28 _ _ _ _) rfl (by omega) (by decide) dX3_shuffle_108 ?_
              refine r_iast K 28 0 (wC_g28 _ _ _ _) rfl (by omega) (by decide) dX3_shuffle_109 (wC_s28 _ _ _ _ _ _) ?_
              refine r_aload_n K dX3_shuffle_110 rfl ?_
              refine r_get K hin_X3_shuffle_3 8 (wC_g8 _ _ _ _) rfl 0 (by decide) (List.mem_of_getElem? (i := 2) rfl) rfl dX3_shuffle_111 ?_
              refine r_iload K dX3_shuffle_114 rfl ?_
              refine r_iload K dX3_shuffle_116 rfl ?_
              refine r_iast K 28 0 (wC_g28 _ _ _ _) rfl (by omega) (by decide) dX3_shuffle_118 (wC_s28 _ _ _ _ _ _) ?_
              refine r_iinc (lv' := [(0, .ref (a 8)), (1, .ref (a 3)), (2, .int (nI d)), (3, .int (nI s)), (4, .int (nI (S 19 d))), (5, .long (lN t1)), (7, .int (nI i)), (8, .int (nI j)), (9, .int (nI (Jy 28 (i + 1))))]) K dX3_shuffle_119 rfl dec_nI (by decide) rfl ?_
              refine r_goto K 50 dX3_shuffle_122 (by decide) ?_
              refine r_pick [0, 1, 2, 3, 4, 5, 6] K rfl ?_
              exact ih i t1 _ (by omega) (by omega) ht1 (fun g hg => (up_ne hg).trans ((up_ne hg).trans (ho2 g hg))) ((sh0_up ht1e hj).trans hR)
        exact M4 (S 19 d) (S 19 d - 1) s Jx (by omega) (Nat.le_refl _) hs ho rfl
      ·
        refine r_aload_n K dX3_shuffle_18 rfl ?_
        refine r_get K hin_X3_shuffle_3 8 (wC_g8 _ _ _ _) rfl 0 (by decide) (List.mem_of_getElem? (i := 2) rfl) rfl dX3_shuffle_19 ?_
        refine r_iload K dX3_shuffle_22 rfl ?_
        refine r_aload_n K dX3_shuffle_24 rfl ?_
        refine r_get K hin_X3_shuffle_0 3 (wC_g3 _ _ _ _) rfl 2 (by decide) (List.mem_of_getElem? (i := 3) rfl) rfl dX3_shuffle_25 ?_
        refine r_iload_n K dX3_shuffle_28 rfl ?_
        refine r_aald2 K 20 2 (wC_g20 _ _ _ _) rfl (by omega) (by decide) (rowsOf_at _ (by omega)) dX3_shuffle_29 ?_
        refine r_iload K dX3_shuffle_30 rfl ?_
        refine r_iald K (30 + d) 0 (wC_row _ _ _ _ (by omega)) rfl (by omega) (by decide) dX3_shuffle_32 ?_
        have hf6 := V_card hV d i (by omega)
        refine r_iast K 28 0 (wC_g28 _ _ _ _) rfl (by omega) (by decide) dX3_shuffle_33 (wC_s28 _ _ _ _ _ _) ?_
        refine r_iinc (lv' := [(0, .ref (a 8)), (1, .ref (a 3)), (2, .int (nI d)), (3, .int (nI s)), (4, .int (nI (S 19 d))), (5, .int (nI (i + 1)))]) K dX3_shuffle_34 rfl (nI_1 _) (by decide) rfl ?_
        refine r_goto K 11 dX3_shuffle_37 (by decide) ?_
        exact ih (i + 1) _ (by omega) (by omega) (fun g hg => (up_ne hg).trans (ho g hg)) (cp_step hr)
  exact L2 (S 19 d + 1) 0 J (by omega) (by omega) (fun _ _ => rfl) (fun p hp => absurd hp (Nat.not_lt_zero p))

set_option maxHeartbeats 4000000 in
set_option maxRecDepth 100000 in
theorem c_X3_shuffle_9 (l : Launch) (D : va_G) (a : Nat → Nat) (c : Nat → ClassId) (S J : St) (hV : V S) (d s : Nat) (hd : d < 12) (hn : 1 ≤ S 19 d) (hs : s < 2147483648) : Cv l yX3_shuffle wsX3_shuffle rmX3_shuffle D (tyW c) [.ref (a 9), .ref (a 3), .int (nI d), .int (nI s)] (wC a c S J) (fun J1 : St => shPost S J d s 29 J1) (fun J1 => wC a c S J1) := by
  refine Cv.of (lv0 := [(0, .ref (a 9)), (1, .ref (a 3)), (2, .int (nI d)), (3, .int (nI s))]) (by decide +kernel) rfl (Nat.le_of_ble_eq_true rfl) rfl (fun G K hret => ?_)
  have hsz := V_size hV d
  refine r_aload_n K dX3_shuffle_0 rfl ?_
  refine r_get K hin_X3_shuffle_0 3 (wC_g3 _ _ _ _) rfl 1 (by decide) (List.mem_of_getElem? (i := 1) rfl) rfl dX3_shuffle_1 ?_
  refine r_iload_n K dX3_shuffle_4 rfl ?_
  refine r_iald K 19 0 (wC_g19 _ _ _ _) rfl (by omega) (by decide) dX3_shuffle_5 ?_
  have hf1 := V_size hV d
  refine r_istore (lv' := [(0, .ref (a 9)), (1, .ref (a 3)), (2, .int (nI d)), (3, .int (nI s)), (4, .int (nI (S 19 d)))]) K dX3_shuffle_6 (by decide) rfl ?_
  refine r_iconst K (nI 0) dX3_shuffle_8 (by decide) ?_
  refine r_istore (lv' := [(0, .ref (a 9)), (1, .ref (a 3)), (2, .int (nI d)), (3, .int (nI s)), (4, .int (nI (S 19 d))), (5, .int (nI 0))]) K dX3_shuffle_9 (by decide) rfl ?_
  have L2 : ∀ (z : Nat) (i : Nat) (Jx : St), S 19 d < i + z → (i ≤ S 19 d) → (∀ g, g ≠ 29 → Jx g = J g) → (∀ p, p < i → Jx 29 p = S (30 + d) p) → G 0 0 (wC a c S Jx) [(0, .ref (a 9)), (1, .ref (a 3)), (2, .int (nI d)), (3, .int (nI s)), (4, .int (nI (S 19 d))), (5, .int (nI i))] 11 [] := by
    intro z
    induction z with
    | zero => intro i Jx hz hi ho hr; exact absurd hz (by omega)
    | succ z ih =>
      intro i Jx hz hi ho hr
      refine r_iload K dX3_shuffle_11 rfl ?_
      refine r_iload K dX3_shuffle_13 rfl ?_
      refine r_ic_ge K 40 dX3_shuffle_15 (by decide) (by omega) (by omega) (fun h3 => ?_) (fun h3 => ?_)
      ·
        have hin : i = S 19 d := by omega
        subst hin
        refine r_iload_n K dX3_shuffle_40 rfl ?_
        refine r_i2l K dX3_shuffle_41 (by omega) ?_
        refine r_lstore (lv' := [(0, .ref (a 9)), (1, .ref (a 3)), (2, .int (nI d)), (3, .int (nI s)), (4, .int (nI (S 19 d))), (5, .long (lN s))]) K dX3_shuffle_42 (by decide) rfl ?_
        refine r_iload K dX3_shuffle_44 rfl ?_
        refine r_iconst K (nI 1) dX3_shuffle_46 (by decide) ?_
        refine r_isub K dX3_shuffle_47 (by omega) ?_
        refine r_istore (lv' := [(0, .ref (a 9)), (1, .ref (a 3)), (2, .int (nI d)), (3, .int (nI s)), (4, .int (nI (S 19 d))), (5, .long (lN s)), (7, .int (nI (S 19 d - 1)))]) K dX3_shuffle_48 (by decide) rfl ?_
        have M4 : ∀ (z2 : Nat) (i t : Nat) (Jy : St), i < z2 → (i ≤ S 19 d - 1) → (t < 2147483648) → (∀ g, g ≠ 29 → Jy g = J g) → (sh0 i (Jy 29) t = (sh0 (S 19 d - 1) (Jx 29) s)) → G 0 0 (wC a c S Jy) [(0, .ref (a 9)), (1, .ref (a 3)), (2, .int (nI d)), (3, .int (nI s)), (4, .int (nI (S 19 d))), (5, .long (lN t)), (7, .int (nI i))] 50 [] := by
          intro z2
          induction z2 with
          | zero => intro i t Jy hz hi ht ho2 hR; exact absurd hz (by omega)
          | succ z2 ih =>
            intro i t Jy hz hi ht ho2 hR
            refine r_iload K dX3_shuffle_50 rfl ?_
            refine r_iconst K (nI 1) dX3_shuffle_52 (by decide) ?_
            refine r_ic_lt K 125 dX3_shuffle_53 (by decide) (by omega) (by decide) (fun h5 => ?_) (fun h5 => ?_)
            ·
              obtain rfl : i = 0 := by omega
              exact hret 0 0 _ _ _ Jy dX3_shuffle_125 ⟨ho2, fun p hp => by rw [show Jy 29 = _ from hR]; exact shG_agree drw_lt _ _ (by omega) hr p hp⟩ rfl (Nat.le_of_ble_eq_true rfl) (Nat.le_of_ble_eq_true rfl)
            ·
              obtain ⟨i, rfl⟩ : ∃ j, i = j + 1 := ⟨i - 1, by omega⟩
              refine r_lload K dX3_shuffle_56 rfl ?_
              refine r_ldc2 K (v := lN 1103515245) (List.mem_of_getElem? (i := 4) rfl) dX3_shuffle_58 ?_
              refine r_lmul K dX3_shuffle_61 ?_
              refine r_ldc2 K (v := lN 12345) (List.mem_of_getElem? (i := 5) rfl) dX3_shuffle_62 ?_
              refine r_ladd K dX3_shuffle_65 ?_
              refine r_ldc2 K (v := lN 2147483648) (List.mem_of_getElem? (i := 6) rfl) dX3_shuffle_66 ?_
              refine r_lrem K dX3_shuffle_69 (by omega) (by omega) (by omega) ?_
              obtain ⟨t1, ht1e⟩ : ∃ y, y = (((t * 1103515245) + 12345) % 2147483648) := ⟨_, rfl⟩
              have ht1 : t1 < 2147483648 := by rw [ht1e]; exact Nat.mod_lt _ (by decide)
              refine r_topL (congrArg lN ht1e.symm) ?_
              refine r_lstore (lv' := [(0, .ref (a 9)), (1, .ref (a 3)), (2, .int (nI d)), (3, .int (nI s)), (4, .int (nI (S 19 d))), (5, .long (lN t1)), (7, .int (nI (i + 1)))]) K dX3_shuffle_70 (by decide) rfl ?_
              refine r_lload K dX3_shuffle_72 rfl ?_
              refine r_ldc2 K (v := lN 65536) (List.mem_of_getElem? (i := 7) rfl) dX3_shuffle_74 ?_
              refine r_ldiv K dX3_shuffle_77 (by omega) (by omega) (by omega) ?_
              refine r_iload K dX3_shuffle_78 rfl ?_
              refine r_iconst K (nI 1) dX3_shuffle_80 (by decide) ?_
              refine r_iadd K dX3_shuffle_81 ?_
              refine r_i2l K dX3_shuffle_82 (by omega) ?_
              refine r_lrem K dX3_shuffle_83 (by omega) (by omega) (by omega) ?_
              refine r_l2i K dX3_shuffle_84 ?_
              obtain ⟨j, hj⟩ : ∃ y, y = ((t1 / 65536) % ((i + 1) + 1)) := ⟨_, rfl⟩
              have hjl : j < i + 1 + 1 := by rw [hj]; exact Nat.mod_lt _ (by omega)
              refine r_top (congrArg nI hj.symm) ?_
              refine r_istore (lv' := [(0, .ref (a 9)), (1, .ref (a 3)), (2, .int (nI d)), (3, .int (nI s)), (4, .int (nI (S 19 d))), (5, .long (lN t1)), (7, .int (nI (i + 1))), (8, .int (nI j))]) K dX3_shuffle_85 (by decide) rfl ?_
              refine r_aload_n K dX3_shuffle_87 rfl ?_
              refine r_get K hin_X3_shuffle_3 9 (wC_g9 _ _ _ _) rfl 0 (by decide) (List.mem_of_getElem? (i := 2) rfl) rfl dX3_shuffle_88 ?_
              refine r_iload K dX3_shuffle_91 rfl ?_
              refine r_iald K 29 0 (wC_g29 _ _ _ _) rfl (by omega) (by decide) dX3_shuffle_93 ?_
              refine r_istore (lv' := [(0, .ref (a 9)), (1, .ref (a 3)), (2, .int (nI d)), (3, .int (nI s)), (4, .int (nI (S 19 d))), (5, .long (lN t1)), (7, .int (nI (i + 1))), (8, .int (nI j)), (9, .int (nI (Jy 29 (i + 1))))]) K dX3_shuffle_94 (by decide) rfl ?_
              refine r_aload_n K dX3_shuffle_96 rfl ?_
              refine r_get K hin_X3_shuffle_3 9 (wC_g9 _ _ _ _) rfl 0 (by decide) (List.mem_of_getElem? (i := 2) rfl) rfl dX3_shuffle_97 ?_
              refine r_iload K dX3_shuffle_100 rfl ?_
              refine r_aload_n K dX3_shuffle_102 rfl ?_
              refine r_get K hin_X3_shuffle_3 9 (wC_g9 _ _ _ _) rfl 0 (by decide) (List.mem_of_getElem? (i := 2) rfl) rfl dX3_shuffle_103 ?_
              refine r_iload K dX3_shuffle_106 rfl ?_
              refine r_iald K 29 0 (wC_g29 _ _ _ _) rfl (by omega) (by decide) dX3_shuffle_108 ?_
              refine r_iast K 29 0 (wC_g29 _ _ _ _) rfl (by omega) (by decide) dX3_shuffle_109 (wC_s29 _ _ _ _ _ _) ?_
              refine r_aload_n K dX3_shuffle_110 rfl ?_
              refine r_get K hin_X3_shuffle_3 9 (wC_g9 _ _ _ _) rfl 0 (by decide) (List.mem_of_getElem? (i := 2) rfl) rfl dX3_shuffle_111 ?_
              refine r_iload K dX3_shuffle_114 rfl ?_
              refine r_iload K dX3_shuffle_116 rfl ?_
              refine r_iast K 29 0 (wC_g29 _ _ _ _) rfl (by omega) (by decide) dX3_shuffle_118 (wC_s29 _ _ _ _ _ _) ?_
              refine r_iinc (lv' := [(0, .ref (a 9)), (1, .ref (a 3)), (2, .int (nI d)), (3, .int (nI s)), (4, .int (nI (S 19 d))), (5, .long (lN t1)), (7, .int (nI i)), (8, .int (nI j)), (9, .int (nI (Jy 29 (i + 1))))]) K dX3_shuffle_119 rfl dec_nI (by decide) rfl ?_
              refine r_goto K 50 dX3_shuffle_122 (by decide) ?_
              refine r_pick [0, 1, 2, 3, 4, 5, 6] K rfl ?_
              exact ih i t1 _ (by omega) (by omega) ht1 (fun g hg => (up_ne hg).trans ((up_ne hg).trans (ho2 g hg))) ((sh0_up ht1e hj).trans hR)
        exact M4 (S 19 d) (S 19 d - 1) s Jx (by omega) (Nat.le_refl _) hs ho rfl
      ·
        refine r_aload_n K dX3_shuffle_18 rfl ?_
        refine r_get K hin_X3_shuffle_3 9 (wC_g9 _ _ _ _) rfl 0 (by decide) (List.mem_of_getElem? (i := 2) rfl) rfl dX3_shuffle_19 ?_
        refine r_iload K dX3_shuffle_22 rfl ?_
        refine r_aload_n K dX3_shuffle_24 rfl ?_
        refine r_get K hin_X3_shuffle_0 3 (wC_g3 _ _ _ _) rfl 2 (by decide) (List.mem_of_getElem? (i := 3) rfl) rfl dX3_shuffle_25 ?_
        refine r_iload_n K dX3_shuffle_28 rfl ?_
        refine r_aald2 K 20 2 (wC_g20 _ _ _ _) rfl (by omega) (by decide) (rowsOf_at _ (by omega)) dX3_shuffle_29 ?_
        refine r_iload K dX3_shuffle_30 rfl ?_
        refine r_iald K (30 + d) 0 (wC_row _ _ _ _ (by omega)) rfl (by omega) (by decide) dX3_shuffle_32 ?_
        have hf6 := V_card hV d i (by omega)
        refine r_iast K 29 0 (wC_g29 _ _ _ _) rfl (by omega) (by decide) dX3_shuffle_33 (wC_s29 _ _ _ _ _ _) ?_
        refine r_iinc (lv' := [(0, .ref (a 9)), (1, .ref (a 3)), (2, .int (nI d)), (3, .int (nI s)), (4, .int (nI (S 19 d))), (5, .int (nI (i + 1)))]) K dX3_shuffle_34 rfl (nI_1 _) (by decide) rfl ?_
        refine r_goto K 11 dX3_shuffle_37 (by decide) ?_
        exact ih (i + 1) _ (by omega) (by omega) (fun g hg => (up_ne hg).trans (ho g hg)) (cp_step hr)
  exact L2 (S 19 d + 1) 0 J (by omega) (by omega) (fun _ _ => rfl) (fun p hp => absurd hp (Nat.not_lt_zero p))

def rmX5_start : Room := { frames := 1, cells := 0, slots := 0, locals := 29 }
theorem hin_X5_start_5 : ∀ w ∈ wsX50, w ∈ wsX5_start := fun _ h => List.mem_cons_of_mem _ (List.mem_append_left _ (List.mem_append_left _ (List.mem_append_right _ h)))
theorem hin_X5_start_0 : ∀ w ∈ wsX00, w ∈ wsX5_start := fun _ h => List.mem_cons_of_mem _ (List.mem_append_left _ (List.mem_append_right _ h))
theorem hin_X5_start_3 : ∀ w ∈ wsX30, w ∈ wsX5_start := fun _ h => List.mem_cons_of_mem _ (List.mem_append_right _ h)
set_option maxHeartbeats 4000000 in
set_option maxRecDepth 100000 in
theorem c_X5_start_6 (l : Launch) (D : va_G) (a : Nat → Nat) (c : Nat → ClassId) (S J : St) (hV : V S) (d s : Nat) (hd : d < 12) (hn : 1 ≤ S 19 d) (hs : s < 2147483648) : Cv l yX5_start wsX5_start rmX5_start D (tyW c) [.ref (a 6), .ref (a 3), .int (nI d), .int (nI s)] (wC a c S J) (fun J1 : St => startPost S J d s 6 28 J1) (fun J1 => wC a c S J1) := by
  refine Cv.of (lv0 := [(0, .ref (a 6)), (1, .ref (a 3)), (2, .int (nI d)), (3, .int (nI s))]) (by decide +kernel) rfl (Nat.le_of_ble_eq_true rfl) rfl (fun G K hret => ?_)
  refine r_aload_n K dX5_start_0 rfl ?_
  refine r_get K hin_X5_start_5 6 (wC_g6 _ _ _ _) rfl 0 (by decide) (List.mem_of_getElem? (i := 1) rfl) rfl dX5_start_1 ?_
  refine r_aload_n K dX5_start_4 rfl ?_
  refine r_iload_n K dX5_start_5 rfl ?_
  refine r_iload_n K dX5_start_6 rfl ?_
  refine r_callVv (rest := []) K (c_X3_shuffle_8 l D a c S J hV d s hd hn hs) 3 gX5_start_X3_shuffle rfl (by decide +kernel) rfl (by decide) 8 (wC_g8 _ _ _ _) rfl rfl (Nat.le_of_ble_eq_true rfl) dX5_start_7 (fun J1 hp => ?_)
  obtain ⟨ho, hr⟩ := hp
  refine r_aload_n K dX5_start_10 rfl ?_
  refine r_iconst K (nI 0) dX5_start_11 (by decide) ?_
  refine r_put K hin_X5_start_5 tyX5 tyX5_ok nmX5 6 (wC_g6 _ _ _ _) rfl 1 (by decide) (List.mem_of_getElem? (i := 2) rfl) rfl rfl rfl (Nat.le_of_ble_eq_true rfl) dX5_start_12 (wC_s6_1 _ _ _ _ _) ?_
  refine r_aload_n K dX5_start_15 rfl ?_
  refine r_iconst K (nI 0) dX5_start_16 (by decide) ?_
  refine r_put K hin_X5_start_5 tyX5 tyX5_ok nmX5 6 (wC_g6 _ _ _ _) rfl 2 (by decide) (List.mem_of_getElem? (i := 3) rfl) rfl rfl rfl (Nat.le_of_ble_eq_true rfl) dX5_start_17 (wC_s6_2 _ _ _ _ _) ?_
  exact hret 0 0 _ _ _ _ dX5_start_20 ⟨fun g h1 h2 => (up_ne h1).trans ((up_ne h1).trans (ho g h2)), fun p hp => by rw [up_ne (by decide), up_ne (by decide)]; exact hr p hp, by rw [up_nk (by decide), up_same], by rw [up_same]⟩ rfl (Nat.le_of_ble_eq_true rfl) (Nat.le_of_ble_eq_true rfl)

set_option maxHeartbeats 4000000 in
set_option maxRecDepth 100000 in
theorem c_X5_start_7 (l : Launch) (D : va_G) (a : Nat → Nat) (c : Nat → ClassId) (S J : St) (hV : V S) (d s : Nat) (hd : d < 12) (hn : 1 ≤ S 19 d) (hs : s < 2147483648) : Cv l yX5_start wsX5_start rmX5_start D (tyW c) [.ref (a 7), .ref (a 3), .int (nI d), .int (nI s)] (wC a c S J) (fun J1 : St => startPost S J d s 7 29 J1) (fun J1 => wC a c S J1) := by
  refine Cv.of (lv0 := [(0, .ref (a 7)), (1, .ref (a 3)), (2, .int (nI d)), (3, .int (nI s))]) (by decide +kernel) rfl (Nat.le_of_ble_eq_true rfl) rfl (fun G K hret => ?_)
  refine r_aload_n K dX5_start_0 rfl ?_
  refine r_get K hin_X5_start_5 7 (wC_g7 _ _ _ _) rfl 0 (by decide) (List.mem_of_getElem? (i := 1) rfl) rfl dX5_start_1 ?_
  refine r_aload_n K dX5_start_4 rfl ?_
  refine r_iload_n K dX5_start_5 rfl ?_
  refine r_iload_n K dX5_start_6 rfl ?_
  refine r_callVv (rest := []) K (c_X3_shuffle_9 l D a c S J hV d s hd hn hs) 3 gX5_start_X3_shuffle rfl (by decide +kernel) rfl (by decide) 9 (wC_g9 _ _ _ _) rfl rfl (Nat.le_of_ble_eq_true rfl) dX5_start_7 (fun J1 hp => ?_)
  obtain ⟨ho, hr⟩ := hp
  refine r_aload_n K dX5_start_10 rfl ?_
  refine r_iconst K (nI 0) dX5_start_11 (by decide) ?_
  refine r_put K hin_X5_start_5 tyX5 tyX5_ok nmX5 7 (wC_g7 _ _ _ _) rfl 1 (by decide) (List.mem_of_getElem? (i := 2) rfl) rfl rfl rfl (Nat.le_of_ble_eq_true rfl) dX5_start_12 (wC_s7_1 _ _ _ _ _) ?_
  refine r_aload_n K dX5_start_15 rfl ?_
  refine r_iconst K (nI 0) dX5_start_16 (by decide) ?_
  refine r_put K hin_X5_start_5 tyX5 tyX5_ok nmX5 7 (wC_g7 _ _ _ _) rfl 2 (by decide) (List.mem_of_getElem? (i := 3) rfl) rfl rfl rfl (Nat.le_of_ble_eq_true rfl) dX5_start_17 (wC_s7_2 _ _ _ _ _) ?_
  exact hret 0 0 _ _ _ _ dX5_start_20 ⟨fun g h1 h2 => (up_ne h1).trans ((up_ne h1).trans (ho g h2)), fun p hp => by rw [up_ne (by decide), up_ne (by decide)]; exact hr p hp, by rw [up_nk (by decide), up_same], by rw [up_same]⟩ rfl (Nat.le_of_ble_eq_true rfl) (Nat.le_of_ble_eq_true rfl)

def rmX5_endRound : Room := { frames := 0, cells := 0, slots := 0, locals := 0 }
theorem hin_X5_endRound_5 : ∀ w ∈ wsX50, w ∈ wsX5_endRound := fun _ h => List.mem_cons_of_mem _ (List.mem_append_right _ h)
set_option maxHeartbeats 4000000 in
set_option maxRecDepth 100000 in
theorem c_X5_endRound_6 (l : Launch) (D : va_G) (a : Nat → Nat) (c : Nat → ClassId) (S J : St) (won : Bool) (t o : Nat) (ht : t < 1000000) (ho : o < 1000000) : Cv l yX5_endRound wsX5_endRound rmX5_endRound D (tyW c) [.ref (a 6), .int (nI ((won).toNat)), .int (nI t), .int (nI o)] (wC a c S J) (fun J1 : St => sidePost J 6 won t o J1) (fun J1 => wC a c S J1) := by
  refine Cv.of (lv0 := [(0, .ref (a 6)), (1, .int (nI ((won).toNat))), (2, .int (nI t)), (3, .int (nI o))]) (by decide +kernel) rfl (Nat.le_of_ble_eq_true rfl) rfl (fun G K hret => ?_)
  refine r_aload_n K dX5_endRound_0 rfl ?_
  refine r_iconst K (nI 0) dX5_endRound_1 (by decide) ?_
  refine r_put K hin_X5_endRound_5 tyX5 tyX5_ok nmX5 6 (wC_g6 _ _ _ _) rfl 2 (by decide) (List.mem_of_getElem? (i := 1) rfl) rfl rfl rfl (Nat.le_of_ble_eq_true rfl) dX5_endRound_2 (wC_s6_2 _ _ _ _ _) ?_
  refine r_iload_n K dX5_endRound_5 rfl ?_
  refine r_if_eqB K 19 dX5_endRound_6 (by decide) (fun h1 => ?_) (fun h1 => ?_)
  ·
    refine r_iload_n K dX5_endRound_19 rfl ?_
    refine r_iconst K (nI 3) dX5_endRound_20 (by decide) ?_
    refine r_ic_ne K 25 dX5_endRound_21 (by decide) (by omega) (by decide) (fun h2 => ?_) (fun h2 => ?_)
    ·
      refine r_iload_n K dX5_endRound_25 rfl ?_
      refine r_iconst K (nI 1) dX5_endRound_26 (by decide) ?_
      refine r_ic_ne K 44 dX5_endRound_27 (by decide) (by omega) (by decide) (fun h3 => ?_) (fun h3 => ?_)
      ·
        refine r_iload_n K dX5_endRound_44 rfl ?_
        refine r_iconst K (nI 2) dX5_endRound_45 (by decide) ?_
        refine r_ic_ne K 58 dX5_endRound_46 (by decide) (by omega) (by decide) (fun h4 => ?_) (fun h4 => ?_)
        ·
          exact hret 0 0 _ _ _ _ dX5_endRound_58 ⟨fun g hg => by simp only [up_ne hg], by simp [up_same, up_nk, ptsN, h1, h2, h3, h4], by simp [up_same, up_nk, ahdN, h1, h2, h3, h4]⟩ rfl (Nat.le_of_ble_eq_true rfl) (Nat.le_of_ble_eq_true rfl)
        ·
          refine r_iload_n K dX5_endRound_49 rfl ?_
          refine r_if_neB K 58 dX5_endRound_50 (by decide) (fun h5 => ?_) (fun h5 => ?_)
          ·
            rw [h1] at h5; exact absurd h5 (by decide)
          ·
            refine r_aload_n K dX5_endRound_53 rfl ?_
            refine r_iconst K (nI 2) dX5_endRound_54 (by decide) ?_
            refine r_put K hin_X5_endRound_5 tyX5 tyX5_ok nmX5 6 (wC_g6 _ _ _ _) rfl 2 (by decide) (List.mem_of_getElem? (i := 1) rfl) rfl rfl rfl (Nat.le_of_ble_eq_true rfl) dX5_endRound_55 (wC_s6_2 _ _ _ _ _) ?_
            exact hret 0 0 _ _ _ _ dX5_endRound_58 ⟨fun g hg => by simp only [up_ne hg], by simp [up_same, up_nk, ptsN, h1, h2, h3, h4, h5], by simp [up_same, up_nk, ahdN, h1, h2, h3, h4, h5]⟩ rfl (Nat.le_of_ble_eq_true rfl) (Nat.le_of_ble_eq_true rfl)
      ·
        refine r_iload_n K dX5_endRound_30 rfl ?_
        refine r_if_eqB K 44 dX5_endRound_31 (by decide) (fun h6 => ?_) (fun h6 => ?_)
        ·
          refine r_iload_n K dX5_endRound_44 rfl ?_
          refine r_iconst K (nI 2) dX5_endRound_45 (by decide) ?_
          refine r_ic_ne K 58 dX5_endRound_46 (by decide) (by omega) (by decide) (fun h7 => ?_) (fun h7 => ?_)
          ·
            exact hret 0 0 _ _ _ _ dX5_endRound_58 ⟨fun g hg => by simp only [up_ne hg], by simp [up_same, up_nk, ptsN, h1, h2, h3, h6, h7], by simp [up_same, up_nk, ahdN, h1, h2, h3, h6, h7]⟩ rfl (Nat.le_of_ble_eq_true rfl) (Nat.le_of_ble_eq_true rfl)
          ·
            exact (show False by omega).elim
        ·
          rw [h1] at h6; exact absurd h6 (by decide)
    ·
      exact hret 0 0 _ _ _ _ dX5_endRound_24 ⟨fun g hg => by simp only [up_ne hg], by simp [up_same, up_nk, ptsN, h1, h2], by simp [up_same, up_nk, ahdN, h1, h2]⟩ rfl (Nat.le_of_ble_eq_true rfl) (Nat.le_of_ble_eq_true rfl)
  ·
    refine r_aload_n K dX5_endRound_9 rfl ?_
    refine r_dup K dX5_endRound_10 rfl ?_
    refine r_get K hin_X5_endRound_5 6 (wC_g6 _ _ _ _) rfl 1 (by decide) (List.mem_of_getElem? (i := 2) rfl) rfl dX5_endRound_11 ?_
    refine r_top (congrArg nI (up_nk (by omega))) ?_
    refine r_iconst K (nI 1) dX5_endRound_14 (by decide) ?_
    refine r_iadd K dX5_endRound_15 ?_
    refine r_put K hin_X5_endRound_5 tyX5 tyX5_ok nmX5 6 (wC_g6 _ _ _ _) rfl 1 (by decide) (List.mem_of_getElem? (i := 2) rfl) rfl rfl rfl (Nat.le_of_ble_eq_true rfl) dX5_endRound_16 (wC_s6_1 _ _ _ _ _) ?_
    refine r_iload_n K dX5_endRound_19 rfl ?_
    refine r_iconst K (nI 3) dX5_endRound_20 (by decide) ?_
    refine r_ic_ne K 25 dX5_endRound_21 (by decide) (by omega) (by decide) (fun h8 => ?_) (fun h8 => ?_)
    ·
      refine r_iload_n K dX5_endRound_25 rfl ?_
      refine r_iconst K (nI 1) dX5_endRound_26 (by decide) ?_
      refine r_ic_ne K 44 dX5_endRound_27 (by decide) (by omega) (by decide) (fun h9 => ?_) (fun h9 => ?_)
      ·
        refine r_iload_n K dX5_endRound_44 rfl ?_
        refine r_iconst K (nI 2) dX5_endRound_45 (by decide) ?_
        refine r_ic_ne K 58 dX5_endRound_46 (by decide) (by omega) (by decide) (fun h10 => ?_) (fun h10 => ?_)
        ·
          exact hret 0 0 _ _ _ _ dX5_endRound_58 ⟨fun g hg => by simp only [up_ne hg], by simp [up_same, up_nk, ptsN, h1, h8, h9, h10], by simp [up_same, up_nk, ahdN, h1, h8, h9, h10]⟩ rfl (Nat.le_of_ble_eq_true rfl) (Nat.le_of_ble_eq_true rfl)
        ·
          refine r_iload_n K dX5_endRound_49 rfl ?_
          refine r_if_neB K 58 dX5_endRound_50 (by decide) (fun h11 => ?_) (fun h11 => ?_)
          ·
            exact hret 0 0 _ _ _ _ dX5_endRound_58 ⟨fun g hg => by simp only [up_ne hg], by simp [up_same, up_nk, ptsN, h1, h8, h9, h10, h11], by simp [up_same, up_nk, ahdN, h1, h8, h9, h10, h11]⟩ rfl (Nat.le_of_ble_eq_true rfl) (Nat.le_of_ble_eq_true rfl)
          ·
            rw [h1] at h11; exact absurd h11 (by decide)
      ·
        refine r_iload_n K dX5_endRound_30 rfl ?_
        refine r_if_eqB K 44 dX5_endRound_31 (by decide) (fun h12 => ?_) (fun h12 => ?_)
        ·
          rw [h1] at h12; exact absurd h12 (by decide)
        ·
          refine r_aload_n K dX5_endRound_34 rfl ?_
          refine r_dup K dX5_endRound_35 rfl ?_
          refine r_get K hin_X5_endRound_5 6 (wC_g6 _ _ _ _) rfl 1 (by decide) (List.mem_of_getElem? (i := 2) rfl) rfl dX5_endRound_36 ?_
          refine r_top (congrArg nI up_same) ?_
          refine r_iconst K (nI 1) dX5_endRound_39 (by decide) ?_
          refine r_iadd K dX5_endRound_40 ?_
          refine r_put K hin_X5_endRound_5 tyX5 tyX5_ok nmX5 6 (wC_g6 _ _ _ _) rfl 1 (by decide) (List.mem_of_getElem? (i := 2) rfl) rfl rfl rfl (Nat.le_of_ble_eq_true rfl) dX5_endRound_41 (wC_s6_1 _ _ _ _ _) ?_
          refine r_iload_n K dX5_endRound_44 rfl ?_
          refine r_iconst K (nI 2) dX5_endRound_45 (by decide) ?_
          refine r_ic_ne K 58 dX5_endRound_46 (by decide) (by omega) (by decide) (fun h13 => ?_) (fun h13 => ?_)
          ·
            exact hret 0 0 _ _ _ _ dX5_endRound_58 ⟨fun g hg => by simp only [up_ne hg], by simp [up_same, up_nk, ptsN, h1, h8, h9, h12, h13], by simp [up_same, up_nk, ahdN, h1, h8, h9, h12, h13]⟩ rfl (Nat.le_of_ble_eq_true rfl) (Nat.le_of_ble_eq_true rfl)
          ·
            exact (show False by omega).elim
    ·
      exact hret 0 0 _ _ _ _ dX5_endRound_24 ⟨fun g hg => by simp only [up_ne hg], by simp [up_same, up_nk, ptsN, h1, h8], by simp [up_same, up_nk, ahdN, h1, h8]⟩ rfl (Nat.le_of_ble_eq_true rfl) (Nat.le_of_ble_eq_true rfl)

set_option maxHeartbeats 4000000 in
set_option maxRecDepth 100000 in
theorem c_X5_endRound_7 (l : Launch) (D : va_G) (a : Nat → Nat) (c : Nat → ClassId) (S J : St) (won : Bool) (t o : Nat) (ht : t < 1000000) (ho : o < 1000000) : Cv l yX5_endRound wsX5_endRound rmX5_endRound D (tyW c) [.ref (a 7), .int (nI ((won).toNat)), .int (nI t), .int (nI o)] (wC a c S J) (fun J1 : St => sidePost J 7 won t o J1) (fun J1 => wC a c S J1) := by
  refine Cv.of (lv0 := [(0, .ref (a 7)), (1, .int (nI ((won).toNat))), (2, .int (nI t)), (3, .int (nI o))]) (by decide +kernel) rfl (Nat.le_of_ble_eq_true rfl) rfl (fun G K hret => ?_)
  refine r_aload_n K dX5_endRound_0 rfl ?_
  refine r_iconst K (nI 0) dX5_endRound_1 (by decide) ?_
  refine r_put K hin_X5_endRound_5 tyX5 tyX5_ok nmX5 7 (wC_g7 _ _ _ _) rfl 2 (by decide) (List.mem_of_getElem? (i := 1) rfl) rfl rfl rfl (Nat.le_of_ble_eq_true rfl) dX5_endRound_2 (wC_s7_2 _ _ _ _ _) ?_
  refine r_iload_n K dX5_endRound_5 rfl ?_
  refine r_if_eqB K 19 dX5_endRound_6 (by decide) (fun h1 => ?_) (fun h1 => ?_)
  ·
    refine r_iload_n K dX5_endRound_19 rfl ?_
    refine r_iconst K (nI 3) dX5_endRound_20 (by decide) ?_
    refine r_ic_ne K 25 dX5_endRound_21 (by decide) (by omega) (by decide) (fun h2 => ?_) (fun h2 => ?_)
    ·
      refine r_iload_n K dX5_endRound_25 rfl ?_
      refine r_iconst K (nI 1) dX5_endRound_26 (by decide) ?_
      refine r_ic_ne K 44 dX5_endRound_27 (by decide) (by omega) (by decide) (fun h3 => ?_) (fun h3 => ?_)
      ·
        refine r_iload_n K dX5_endRound_44 rfl ?_
        refine r_iconst K (nI 2) dX5_endRound_45 (by decide) ?_
        refine r_ic_ne K 58 dX5_endRound_46 (by decide) (by omega) (by decide) (fun h4 => ?_) (fun h4 => ?_)
        ·
          exact hret 0 0 _ _ _ _ dX5_endRound_58 ⟨fun g hg => by simp only [up_ne hg], by simp [up_same, up_nk, ptsN, h1, h2, h3, h4], by simp [up_same, up_nk, ahdN, h1, h2, h3, h4]⟩ rfl (Nat.le_of_ble_eq_true rfl) (Nat.le_of_ble_eq_true rfl)
        ·
          refine r_iload_n K dX5_endRound_49 rfl ?_
          refine r_if_neB K 58 dX5_endRound_50 (by decide) (fun h5 => ?_) (fun h5 => ?_)
          ·
            rw [h1] at h5; exact absurd h5 (by decide)
          ·
            refine r_aload_n K dX5_endRound_53 rfl ?_
            refine r_iconst K (nI 2) dX5_endRound_54 (by decide) ?_
            refine r_put K hin_X5_endRound_5 tyX5 tyX5_ok nmX5 7 (wC_g7 _ _ _ _) rfl 2 (by decide) (List.mem_of_getElem? (i := 1) rfl) rfl rfl rfl (Nat.le_of_ble_eq_true rfl) dX5_endRound_55 (wC_s7_2 _ _ _ _ _) ?_
            exact hret 0 0 _ _ _ _ dX5_endRound_58 ⟨fun g hg => by simp only [up_ne hg], by simp [up_same, up_nk, ptsN, h1, h2, h3, h4, h5], by simp [up_same, up_nk, ahdN, h1, h2, h3, h4, h5]⟩ rfl (Nat.le_of_ble_eq_true rfl) (Nat.le_of_ble_eq_true rfl)
      ·
        refine r_iload_n K dX5_endRound_30 rfl ?_
        refine r_if_eqB K 44 dX5_endRound_31 (by decide) (fun h6 => ?_) (fun h6 => ?_)
        ·
          refine r_iload_n K dX5_endRound_44 rfl ?_
          refine r_iconst K (nI 2) dX5_endRound_45 (by decide) ?_
          refine r_ic_ne K 58 dX5_endRound_46 (by decide) (by omega) (by decide) (fun h7 => ?_) (fun h7 => ?_)
          ·
            exact hret 0 0 _ _ _ _ dX5_endRound_58 ⟨fun g hg => by simp only [up_ne hg], by simp [up_same, up_nk, ptsN, h1, h2, h3, h6, h7], by simp [up_same, up_nk, ahdN, h1, h2, h3, h6, h7]⟩ rfl (Nat.le_of_ble_eq_true rfl) (Nat.le_of_ble_eq_true rfl)
          ·
            exact (show False by omega).elim
        ·
          rw [h1] at h6; exact absurd h6 (by decide)
    ·
      exact hret 0 0 _ _ _ _ dX5_endRound_24 ⟨fun g hg => by simp only [up_ne hg], by simp [up_same, up_nk, ptsN, h1, h2], by simp [up_same, up_nk, ahdN, h1, h2]⟩ rfl (Nat.le_of_ble_eq_true rfl) (Nat.le_of_ble_eq_true rfl)
  ·
    refine r_aload_n K dX5_endRound_9 rfl ?_
    refine r_dup K dX5_endRound_10 rfl ?_
    refine r_get K hin_X5_endRound_5 7 (wC_g7 _ _ _ _) rfl 1 (by decide) (List.mem_of_getElem? (i := 2) rfl) rfl dX5_endRound_11 ?_
    refine r_top (congrArg nI (up_nk (by omega))) ?_
    refine r_iconst K (nI 1) dX5_endRound_14 (by decide) ?_
    refine r_iadd K dX5_endRound_15 ?_
    refine r_put K hin_X5_endRound_5 tyX5 tyX5_ok nmX5 7 (wC_g7 _ _ _ _) rfl 1 (by decide) (List.mem_of_getElem? (i := 2) rfl) rfl rfl rfl (Nat.le_of_ble_eq_true rfl) dX5_endRound_16 (wC_s7_1 _ _ _ _ _) ?_
    refine r_iload_n K dX5_endRound_19 rfl ?_
    refine r_iconst K (nI 3) dX5_endRound_20 (by decide) ?_
    refine r_ic_ne K 25 dX5_endRound_21 (by decide) (by omega) (by decide) (fun h8 => ?_) (fun h8 => ?_)
    ·
      refine r_iload_n K dX5_endRound_25 rfl ?_
      refine r_iconst K (nI 1) dX5_endRound_26 (by decide) ?_
      refine r_ic_ne K 44 dX5_endRound_27 (by decide) (by omega) (by decide) (fun h9 => ?_) (fun h9 => ?_)
      ·
        refine r_iload_n K dX5_endRound_44 rfl ?_
        refine r_iconst K (nI 2) dX5_endRound_45 (by decide) ?_
        refine r_ic_ne K 58 dX5_endRound_46 (by decide) (by omega) (by decide) (fun h10 => ?_) (fun h10 => ?_)
        ·
          exact hret 0 0 _ _ _ _ dX5_endRound_58 ⟨fun g hg => by simp only [up_ne hg], by simp [up_same, up_nk, ptsN, h1, h8, h9, h10], by simp [up_same, up_nk, ahdN, h1, h8, h9, h10]⟩ rfl (Nat.le_of_ble_eq_true rfl) (Nat.le_of_ble_eq_true rfl)
        ·
          refine r_iload_n K dX5_endRound_49 rfl ?_
          refine r_if_neB K 58 dX5_endRound_50 (by decide) (fun h11 => ?_) (fun h11 => ?_)
          ·
            exact hret 0 0 _ _ _ _ dX5_endRound_58 ⟨fun g hg => by simp only [up_ne hg], by simp [up_same, up_nk, ptsN, h1, h8, h9, h10, h11], by simp [up_same, up_nk, ahdN, h1, h8, h9, h10, h11]⟩ rfl (Nat.le_of_ble_eq_true rfl) (Nat.le_of_ble_eq_true rfl)
          ·
            rw [h1] at h11; exact absurd h11 (by decide)
      ·
        refine r_iload_n K dX5_endRound_30 rfl ?_
        refine r_if_eqB K 44 dX5_endRound_31 (by decide) (fun h12 => ?_) (fun h12 => ?_)
        ·
          rw [h1] at h12; exact absurd h12 (by decide)
        ·
          refine r_aload_n K dX5_endRound_34 rfl ?_
          refine r_dup K dX5_endRound_35 rfl ?_
          refine r_get K hin_X5_endRound_5 7 (wC_g7 _ _ _ _) rfl 1 (by decide) (List.mem_of_getElem? (i := 2) rfl) rfl dX5_endRound_36 ?_
          refine r_top (congrArg nI up_same) ?_
          refine r_iconst K (nI 1) dX5_endRound_39 (by decide) ?_
          refine r_iadd K dX5_endRound_40 ?_
          refine r_put K hin_X5_endRound_5 tyX5 tyX5_ok nmX5 7 (wC_g7 _ _ _ _) rfl 1 (by decide) (List.mem_of_getElem? (i := 2) rfl) rfl rfl rfl (Nat.le_of_ble_eq_true rfl) dX5_endRound_41 (wC_s7_1 _ _ _ _ _) ?_
          refine r_iload_n K dX5_endRound_44 rfl ?_
          refine r_iconst K (nI 2) dX5_endRound_45 (by decide) ?_
          refine r_ic_ne K 58 dX5_endRound_46 (by decide) (by omega) (by decide) (fun h13 => ?_) (fun h13 => ?_)
          ·
            exact hret 0 0 _ _ _ _ dX5_endRound_58 ⟨fun g hg => by simp only [up_ne hg], by simp [up_same, up_nk, ptsN, h1, h8, h9, h12, h13], by simp [up_same, up_nk, ahdN, h1, h8, h9, h12, h13]⟩ rfl (Nat.le_of_ble_eq_true rfl) (Nat.le_of_ble_eq_true rfl)
          ·
            exact (show False by omega).elim
    ·
      exact hret 0 0 _ _ _ _ dX5_endRound_24 ⟨fun g hg => by simp only [up_ne hg], by simp [up_same, up_nk, ptsN, h1, h8], by simp [up_same, up_nk, ahdN, h1, h8]⟩ rfl (Nat.le_of_ble_eq_true rfl) (Nat.le_of_ble_eq_true rfl)
