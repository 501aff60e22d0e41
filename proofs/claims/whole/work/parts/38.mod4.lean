def rmX7_shuffles : Room := { frames := 0, cells := 0, slots := 0, locals := 0 }
theorem hin_X7_shuffles_7 : ∀ w ∈ wsX70, w ∈ wsX7_shuffles := fun _ h => List.mem_cons_of_mem _ (List.mem_append_right _ h)
set_option maxHeartbeats 4000000 in
set_option maxRecDepth 100000 in
theorem c_X7_shuffles (l : Launch) (D : va_G) (b : Nat → Nat) (c : Nat → ClassId) (S J : St) (hV : V S) (d s o : Nat) (hd : d < 12) (hn : 1 ≤ S 19 d) (hs : s < 2147483648) (ho : o ≤ 10) : Cv l yX7_shuffles wsX7_shuffles rmX7_shuffles D (tyW c) [.ref (b 0), .int (nI d), .int (nI s), .int (nI o)] (wM b c S J) (fun J1 : St => shMPost S J d s o J1) (fun J1 => wM b c S J1) := by
  refine Cv.of (lv0 := [(0, .ref (b 0)), (1, .int (nI d)), (2, .int (nI s)), (3, .int (nI o))]) (by decide +kernel) rfl (Nat.le_of_ble_eq_true rfl) rfl (fun G K hret => ?_)
  have hsz := V_size hV d
  refine r_iconst K (nI 0) dX7_shuffles_0 (by decide) ?_
  refine r_istore (lv' := [(0, .ref (b 0)), (1, .int (nI d)), (2, .int (nI s)), (3, .int (nI o)), (4, .int (nI 0))]) K dX7_shuffles_1 (by decide) rfl ?_
  have L1 : ∀ (z : Nat) (i : Nat) (Jx : St), S 19 d < i + z → (i ≤ S 19 d) → (∀ g, g ≠ 26 → Jx g = J g) → (∀ q, q < o ∨ o + S 19 d ≤ q → Jx 26 q = J 26 q) → (∀ p, p < i → Jx 26 (o + p) = S (30 + d) p) → G 0 0 (wM b c S Jx) [(0, .ref (b 0)), (1, .int (nI d)), (2, .int (nI s)), (3, .int (nI o)), (4, .int (nI i))] 3 [] := by
    intro z
    induction z with
    | zero => intro i Jx hz hi hoj hou hr; exact absurd hz (by omega)
    | succ z ih =>
      intro i Jx hz hi hoj hou hr
      refine r_iload K dX7_shuffles_3 rfl ?_
      refine r_aload_n K dX7_shuffles_5 rfl ?_
      refine r_get K hin_X7_shuffles_7 0 (wM_g0 _ _ _ _) rfl 13 (by decide) (List.mem_of_getElem? (i := 1) rfl) rfl dX7_shuffles_6 ?_
      refine r_iload_n K dX7_shuffles_9 rfl ?_
      refine r_iald K 10 0 (wM_g10 _ _ _ _) rfl (by omega) (by decide) dX7_shuffles_10 ?_
      have hf2 := V_size hV d
      refine r_ic_ge K 41 dX7_shuffles_11 (by decide) (by omega) (by omega) (fun h3 => ?_) (fun h3 => ?_)
      ·
        have hin : i = S 19 d := by omega
        subst hin
        refine r_iload_n K dX7_shuffles_41 rfl ?_
        refine r_i2l K dX7_shuffles_42 (by omega) ?_
        refine r_lstore (lv' := [(0, .ref (b 0)), (1, .int (nI d)), (2, .int (nI s)), (3, .int (nI o)), (4, .long (lN s))]) K dX7_shuffles_43 (by decide) rfl ?_
        refine r_aload_n K dX7_shuffles_45 rfl ?_
        refine r_get K hin_X7_shuffles_7 0 (wM_g0 _ _ _ _) rfl 13 (by decide) (List.mem_of_getElem? (i := 1) rfl) rfl dX7_shuffles_46 ?_
        refine r_iload_n K dX7_shuffles_49 rfl ?_
        refine r_iald K 10 0 (wM_g10 _ _ _ _) rfl (by omega) (by decide) dX7_shuffles_50 ?_
        refine r_iconst K (nI 1) dX7_shuffles_51 (by decide) ?_
        refine r_isub K dX7_shuffles_52 (by omega) ?_
        refine r_istore (lv' := [(0, .ref (b 0)), (1, .int (nI d)), (2, .int (nI s)), (3, .int (nI o)), (4, .long (lN s)), (6, .int (nI (S 19 d - 1)))]) K dX7_shuffles_53 (by decide) rfl ?_
        have M5 : ∀ (z2 : Nat) (i t : Nat) (Jy : St), i < z2 → (i ≤ S 19 d - 1) → (t < 2147483648) → (∀ g, g ≠ 26 → Jy g = J g) → (shO o i (Jy 26) t = (shO o (S 19 d - 1) (Jx 26) s)) → G 0 0 (wM b c S Jy) [(0, .ref (b 0)), (1, .int (nI d)), (2, .int (nI s)), (3, .int (nI o)), (4, .long (lN t)), (6, .int (nI i))] 55 [] := by
          intro z2
          induction z2 with
          | zero => intro i t Jy hz hi ht ho2 hR; exact absurd hz (by omega)
          | succ z2 ih =>
            intro i t Jy hz hi ht ho2 hR
            refine r_iload K dX7_shuffles_55 rfl ?_
            refine r_iconst K (nI 1) dX7_shuffles_57 (by decide) ?_
            refine r_ic_lt K 138 dX7_shuffles_58 (by decide) (by omega) (by decide) (fun h6 => ?_) (fun h6 => ?_)
            ·
              obtain rfl : i = 0 := by omega
              exact hret 0 0 _ _ _ Jy dX7_shuffles_138 ⟨ho2, fun q hq => (congrFun hR q).trans ((shP_out drw_lt hq _ _ (by omega)).trans (hou q hq)), fun p hp => by rw [show Jy 26 = _ from hR]; exact (shP_agree drw_lt _ _ (by omega) (fun q hq => (hr q hq).symm) p hp).symm⟩ rfl (Nat.le_of_ble_eq_true rfl) (Nat.le_of_ble_eq_true rfl)
            ·
              obtain ⟨i, rfl⟩ : ∃ j, i = j + 1 := ⟨i - 1, by omega⟩
              refine r_lload K dX7_shuffles_61 rfl ?_
              refine r_ldc2 K (v := lN 1103515245) (List.mem_of_getElem? (i := 4) rfl) dX7_shuffles_63 ?_
              refine r_lmul K dX7_shuffles_66 ?_
              refine r_ldc2 K (v := lN 12345) (List.mem_of_getElem? (i := 5) rfl) dX7_shuffles_67 ?_
              refine r_ladd K dX7_shuffles_70 ?_
              refine r_ldc2 K (v := lN 2147483648) (List.mem_of_getElem? (i := 6) rfl) dX7_shuffles_71 ?_
              refine r_lrem K dX7_shuffles_74 (by omega) (by omega) (by omega) ?_
              obtain ⟨t1, ht1e⟩ : ∃ y, y = (((t * 1103515245) + 12345) % 2147483648) := ⟨_, rfl⟩
              have ht1 : t1 < 2147483648 := by rw [ht1e]; exact Nat.mod_lt _ (by decide)
              refine r_topL (congrArg lN ht1e.symm) ?_
              refine r_lstore (lv' := [(0, .ref (b 0)), (1, .int (nI d)), (2, .int (nI s)), (3, .int (nI o)), (4, .long (lN t1)), (6, .int (nI (i + 1)))]) K dX7_shuffles_75 (by decide) rfl ?_
              refine r_lload K dX7_shuffles_77 rfl ?_
              refine r_ldc2 K (v := lN 65536) (List.mem_of_getElem? (i := 7) rfl) dX7_shuffles_79 ?_
              refine r_ldiv K dX7_shuffles_82 (by omega) (by omega) (by omega) ?_
              refine r_iload K dX7_shuffles_83 rfl ?_
              refine r_iconst K (nI 1) dX7_shuffles_85 (by decide) ?_
              refine r_iadd K dX7_shuffles_86 ?_
              refine r_i2l K dX7_shuffles_87 (by omega) ?_
              refine r_lrem K dX7_shuffles_88 (by omega) (by omega) (by omega) ?_
              refine r_l2i K dX7_shuffles_89 ?_
              obtain ⟨j, hj⟩ : ∃ y, y = ((t1 / 65536) % ((i + 1) + 1)) := ⟨_, rfl⟩
              have hjl : j < i + 1 + 1 := by rw [hj]; exact Nat.mod_lt _ (by omega)
              refine r_top (congrArg nI hj.symm) ?_
              refine r_istore (lv' := [(0, .ref (b 0)), (1, .int (nI d)), (2, .int (nI s)), (3, .int (nI o)), (4, .long (lN t1)), (6, .int (nI (i + 1))), (7, .int (nI j))]) K dX7_shuffles_90 (by decide) rfl ?_
              refine r_aload_n K dX7_shuffles_92 rfl ?_
              refine r_get K hin_X7_shuffles_7 0 (wM_g0 _ _ _ _) rfl 15 (by decide) (List.mem_of_getElem? (i := 2) rfl) rfl dX7_shuffles_93 ?_
              refine r_iload_n K dX7_shuffles_96 rfl ?_
              refine r_iload K dX7_shuffles_97 rfl ?_
              refine r_iadd K dX7_shuffles_99 ?_
              refine r_iald K 12 0 (wM_g12 _ _ _ _) rfl (by omega) (by decide) dX7_shuffles_100 ?_
              refine r_istore (lv' := [(0, .ref (b 0)), (1, .int (nI d)), (2, .int (nI s)), (3, .int (nI o)), (4, .long (lN t1)), (6, .int (nI (i + 1))), (7, .int (nI j)), (8, .int (nI (Jy 26 (o + (i + 1)))))]) K dX7_shuffles_101 (by decide) rfl ?_
              refine r_aload_n K dX7_shuffles_103 rfl ?_
              refine r_get K hin_X7_shuffles_7 0 (wM_g0 _ _ _ _) rfl 15 (by decide) (List.mem_of_getElem? (i := 2) rfl) rfl dX7_shuffles_104 ?_
              refine r_iload_n K dX7_shuffles_107 rfl ?_
              refine r_iload K dX7_shuffles_108 rfl ?_
              refine r_iadd K dX7_shuffles_110 ?_
              refine r_aload_n K dX7_shuffles_111 rfl ?_
              refine r_get K hin_X7_shuffles_7 0 (wM_g0 _ _ _ _) rfl 15 (by decide) (List.mem_of_getElem? (i := 2) rfl) rfl dX7_shuffles_112 ?_
              refine r_iload_n K dX7_shuffles_115 rfl ?_
              refine r_iload K dX7_shuffles_116 rfl ?_
              refine r_iadd K dX7_shuffles_118 ?_
              refine r_iald K 12 0 (wM_g12 _ _ _ _) rfl (by omega) (by decide) dX7_shuffles_119 ?_
              refine r_iast K 12 0 (wM_g12 _ _ _ _) rfl (by omega) (by decide) dX7_shuffles_120 (wM_s12 _ _ _ _ _ _) ?_
              refine r_aload_n K dX7_shuffles_121 rfl ?_
              refine r_get K hin_X7_shuffles_7 0 (wM_g0 _ _ _ _) rfl 15 (by decide) (List.mem_of_getElem? (i := 2) rfl) rfl dX7_shuffles_122 ?_
              refine r_iload_n K dX7_shuffles_125 rfl ?_
              refine r_iload K dX7_shuffles_126 rfl ?_
              refine r_iadd K dX7_shuffles_128 ?_
              refine r_iload K dX7_shuffles_129 rfl ?_
              refine r_iast K 12 0 (wM_g12 _ _ _ _) rfl (by omega) (by decide) dX7_shuffles_131 (wM_s12 _ _ _ _ _ _) ?_
              refine r_iinc (lv' := [(0, .ref (b 0)), (1, .int (nI d)), (2, .int (nI s)), (3, .int (nI o)), (4, .long (lN t1)), (6, .int (nI i)), (7, .int (nI j)), (8, .int (nI (Jy 26 (o + (i + 1)))))]) K dX7_shuffles_132 rfl dec_nI (by decide) rfl ?_
              refine r_goto K 55 dX7_shuffles_135 (by decide) ?_
              refine r_pick [0, 1, 2, 3, 4, 5] K rfl ?_
              exact ih i t1 _ (by omega) (by omega) ht1 (fun g hg => (up_ne hg).trans ((up_ne hg).trans (ho2 g hg))) ((shO_up ht1e hj).trans hR)
        exact M5 (S 19 d) (S 19 d - 1) s Jx (by omega) (Nat.le_refl _) hs hoj rfl
      ·
        refine r_aload_n K dX7_shuffles_14 rfl ?_
        refine r_get K hin_X7_shuffles_7 0 (wM_g0 _ _ _ _) rfl 15 (by decide) (List.mem_of_getElem? (i := 2) rfl) rfl dX7_shuffles_15 ?_
        refine r_iload_n K dX7_shuffles_18 rfl ?_
        refine r_iload K dX7_shuffles_19 rfl ?_
        refine r_iadd K dX7_shuffles_21 ?_
        refine r_aload_n K dX7_shuffles_22 rfl ?_
        refine r_get K hin_X7_shuffles_7 0 (wM_g0 _ _ _ _) rfl 14 (by decide) (List.mem_of_getElem? (i := 3) rfl) rfl dX7_shuffles_23 ?_
        refine r_bipush K (nI 10) dX7_shuffles_26 (by decide) ?_
        refine r_iload_n K dX7_shuffles_28 rfl ?_
        refine r_imul K dX7_shuffles_29 ?_
        refine r_iload K dX7_shuffles_30 rfl ?_
        refine r_iadd K dX7_shuffles_32 ?_
        refine r_iald K 11 0 (wM_g11 _ _ _ _) rfl (by omega) (by decide) dX7_shuffles_33 ?_
        refine r_top (congrArg nI (flat_at _ (by omega))) ?_
        have hf7 := V_card hV d i (by omega)
        refine r_iast K 12 0 (wM_g12 _ _ _ _) rfl (by omega) (by decide) dX7_shuffles_34 (wM_s12 _ _ _ _ _ _) ?_
        refine r_iinc (lv' := [(0, .ref (b 0)), (1, .int (nI d)), (2, .int (nI s)), (3, .int (nI o)), (4, .int (nI (i + 1)))]) K dX7_shuffles_35 rfl (nI_1 _) (by decide) rfl ?_
        refine r_goto K 3 dX7_shuffles_38 (by decide) ?_
        exact ih (i + 1) _ (by omega) (by omega) (fun g hg => (up_ne hg).trans (hoj g hg)) (fun q hq => (up_nk (by omega)).trans (hou q hq)) (cpo_step hr)
  exact L1 (S 19 d + 1) 0 J (by omega) (by omega) (fun _ _ => rfl) (fun _ _ => rfl) (fun p hp => absurd hp (Nat.not_lt_zero p))

def rmX7_shuffled : Room := { frames := 2, cells := 0, slots := 0, locals := 43 }
theorem hin_X7_shuffled_7 : ∀ w ∈ wsX70, w ∈ wsX7_shuffled := fun _ h => List.mem_cons_of_mem _ (List.mem_append_right _ h)
set_option maxHeartbeats 4000000 in
set_option maxRecDepth 100000 in
theorem c_X7_shuffled (l : Launch) (D : va_G) (b : Nat → Nat) (c : Nat → ClassId) (S J : St) (hV : V S)  (x : Int32) (y : Int32) (z : Int32) : Ci l yX7_shuffled wsX7_shuffled rmX7_shuffled D (tyW c) [.ref (b 0), .int x, .int y, .int z] (wM b c S J) (fun r (J1 : St) => mPost (thr (inB x 0 ((S 3 0 : Nat) - 1) && inB z 0 ((S 19 (tn x) : Nat) - 1)) (sdB y) (true)) (nI (shuf S (tn x) (tn y) (tn z))) r J1) (fun J1 => wM b c S J1) := by
  refine Ci.of (lv0 := [(0, .ref (b 0)), (1, .int x), (2, .int y), (3, .int z)]) (by decide +kernel) rfl (Nat.le_of_ble_eq_true rfl) rfl (fun G K hret => ?_)
  have hdk := V_decks hV
  have HM53 : G 0 0 (wM b c S J) [(0, .ref (b 0)), (1, .int x), (2, .int y), (3, .int z), (4, .int (nI ((inB x 0 ((S 3 0 : Nat) - 1)).toNat)))] 53 [.int (nI 1), .int (nI ((sdB y).toNat)), .int (nI ((inB x 0 ((S 3 0 : Nat) - 1) && inB z 0 ((S 19 (tn x) : Nat) - 1)).toNat)), .ref (b 0)] := by
    refine r_callVs (rest := []) K (c_X7_goes l D b c S J (inB x 0 ((S 3 0 : Nat) - 1) && inB z 0 ((S 19 (tn x) : Nat) - 1)) (sdB y) true) 3 gX7_shuffled_X7_goes rfl (by decide +kernel) rfl (by decide) 0 (wM_g0 _ _ _ _) rfl rfl (Nat.le_of_ble_eq_true rfl) dX7_shuffled_53 rfl rfl ?_
    refine r_if_neB K 61 dX7_shuffled_56 (by decide) (fun h1 => ?_) (fun h1 => ?_)
    ·
      have hth := of_decide_eq_true h1
      obtain ⟨hb1, hb2, hb3⟩ := thr_eq0 hth
      obtain ⟨hs2, hs3⟩ := Bool.and_eq_true_iff.mp hb1
      obtain ⟨xk, hxka, hxkb, hexk, hxkc⟩ := inB_ex (by decide) hs2
      subst hexk
      simp only [tn_nI hxkc] at hs3
      obtain ⟨zk, hzka, hzkb, hezk, hzkc⟩ := inB_ex (by decide) hs3
      subst hezk
      obtain ⟨yk, hykc, heyk⟩ := sdB_ex hb2
      subst heyk
      refine r_aload_n K dX7_shuffled_61 rfl ?_
      have hszx := V_size hV xk
      refine r_iload_n K dX7_shuffled_62 rfl ?_
      refine r_iload_n K dX7_shuffled_63 rfl ?_
      refine r_iconst K (nI 0) dX7_shuffled_64 (by decide) ?_
      refine r_callVv (rest := []) K (c_X7_shuffles l D b c S (up J 0 0 (thr (inB (nI xk) 0 ((S 3 0 : Nat) - 1) && inB (nI zk) 0 ((S 19 (tn (nI xk)) : Nat) - 1)) (sdB (nI yk)) true)) hV xk yk 0 (by omega) (by omega) hykc (by omega)) 3 gX7_shuffled_X7_shuffles rfl (by decide +kernel) rfl (by decide) 0 (wM_g0 _ _ _ _) rfl rfl (Nat.le_of_ble_eq_true rfl) dX7_shuffled_65 (fun J4 hpJ4 => ?_)
      obtain ⟨hoJ4, huJ4, hrJ4⟩ := hpJ4
      refine r_aload_n K dX7_shuffled_68 rfl ?_
      refine r_get K hin_X7_shuffled_7 0 (wM_g0 _ _ _ _) rfl 15 (by decide) (List.mem_of_getElem? (i := 2) rfl) rfl dX7_shuffled_69 ?_
      refine r_iload_n K dX7_shuffled_72 rfl ?_
      refine r_iald K 12 0 (wM_g12 _ _ _ _) rfl (by omega) (by decide) dX7_shuffled_73 ?_
      exact hret 0 0 _ _ _ _ _ dX7_shuffled_74 ⟨(by rw [hoJ4 0 (by decide)]; exact up_same), fun _ => by rw [tn_nI hxkc, tn_nI hykc, tn_nI hzkc]; have := hrJ4 zk (by omega); rw [Nat.zero_add] at this; exact congrArg nI this⟩ rfl (Nat.le_of_ble_eq_true rfl) (Nat.le_of_ble_eq_true rfl)
    ·
      refine r_iconst K (nI 0) dX7_shuffled_59 (by decide) ?_
      exact hret 0 0 _ _ _ _ _ dX7_shuffled_60 ⟨up_same, fun q => absurd q (of_decide_eq_false h1)⟩ rfl (Nat.le_of_ble_eq_true rfl) (Nat.le_of_ble_eq_true rfl)
  refine r_aload_n K dX7_shuffled_0 rfl ?_
  refine r_iload_n K dX7_shuffled_1 rfl ?_
  refine r_callVs (rest := []) K (c_X7_isDeck l D b c S J hV (x)) 1 gX7_shuffled_X7_isDeck rfl (by decide +kernel) rfl (by decide) 0 (wM_g0 _ _ _ _) rfl rfl (Nat.le_of_ble_eq_true rfl) dX7_shuffled_2 rfl rfl ?_
  refine r_istore (lv' := [(0, .ref (b 0)), (1, .int x), (2, .int y), (3, .int z), (4, .int (nI ((inB x 0 ((S 3 0 : Nat) - 1)).toNat)))]) K dX7_shuffled_5 (by decide) rfl ?_
  refine r_aload_n K dX7_shuffled_7 rfl ?_
  refine r_iload K dX7_shuffled_8 rfl ?_
  refine r_if_eqB K 42 dX7_shuffled_10 (by decide) (fun h5 => ?_) (fun h5 => ?_)
  ·
    refine r_iconst K (nI 0) dX7_shuffled_42 (by decide) ?_
    refine r_iload_n K dX7_shuffled_43 rfl ?_
    refine r_if_ltR K 51 dX7_shuffled_44 (by decide) (fun h6 => ?_) (fun h6 => ?_)
    ·
      refine r_iconst K (nI 0) dX7_shuffled_51 (by decide) ?_
      refine r_iconst K (nI 1) dX7_shuffled_52 (by decide) ?_
      refine r_st (st' := [.int (nI 1), .int (nI ((sdB y).toNat)), .int (nI ((inB x 0 ((S 3 0 : Nat) - 1) && inB z 0 ((S 19 (tn x) : Nat) - 1)).toNat)), .ref (b 0)]) (by simp [h5, h6, sdB_f h6]) ?_
      exact HM53
    ·
      refine r_iconst K (nI 1) dX7_shuffled_47 (by decide) ?_
      refine r_goto K 52 dX7_shuffled_48 (by decide) ?_
      refine r_iconst K (nI 1) dX7_shuffled_52 (by decide) ?_
      refine r_st (st' := [.int (nI 1), .int (nI ((sdB y).toNat)), .int (nI ((inB x 0 ((S 3 0 : Nat) - 1) && inB z 0 ((S 19 (tn x) : Nat) - 1)).toNat)), .ref (b 0)]) (by simp [h5, h6, sdB_t h6]) ?_
      exact HM53
  ·
    obtain ⟨xk, hxka, hxkb, hexk, hxkc⟩ := inB_ex (by decide) h5
    subst hexk
    refine r_iload_n K dX7_shuffled_13 rfl ?_
    refine r_iconst K (nI 0) dX7_shuffled_14 (by decide) ?_
    have hszx := V_size hV xk
    refine r_aload_n K dX7_shuffled_15 rfl ?_
    refine r_get K hin_X7_shuffled_7 0 (wM_g0 _ _ _ _) rfl 13 (by decide) (List.mem_of_getElem? (i := 1) rfl) rfl dX7_shuffled_16 ?_
    refine r_iload K dX7_shuffled_19 rfl ?_
    refine r_if_eqB K 28 dX7_shuffled_21 (by decide) (fun h7 => ?_) (fun h7 => ?_)
    ·
      rw [h5] at h7; exact absurd h7 (by decide)
    ·
      refine r_iload_n K dX7_shuffled_24 rfl ?_
      refine r_goto K 29 dX7_shuffled_25 (by decide) ?_
      refine r_iald K 10 0 (wM_g10 _ _ _ _) rfl (by omega) (by decide) dX7_shuffled_29 ?_
      have hf8 := V_size hV xk
      refine r_iconst K (nI 1) dX7_shuffled_30 (by decide) ?_
      refine r_isubR K dX7_shuffled_31 ?_
      refine r_callSs (rest := [.ref (b 0)]) K (c_X7_in l D b c S J (z) (nI 0) ((nI (S 19 xk) - nI 1))) 3 gX7_shuffled_X7_in rfl (by decide +kernel) rfl (by decide) rfl (Nat.le_of_ble_eq_true rfl) dX7_shuffled_32 rfl rfl ?_
      refine r_top (congrArg (fun b : Bool => nI b.toNat) (inI_n1 (by omega))) ?_
      refine r_if_eqB K 42 dX7_shuffled_35 (by decide) (fun h9 => ?_) (fun h9 => ?_)
      ·
        refine r_iconst K (nI 0) dX7_shuffled_42 (by decide) ?_
        refine r_iload_n K dX7_shuffled_43 rfl ?_
        refine r_if_ltR K 51 dX7_shuffled_44 (by decide) (fun h10 => ?_) (fun h10 => ?_)
        ·
          refine r_iconst K (nI 0) dX7_shuffled_51 (by decide) ?_
          refine r_iconst K (nI 1) dX7_shuffled_52 (by decide) ?_
          refine r_st (st' := [.int (nI 1), .int (nI ((sdB y).toNat)), .int (nI ((inB (nI xk) 0 ((S 3 0 : Nat) - 1) && inB z 0 ((S 19 (tn (nI xk)) : Nat) - 1)).toNat)), .ref (b 0)]) (by simp [h5, h7, h9, h10, sdB_f h10, tn_nI hxkc]) ?_
          exact HM53
        ·
          refine r_iconst K (nI 1) dX7_shuffled_47 (by decide) ?_
          refine r_goto K 52 dX7_shuffled_48 (by decide) ?_
          refine r_iconst K (nI 1) dX7_shuffled_52 (by decide) ?_
          refine r_st (st' := [.int (nI 1), .int (nI ((sdB y).toNat)), .int (nI ((inB (nI xk) 0 ((S 3 0 : Nat) - 1) && inB z 0 ((S 19 (tn (nI xk)) : Nat) - 1)).toNat)), .ref (b 0)]) (by simp [h5, h7, h9, h10, sdB_t h10, tn_nI hxkc]) ?_
          exact HM53
      ·
        refine r_iconst K (nI 1) dX7_shuffled_38 (by decide) ?_
        refine r_goto K 43 dX7_shuffled_39 (by decide) ?_
        refine r_iload_n K dX7_shuffled_43 rfl ?_
        refine r_if_ltR K 51 dX7_shuffled_44 (by decide) (fun h11 => ?_) (fun h11 => ?_)
        ·
          refine r_iconst K (nI 0) dX7_shuffled_51 (by decide) ?_
          refine r_iconst K (nI 1) dX7_shuffled_52 (by decide) ?_
          refine r_st (st' := [.int (nI 1), .int (nI ((sdB y).toNat)), .int (nI ((inB (nI xk) 0 ((S 3 0 : Nat) - 1) && inB z 0 ((S 19 (tn (nI xk)) : Nat) - 1)).toNat)), .ref (b 0)]) (by simp [h5, h7, h9, h11, sdB_f h11, tn_nI hxkc]) ?_
          exact HM53
        ·
          refine r_iconst K (nI 1) dX7_shuffled_47 (by decide) ?_
          refine r_goto K 52 dX7_shuffled_48 (by decide) ?_
          refine r_iconst K (nI 1) dX7_shuffled_52 (by decide) ?_
          refine r_st (st' := [.int (nI 1), .int (nI ((sdB y).toNat)), .int (nI ((inB (nI xk) 0 ((S 3 0 : Nat) - 1) && inB z 0 ((S 19 (tn (nI xk)) : Nat) - 1)).toNat)), .ref (b 0)]) (by simp [h5, h7, h9, h11, sdB_t h11, tn_nI hxkc]) ?_
          exact HM53

def rmX7_ordersOf : Room := { frames := 2, cells := 0, slots := 0, locals := 46 }
theorem hin_X7_ordersOf_7 : ∀ w ∈ wsX70, w ∈ wsX7_ordersOf := fun _ h => List.mem_cons_of_mem _ (List.mem_append_right _ h)
set_option maxHeartbeats 4000000 in
set_option maxRecDepth 100000 in
theorem c_X7_ordersOf (l : Launch) (D : va_G) (b : Nat → Nat) (c : Nat → ClassId) (S J : St) (hV : V S) (d k f : Nat) (hd : d < 12) (hk : k < 1000000) (hf : f < 1000000) : Cs l yX7_ordersOf wsX7_ordersOf rmX7_ordersOf D (tyW c) [.ref (b 0), .int (nI d), .int (nI k), .int (nI f)] (wM b c S J) (nI (ordN S d k f)) (wM b c S J) := by
  refine Ci.of (lv0 := [(0, .ref (b 0)), (1, .int (nI d)), (2, .int (nI k)), (3, .int (nI f))]) (by decide +kernel) rfl (Nat.le_of_ble_eq_true rfl) rfl (fun G K hret => ?_)
  have hsz := V_size hV d
  have hmo : mo S d k ≤ S 19 d := cnt_le _ _
  refine r_iload_n K dX7_ordersOf_0 rfl ?_
  refine r_aload_n K dX7_ordersOf_1 rfl ?_
  refine r_get K hin_X7_ordersOf_7 0 (wM_g0 _ _ _ _) rfl 13 (by decide) (List.mem_of_getElem? (i := 1) rfl) rfl dX7_ordersOf_2 ?_
  refine r_iload_n K dX7_ordersOf_5 rfl ?_
  refine r_iald K 10 0 (wM_g10 _ _ _ _) rfl (by omega) (by decide) dX7_ordersOf_6 ?_
  have hf1 := V_size hV d
  refine r_ic_ge K 14 dX7_ordersOf_7 (by decide) (by omega) (by omega) (fun h2 => ?_) (fun h2 => ?_)
  ·
    refine r_aload_n K dX7_ordersOf_14 rfl ?_
    refine r_get K hin_X7_ordersOf_7 0 (wM_g0 _ _ _ _) rfl 13 (by decide) (List.mem_of_getElem? (i := 1) rfl) rfl dX7_ordersOf_15 ?_
    refine r_iload_n K dX7_ordersOf_18 rfl ?_
    refine r_iald K 10 0 (wM_g10 _ _ _ _) rfl (by omega) (by decide) dX7_ordersOf_19 ?_
    refine r_top (show nI (S 19 d) = nI (if f < S 19 d then f else S 19 d) from congrArg nI (if_neg (by omega)).symm) ?_
    refine r_istore (lv' := [(0, .ref (b 0)), (1, .int (nI d)), (2, .int (nI k)), (3, .int (nI f)), (4, .int (nI (if f < S 19 d then f else S 19 d)))]) K dX7_ordersOf_20 (by decide) rfl ?_
    obtain ⟨lk, hlk⟩ : ∃ y, y = (if f < S 19 d then f else S 19 d) := ⟨_, rfl⟩
    have hlk1 : lk ≤ S 19 d := by rw [hlk]; split <;> omega
    rw [← hlk]
    refine r_aload_n K dX7_ordersOf_22 rfl ?_
    refine r_get K hin_X7_ordersOf_7 0 (wM_g0 _ _ _ _) rfl 13 (by decide) (List.mem_of_getElem? (i := 1) rfl) rfl dX7_ordersOf_23 ?_
    refine r_iload_n K dX7_ordersOf_26 rfl ?_
    refine r_iald K 10 0 (wM_g10 _ _ _ _) rfl (by omega) (by decide) dX7_ordersOf_27 ?_
    refine r_aload_n K dX7_ordersOf_28 rfl ?_
    refine r_iload_n K dX7_ordersOf_29 rfl ?_
    refine r_iload_n K dX7_ordersOf_30 rfl ?_
    refine r_callVs (rest := [.int (nI (S 19 d))]) K (c_X7_manyOf l D b c S J hV d k (by omega) (by omega)) 2 gX7_ordersOf_X7_manyOf rfl (by decide +kernel) rfl (by decide) 0 (wM_g0 _ _ _ _) rfl rfl (Nat.le_of_ble_eq_true rfl) dX7_ordersOf_31 rfl rfl ?_
    refine r_isub K dX7_ordersOf_34 (by omega) ?_
    refine r_istore (lv' := [(0, .ref (b 0)), (1, .int (nI d)), (2, .int (nI k)), (3, .int (nI f)), (4, .int (nI lk)), (5, .int (nI (S 19 d - (mo S d k))))]) K dX7_ordersOf_35 (by decide) rfl ?_
    refine r_iconst K (nI 1) dX7_ordersOf_37 (by decide) ?_
    refine r_istore (lv' := [(0, .ref (b 0)), (1, .int (nI d)), (2, .int (nI k)), (3, .int (nI f)), (4, .int (nI lk)), (5, .int (nI (S 19 d - (mo S d k)))), (6, .int (nI 1))]) K dX7_ordersOf_38 (by decide) rfl ?_
    refine r_iconst K (nI 1) dX7_ordersOf_40 (by decide) ?_
    refine r_istore (lv' := [(0, .ref (b 0)), (1, .int (nI d)), (2, .int (nI k)), (3, .int (nI f)), (4, .int (nI lk)), (5, .int (nI (S 19 d - (mo S d k)))), (6, .int (nI 1)), (7, .int (nI 1))]) K dX7_ordersOf_41 (by decide) rfl ?_
    refine r_iconst K (nI 0) dX7_ordersOf_43 (by decide) ?_
    refine r_istore (lv' := [(0, .ref (b 0)), (1, .int (nI d)), (2, .int (nI k)), (3, .int (nI f)), (4, .int (nI lk)), (5, .int (nI (S 19 d - (mo S d k)))), (6, .int (nI 1)), (7, .int (nI 1)), (8, .int (nI 0))]) K dX7_ordersOf_44 (by decide) rfl ?_
    have L5 : ∀ (z : Nat) (i A B : Nat), S 19 d < i + z → (i ≤ S 19 d) → (A = prod (fAll (S 19 d)) i) → (B = prod (fWo (S 19 d) (S 19 d - mo S d k) lk) i) → G 0 0 (wM b c S J) [(0, .ref (b 0)), (1, .int (nI d)), (2, .int (nI k)), (3, .int (nI f)), (4, .int (nI lk)), (5, .int (nI (S 19 d - (mo S d k)))), (6, .int (nI A)), (7, .int (nI B)), (8, .int (nI i))] 46 [] := by
      intro z
      induction z with
      | zero => intro i A B hz hi hA hB; exact absurd hz (by omega)
      | succ z ih =>
        intro i A B hz hi hA hB
        refine r_iload K dX7_ordersOf_46 rfl ?_
        refine r_aload_n K dX7_ordersOf_48 rfl ?_
        refine r_get K hin_X7_ordersOf_7 0 (wM_g0 _ _ _ _) rfl 13 (by decide) (List.mem_of_getElem? (i := 1) rfl) rfl dX7_ordersOf_49 ?_
        refine r_iload_n K dX7_ordersOf_52 rfl ?_
        refine r_iald K 10 0 (wM_g10 _ _ _ _) rfl (by omega) (by decide) dX7_ordersOf_53 ?_
        refine r_ic_ge K 118 dX7_ordersOf_54 (by decide) (by omega) (by omega) (fun h7 => ?_) (fun h7 => ?_)
        ·
          refine r_iload K dX7_ordersOf_118 rfl ?_
          refine r_iload K dX7_ordersOf_120 rfl ?_
          refine r_isub K dX7_ordersOf_122 (by rw [hA, hB]; exact wo_le (by omega) _) ?_
          exact hret 0 0 _ _ _ _ () dX7_ordersOf_123 (by unfold ordN; rw [hA, hB, show i = S 19 d by omega, hlk, fWo_min _ (Nat.le_refl _)]) rfl (Nat.le_of_ble_eq_true rfl) (Nat.le_of_ble_eq_true rfl)
        ·
          refine r_iload K dX7_ordersOf_57 rfl ?_
          refine r_aload_n K dX7_ordersOf_59 rfl ?_
          refine r_get K hin_X7_ordersOf_7 0 (wM_g0 _ _ _ _) rfl 13 (by decide) (List.mem_of_getElem? (i := 1) rfl) rfl dX7_ordersOf_60 ?_
          refine r_iload_n K dX7_ordersOf_63 rfl ?_
          refine r_iald K 10 0 (wM_g10 _ _ _ _) rfl (by omega) (by decide) dX7_ordersOf_64 ?_
          refine r_iload K dX7_ordersOf_65 rfl ?_
          refine r_isub K dX7_ordersOf_67 (by omega) ?_
          refine r_imul K dX7_ordersOf_68 ?_
          refine r_istore (lv' := [(0, .ref (b 0)), (1, .int (nI d)), (2, .int (nI k)), (3, .int (nI f)), (4, .int (nI lk)), (5, .int (nI (S 19 d - (mo S d k)))), (6, .int (nI (A * (S 19 d - i)))), (7, .int (nI B)), (8, .int (nI i))]) K dX7_ordersOf_69 (by decide) rfl ?_
          refine r_iload K dX7_ordersOf_71 rfl ?_
          refine r_iload K dX7_ordersOf_73 rfl ?_
          refine r_iload K dX7_ordersOf_75 rfl ?_
          refine r_ic_ge K 100 dX7_ordersOf_77 (by decide) (by omega) (by omega) (fun h9 => ?_) (fun h9 => ?_)
          ·
            refine r_aload_n K dX7_ordersOf_100 rfl ?_
            refine r_get K hin_X7_ordersOf_7 0 (wM_g0 _ _ _ _) rfl 13 (by decide) (List.mem_of_getElem? (i := 1) rfl) rfl dX7_ordersOf_101 ?_
            refine r_iload_n K dX7_ordersOf_104 rfl ?_
            refine r_iald K 10 0 (wM_g10 _ _ _ _) rfl (by omega) (by decide) dX7_ordersOf_105 ?_
            refine r_iload K dX7_ordersOf_106 rfl ?_
            refine r_isub K dX7_ordersOf_108 (by omega) ?_
            refine r_imul K dX7_ordersOf_109 ?_
            refine r_istore (lv' := [(0, .ref (b 0)), (1, .int (nI d)), (2, .int (nI k)), (3, .int (nI f)), (4, .int (nI lk)), (5, .int (nI (S 19 d - (mo S d k)))), (6, .int (nI (A * (S 19 d - i)))), (7, .int (nI (B * (S 19 d - i)))), (8, .int (nI i))]) K dX7_ordersOf_110 (by decide) rfl ?_
            refine r_iinc (lv' := [(0, .ref (b 0)), (1, .int (nI d)), (2, .int (nI k)), (3, .int (nI f)), (4, .int (nI lk)), (5, .int (nI (S 19 d - (mo S d k)))), (6, .int (nI (A * (S 19 d - i)))), (7, .int (nI (B * (S 19 d - i)))), (8, .int (nI (i + 1)))]) K dX7_ordersOf_112 rfl (nI_1 _) (by decide) rfl ?_
            refine r_goto K 46 dX7_ordersOf_115 (by decide) ?_
            exact ih (i + 1) (A * (S 19 d - i)) (B * (S 19 d - i)) (by omega) (by omega) (by rw [prod_s, ← hA]; rfl) (by rw [prod_s, ← hB, show fWo (S 19 d) (S 19 d - mo S d k) lk i = S 19 d - i from if_neg (by omega)])
          ·
            refine r_iload K dX7_ordersOf_80 rfl ?_
            refine r_iload K dX7_ordersOf_82 rfl ?_
            refine r_isubR K dX7_ordersOf_84 ?_
            refine r_if_leR K 96 dX7_ordersOf_85 (by decide) (fun h11 => ?_) (fun h11 => ?_)
            ·
              have hle : S 19 d - mo S d k ≤ i := (sub_le (by omega) (by omega)).mp h11
              refine r_iconst K (nI 0) dX7_ordersOf_96 (by decide) ?_
              refine r_goto K 109 dX7_ordersOf_97 (by decide) ?_
              refine r_imul K dX7_ordersOf_109 ?_
              refine r_istore (lv' := [(0, .ref (b 0)), (1, .int (nI d)), (2, .int (nI k)), (3, .int (nI f)), (4, .int (nI lk)), (5, .int (nI (S 19 d - (mo S d k)))), (6, .int (nI (A * (S 19 d - i)))), (7, .int (nI (B * 0))), (8, .int (nI i))]) K dX7_ordersOf_110 (by decide) rfl ?_
              refine r_iinc (lv' := [(0, .ref (b 0)), (1, .int (nI d)), (2, .int (nI k)), (3, .int (nI f)), (4, .int (nI lk)), (5, .int (nI (S 19 d - (mo S d k)))), (6, .int (nI (A * (S 19 d - i)))), (7, .int (nI (B * 0))), (8, .int (nI (i + 1)))]) K dX7_ordersOf_112 rfl (nI_1 _) (by decide) rfl ?_
              refine r_goto K 46 dX7_ordersOf_115 (by decide) ?_
              exact ih (i + 1) (A * (S 19 d - i)) (B * 0) (by omega) (by omega) (by rw [prod_s, ← hA]; rfl) (by rw [prod_s, ← hB, show fWo (S 19 d) (S 19 d - mo S d k) lk i = 0 from (if_pos (by omega)).trans (by omega)])
            ·
              have hgt : i < S 19 d - mo S d k := by have : ¬ S 19 d - mo S d k ≤ i := fun q => h11 ((sub_le (by omega) (by omega)).mpr q); omega
              refine r_iload K dX7_ordersOf_88 rfl ?_
              refine r_iload K dX7_ordersOf_90 rfl ?_
              refine r_isub K dX7_ordersOf_92 (by omega) ?_
              refine r_goto K 109 dX7_ordersOf_93 (by decide) ?_
              refine r_imul K dX7_ordersOf_109 ?_
              refine r_istore (lv' := [(0, .ref (b 0)), (1, .int (nI d)), (2, .int (nI k)), (3, .int (nI f)), (4, .int (nI lk)), (5, .int (nI (S 19 d - (mo S d k)))), (6, .int (nI (A * (S 19 d - i)))), (7, .int (nI (B * ((S 19 d - (mo S d k)) - i)))), (8, .int (nI i))]) K dX7_ordersOf_110 (by decide) rfl ?_
              refine r_iinc (lv' := [(0, .ref (b 0)), (1, .int (nI d)), (2, .int (nI k)), (3, .int (nI f)), (4, .int (nI lk)), (5, .int (nI (S 19 d - (mo S d k)))), (6, .int (nI (A * (S 19 d - i)))), (7, .int (nI (B * ((S 19 d - (mo S d k)) - i)))), (8, .int (nI (i + 1)))]) K dX7_ordersOf_112 rfl (nI_1 _) (by decide) rfl ?_
              refine r_goto K 46 dX7_ordersOf_115 (by decide) ?_
              exact ih (i + 1) (A * (S 19 d - i)) (B * ((S 19 d - (mo S d k)) - i)) (by omega) (by omega) (by rw [prod_s, ← hA]; rfl) (by rw [prod_s, ← hB, show fWo (S 19 d) (S 19 d - mo S d k) lk i = S 19 d - mo S d k - i from if_pos (by omega)])
    exact L5 (S 19 d + 1) 0 1 1 (by omega) (by omega) rfl rfl
  ·
    refine r_iload_n K dX7_ordersOf_10 rfl ?_
    refine r_goto K 20 dX7_ordersOf_11 (by decide) ?_
    refine r_top (show nI f = nI (if f < S 19 d then f else S 19 d) from congrArg nI (if_pos (by omega)).symm) ?_
    refine r_istore (lv' := [(0, .ref (b 0)), (1, .int (nI d)), (2, .int (nI k)), (3, .int (nI f)), (4, .int (nI (if f < S 19 d then f else S 19 d)))]) K dX7_ordersOf_20 (by decide) rfl ?_
    obtain ⟨lk, hlk⟩ : ∃ y, y = (if f < S 19 d then f else S 19 d) := ⟨_, rfl⟩
    have hlk1 : lk ≤ S 19 d := by rw [hlk]; split <;> omega
    rw [← hlk]
    refine r_aload_n K dX7_ordersOf_22 rfl ?_
    refine r_get K hin_X7_ordersOf_7 0 (wM_g0 _ _ _ _) rfl 13 (by decide) (List.mem_of_getElem? (i := 1) rfl) rfl dX7_ordersOf_23 ?_
    refine r_iload_n K dX7_ordersOf_26 rfl ?_
    refine r_iald K 10 0 (wM_g10 _ _ _ _) rfl (by omega) (by decide) dX7_ordersOf_27 ?_
    refine r_aload_n K dX7_ordersOf_28 rfl ?_
    refine r_iload_n K dX7_ordersOf_29 rfl ?_
    refine r_iload_n K dX7_ordersOf_30 rfl ?_
    refine r_callVs (rest := [.int (nI (S 19 d))]) K (c_X7_manyOf l D b c S J hV d k (by omega) (by omega)) 2 gX7_ordersOf_X7_manyOf rfl (by decide +kernel) rfl (by decide) 0 (wM_g0 _ _ _ _) rfl rfl (Nat.le_of_ble_eq_true rfl) dX7_ordersOf_31 rfl rfl ?_
    refine r_isub K dX7_ordersOf_34 (by omega) ?_
    refine r_istore (lv' := [(0, .ref (b 0)), (1, .int (nI d)), (2, .int (nI k)), (3, .int (nI f)), (4, .int (nI lk)), (5, .int (nI (S 19 d - (mo S d k))))]) K dX7_ordersOf_35 (by decide) rfl ?_
    refine r_iconst K (nI 1) dX7_ordersOf_37 (by decide) ?_
    refine r_istore (lv' := [(0, .ref (b 0)), (1, .int (nI d)), (2, .int (nI k)), (3, .int (nI f)), (4, .int (nI lk)), (5, .int (nI (S 19 d - (mo S d k)))), (6, .int (nI 1))]) K dX7_ordersOf_38 (by decide) rfl ?_
    refine r_iconst K (nI 1) dX7_ordersOf_40 (by decide) ?_
    refine r_istore (lv' := [(0, .ref (b 0)), (1, .int (nI d)), (2, .int (nI k)), (3, .int (nI f)), (4, .int (nI lk)), (5, .int (nI (S 19 d - (mo S d k)))), (6, .int (nI 1)), (7, .int (nI 1))]) K dX7_ordersOf_41 (by decide) rfl ?_
    refine r_iconst K (nI 0) dX7_ordersOf_43 (by decide) ?_
    refine r_istore (lv' := [(0, .ref (b 0)), (1, .int (nI d)), (2, .int (nI k)), (3, .int (nI f)), (4, .int (nI lk)), (5, .int (nI (S 19 d - (mo S d k)))), (6, .int (nI 1)), (7, .int (nI 1)), (8, .int (nI 0))]) K dX7_ordersOf_44 (by decide) rfl ?_
    have L13 : ∀ (z : Nat) (i A B : Nat), S 19 d < i + z → (i ≤ S 19 d) → (A = prod (fAll (S 19 d)) i) → (B = prod (fWo (S 19 d) (S 19 d - mo S d k) lk) i) → G 0 0 (wM b c S J) [(0, .ref (b 0)), (1, .int (nI d)), (2, .int (nI k)), (3, .int (nI f)), (4, .int (nI lk)), (5, .int (nI (S 19 d - (mo S d k)))), (6, .int (nI A)), (7, .int (nI B)), (8, .int (nI i))] 46 [] := by
      intro z
      induction z with
      | zero => intro i A B hz hi hA hB; exact absurd hz (by omega)
      | succ z ih =>
        intro i A B hz hi hA hB
        refine r_iload K dX7_ordersOf_46 rfl ?_
        refine r_aload_n K dX7_ordersOf_48 rfl ?_
        refine r_get K hin_X7_ordersOf_7 0 (wM_g0 _ _ _ _) rfl 13 (by decide) (List.mem_of_getElem? (i := 1) rfl) rfl dX7_ordersOf_49 ?_
        refine r_iload_n K dX7_ordersOf_52 rfl ?_
        refine r_iald K 10 0 (wM_g10 _ _ _ _) rfl (by omega) (by decide) dX7_ordersOf_53 ?_
        refine r_ic_ge K 118 dX7_ordersOf_54 (by decide) (by omega) (by omega) (fun h15 => ?_) (fun h15 => ?_)
        ·
          refine r_iload K dX7_ordersOf_118 rfl ?_
          refine r_iload K dX7_ordersOf_120 rfl ?_
          refine r_isub K dX7_ordersOf_122 (by rw [hA, hB]; exact wo_le (by omega) _) ?_
          exact hret 0 0 _ _ _ _ () dX7_ordersOf_123 (by unfold ordN; rw [hA, hB, show i = S 19 d by omega, hlk, fWo_min _ (Nat.le_refl _)]) rfl (Nat.le_of_ble_eq_true rfl) (Nat.le_of_ble_eq_true rfl)
        ·
          refine r_iload K dX7_ordersOf_57 rfl ?_
          refine r_aload_n K dX7_ordersOf_59 rfl ?_
          refine r_get K hin_X7_ordersOf_7 0 (wM_g0 _ _ _ _) rfl 13 (by decide) (List.mem_of_getElem? (i := 1) rfl) rfl dX7_ordersOf_60 ?_
          refine r_iload_n K dX7_ordersOf_63 rfl ?_
          refine r_iald K 10 0 (wM_g10 _ _ _ _) rfl (by omega) (by decide) dX7_ordersOf_64 ?_
          refine r_iload K dX7_ordersOf_65 rfl ?_
          refine r_isub K dX7_ordersOf_67 (by omega) ?_
          refine r_imul K dX7_ordersOf_68 ?_
          refine r_istore (lv' := [(0, .ref (b 0)), (1, .int (nI d)), (2, .int (nI k)), (3, .int (nI f)), (4, .int (nI lk)), (5, .int (nI (S 19 d - (mo S d k)))), (6, .int (nI (A * (S 19 d - i)))), (7, .int (nI B)), (8, .int (nI i))]) K dX7_ordersOf_69 (by decide) rfl ?_
          refine r_iload K dX7_ordersOf_71 rfl ?_
          refine r_iload K dX7_ordersOf_73 rfl ?_
          refine r_iload K dX7_ordersOf_75 rfl ?_
          refine r_ic_ge K 100 dX7_ordersOf_77 (by decide) (by omega) (by omega) (fun h17 => ?_) (fun h17 => ?_)
          ·
            refine r_aload_n K dX7_ordersOf_100 rfl ?_
            refine r_get K hin_X7_ordersOf_7 0 (wM_g0 _ _ _ _) rfl 13 (by decide) (List.mem_of_getElem? (i := 1) rfl) rfl dX7_ordersOf_101 ?_
            refine r_iload_n K dX7_ordersOf_104 rfl ?_
            refine r_iald K 10 0 (wM_g10 _ _ _ _) rfl (by omega) (by decide) dX7_ordersOf_105 ?_
            refine r_iload K dX7_ordersOf_106 rfl ?_
            refine r_isub K dX7_ordersOf_108 (by omega) ?_
            refine r_imul K dX7_ordersOf_109 ?_
            refine r_istore (lv' := [(0, .ref (b 0)), (1, .int (nI d)), (2, .int (nI k)), (3, .int (nI f)), (4, .int (nI lk)), (5, .int (nI (S 19 d - (mo S d k)))), (6, .int (nI (A * (S 19 d - i)))), (7, .int (nI (B * (S 19 d - i)))), (8, .int (nI i))]) K dX7_ordersOf_110 (by decide) rfl ?_
            refine r_iinc (lv' := [(0, .ref (b 0)), (1, .int (nI d)), (2, .int (nI k)), (3, .int (nI f)), (4, .int (nI lk)), (5, .int (nI (S 19 d - (mo S d k)))), (6, .int (nI (A * (S 19 d - i)))), (7, .int (nI (B * (S 19 d - i)))), (8, .int (nI (i + 1)))]) K dX7_ordersOf_112 rfl (nI_1 _) (by decide) rfl ?_
            refine r_goto K 46 dX7_ordersOf_115 (by decide) ?_
            exact ih (i + 1) (A * (S 19 d - i)) (B * (S 19 d - i)) (by omega) (by omega) (by rw [prod_s, ← hA]; rfl) (by rw [prod_s, ← hB, show fWo (S 19 d) (S 19 d - mo S d k) lk i = S 19 d - i from if_neg (by omega)])
          ·
            refine r_iload K dX7_ordersOf_80 rfl ?_
            refine r_iload K dX7_ordersOf_82 rfl ?_
            refine r_isubR K dX7_ordersOf_84 ?_
            refine r_if_leR K 96 dX7_ordersOf_85 (by decide) (fun h19 => ?_) (fun h19 => ?_)
            ·
              have hle : S 19 d - mo S d k ≤ i := (sub_le (by omega) (by omega)).mp h19
              refine r_iconst K (nI 0) dX7_ordersOf_96 (by decide) ?_
              refine r_goto K 109 dX7_ordersOf_97 (by decide) ?_
              refine r_imul K dX7_ordersOf_109 ?_
              refine r_istore (lv' := [(0, .ref (b 0)), (1, .int (nI d)), (2, .int (nI k)), (3, .int (nI f)), (4, .int (nI lk)), (5, .int (nI (S 19 d - (mo S d k)))), (6, .int (nI (A * (S 19 d - i)))), (7, .int (nI (B * 0))), (8, .int (nI i))]) K dX7_ordersOf_110 (by decide) rfl ?_
              refine r_iinc (lv' := [(0, .ref (b 0)), (1, .int (nI d)), (2, .int (nI k)), (3, .int (nI f)), (4, .int (nI lk)), (5, .int (nI (S 19 d - (mo S d k)))), (6, .int (nI (A * (S 19 d - i)))), (7, .int (nI (B * 0))), (8, .int (nI (i + 1)))]) K dX7_ordersOf_112 rfl (nI_1 _) (by decide) rfl ?_
              refine r_goto K 46 dX7_ordersOf_115 (by decide) ?_
              exact ih (i + 1) (A * (S 19 d - i)) (B * 0) (by omega) (by omega) (by rw [prod_s, ← hA]; rfl) (by rw [prod_s, ← hB, show fWo (S 19 d) (S 19 d - mo S d k) lk i = 0 from (if_pos (by omega)).trans (by omega)])
            ·
              have hgt : i < S 19 d - mo S d k := by have : ¬ S 19 d - mo S d k ≤ i := fun q => h19 ((sub_le (by omega) (by omega)).mpr q); omega
              refine r_iload K dX7_ordersOf_88 rfl ?_
              refine r_iload K dX7_ordersOf_90 rfl ?_
              refine r_isub K dX7_ordersOf_92 (by omega) ?_
              refine r_goto K 109 dX7_ordersOf_93 (by decide) ?_
              refine r_imul K dX7_ordersOf_109 ?_
              refine r_istore (lv' := [(0, .ref (b 0)), (1, .int (nI d)), (2, .int (nI k)), (3, .int (nI f)), (4, .int (nI lk)), (5, .int (nI (S 19 d - (mo S d k)))), (6, .int (nI (A * (S 19 d - i)))), (7, .int (nI (B * ((S 19 d - (mo S d k)) - i)))), (8, .int (nI i))]) K dX7_ordersOf_110 (by decide) rfl ?_
              refine r_iinc (lv' := [(0, .ref (b 0)), (1, .int (nI d)), (2, .int (nI k)), (3, .int (nI f)), (4, .int (nI lk)), (5, .int (nI (S 19 d - (mo S d k)))), (6, .int (nI (A * (S 19 d - i)))), (7, .int (nI (B * ((S 19 d - (mo S d k)) - i)))), (8, .int (nI (i + 1)))]) K dX7_ordersOf_112 rfl (nI_1 _) (by decide) rfl ?_
              refine r_goto K 46 dX7_ordersOf_115 (by decide) ?_
              exact ih (i + 1) (A * (S 19 d - i)) (B * ((S 19 d - (mo S d k)) - i)) (by omega) (by omega) (by rw [prod_s, ← hA]; rfl) (by rw [prod_s, ← hB, show fWo (S 19 d) (S 19 d - mo S d k) lk i = S 19 d - mo S d k - i from if_pos (by omega)])
    exact L13 (S 19 d + 1) 0 1 1 (by omega) (by omega) rfl rfl

def rmX7_orders : Room := { frames := 3, cells := 0, slots := 0, locals := 74 }
theorem hin_X7_orders_7 : ∀ w ∈ wsX70, w ∈ wsX7_orders := fun _ h => List.mem_cons_of_mem _ (List.mem_append_right _ h)
set_option maxHeartbeats 4000000 in
set_option maxRecDepth 100000 in
theorem c_X7_orders (l : Launch) (D : va_G) (b : Nat → Nat) (c : Nat → ClassId) (S J : St) (hV : V S)  (x : Int32) (y : Int32) (z : Int32) : Ci l yX7_orders wsX7_orders rmX7_orders D (tyW c) [.ref (b 0), .int x, .int y, .int z] (wM b c S J) (fun r (J1 : St) => mPost (thr (inB x 0 ((S 3 0 : Nat) - 1) && inB y 0 15) (inB z 1 10) (true)) (nI (ordN S (tn x) (tn y) (tn z))) r J1) (fun J1 => wM b c S J1) := by
  refine Ci.of (lv0 := [(0, .ref (b 0)), (1, .int x), (2, .int y), (3, .int z)]) (by decide +kernel) rfl (Nat.le_of_ble_eq_true rfl) rfl (fun G K hret => ?_)
  have hdk := V_decks hV
  have HM29 : G 0 0 (wM b c S J) [(0, .ref (b 0)), (1, .int x), (2, .int y), (3, .int z)] 29 [.int (nI 1), .int (nI ((inB z 1 10).toNat)), .int (nI ((inB x 0 ((S 3 0 : Nat) - 1) && inB y 0 15).toNat)), .ref (b 0)] := by
    refine r_callVs (rest := []) K (c_X7_goes l D b c S J (inB x 0 ((S 3 0 : Nat) - 1) && inB y 0 15) (inB z 1 10) true) 3 gX7_orders_X7_goes rfl (by decide +kernel) rfl (by decide) 0 (wM_g0 _ _ _ _) rfl rfl (Nat.le_of_ble_eq_true rfl) dX7_orders_29 rfl rfl ?_
    refine r_if_eqB K 45 dX7_orders_32 (by decide) (fun h1 => ?_) (fun h1 => ?_)
    ·
      refine r_iconst K (nI 0) dX7_orders_45 (by decide) ?_
      exact hret 0 0 _ _ _ _ _ dX7_orders_46 ⟨up_same, fun q => absurd q (of_decide_eq_false h1)⟩ rfl (Nat.le_of_ble_eq_true rfl) (Nat.le_of_ble_eq_true rfl)
    ·
      have hth := of_decide_eq_true h1
      obtain ⟨hb1, hb2, hb3⟩ := thr_eq0 hth
      obtain ⟨hs2, hs3⟩ := Bool.and_eq_true_iff.mp hb1
      obtain ⟨xk, hxka, hxkb, hexk, hxkc⟩ := inB_ex (by decide) hs2
      subst hexk
      obtain ⟨yk, hyka, hykb, heyk, hykc⟩ := inB_ex (by decide) hs3
      subst heyk
      obtain ⟨zk, hzka, hzkb, hezk, hzkc⟩ := inB_ex (by decide) hb2
      subst hezk
      refine r_aload_n K dX7_orders_35 rfl ?_
      refine r_iload_n K dX7_orders_36 rfl ?_
      refine r_iload_n K dX7_orders_37 rfl ?_
      refine r_iload_n K dX7_orders_38 rfl ?_
      refine r_callVs (rest := []) K (c_X7_ordersOf l D b c S (up J 0 0 (thr (inB (nI xk) 0 ((S 3 0 : Nat) - 1) && inB (nI yk) 0 15) (inB (nI zk) 1 10) true)) hV xk yk zk (by omega) (by omega) (by omega)) 3 gX7_orders_X7_ordersOf rfl (by decide +kernel) rfl (by decide) 0 (wM_g0 _ _ _ _) rfl rfl (Nat.le_of_ble_eq_true rfl) dX7_orders_39 rfl rfl ?_
      refine r_goto K 46 dX7_orders_42 (by decide) ?_
      exact hret 0 0 _ _ _ _ _ dX7_orders_46 ⟨up_same, fun _ => by rw [tn_nI hxkc, tn_nI hykc, tn_nI hzkc]⟩ rfl (Nat.le_of_ble_eq_true rfl) (Nat.le_of_ble_eq_true rfl)
  refine r_aload_n K dX7_orders_0 rfl ?_
  refine r_aload_n K dX7_orders_1 rfl ?_
  refine r_iload_n K dX7_orders_2 rfl ?_
  refine r_callVs (rest := [.ref (b 0)]) K (c_X7_isDeck l D b c S J hV (x)) 1 gX7_orders_X7_isDeck rfl (by decide +kernel) rfl (by decide) 0 (wM_g0 _ _ _ _) rfl rfl (Nat.le_of_ble_eq_true rfl) dX7_orders_3 rfl rfl ?_
  refine r_if_eqB K 20 dX7_orders_6 (by decide) (fun h4 => ?_) (fun h4 => ?_)
  ·
    refine r_iconst K (nI 0) dX7_orders_20 (by decide) ?_
    refine r_iload_n K dX7_orders_21 rfl ?_
    refine r_iconst K (nI 1) dX7_orders_22 (by decide) ?_
    refine r_bipush K (nI 10) dX7_orders_23 (by decide) ?_
    refine r_callSs (rest := [.int (nI 0), .ref (b 0)]) K (c_X7_in l D b c S J (z) (nI 1) (nI 10)) 3 gX7_orders_X7_in rfl (by decide +kernel) rfl (by decide) rfl (Nat.le_of_ble_eq_true rfl) dX7_orders_25 rfl rfl ?_
    refine r_top (congrArg (fun b : Bool => nI b.toNat) (show inI z (nI 1) (nI 10) = inB z 1 10 from inI_nn (by decide) (by decide))) ?_
    refine r_iconst K (nI 1) dX7_orders_28 (by decide) ?_
    refine r_st (st' := [.int (nI 1), .int (nI ((inB z 1 10).toNat)), .int (nI ((inB x 0 ((S 3 0 : Nat) - 1) && inB y 0 15).toNat)), .ref (b 0)]) (by simp [h4]) ?_
    exact HM29
  ·
    refine r_iload_n K dX7_orders_9 rfl ?_
    refine r_callSs (rest := [.ref (b 0)]) K (c_X7_isKind l D b c S J (y)) 1 gX7_orders_X7_isKind rfl (by decide +kernel) rfl (by decide) rfl (Nat.le_of_ble_eq_true rfl) dX7_orders_10 rfl rfl ?_
    refine r_if_eqB K 20 dX7_orders_13 (by decide) (fun h5 => ?_) (fun h5 => ?_)
    ·
      refine r_iconst K (nI 0) dX7_orders_20 (by decide) ?_
      refine r_iload_n K dX7_orders_21 rfl ?_
      refine r_iconst K (nI 1) dX7_orders_22 (by decide) ?_
      refine r_bipush K (nI 10) dX7_orders_23 (by decide) ?_
      refine r_callSs (rest := [.int (nI 0), .ref (b 0)]) K (c_X7_in l D b c S J (z) (nI 1) (nI 10)) 3 gX7_orders_X7_in rfl (by decide +kernel) rfl (by decide) rfl (Nat.le_of_ble_eq_true rfl) dX7_orders_25 rfl rfl ?_
      refine r_top (congrArg (fun b : Bool => nI b.toNat) (show inI z (nI 1) (nI 10) = inB z 1 10 from inI_nn (by decide) (by decide))) ?_
      refine r_iconst K (nI 1) dX7_orders_28 (by decide) ?_
      refine r_st (st' := [.int (nI 1), .int (nI ((inB z 1 10).toNat)), .int (nI ((inB x 0 ((S 3 0 : Nat) - 1) && inB y 0 15).toNat)), .ref (b 0)]) (by simp [h4, h5]) ?_
      exact HM29
    ·
      refine r_iconst K (nI 1) dX7_orders_16 (by decide) ?_
      refine r_goto K 21 dX7_orders_17 (by decide) ?_
      refine r_iload_n K dX7_orders_21 rfl ?_
      refine r_iconst K (nI 1) dX7_orders_22 (by decide) ?_
      refine r_bipush K (nI 10) dX7_orders_23 (by decide) ?_
      refine r_callSs (rest := [.int (nI 1), .ref (b 0)]) K (c_X7_in l D b c S J (z) (nI 1) (nI 10)) 3 gX7_orders_X7_in rfl (by decide +kernel) rfl (by decide) rfl (Nat.le_of_ble_eq_true rfl) dX7_orders_25 rfl rfl ?_
      refine r_top (congrArg (fun b : Bool => nI b.toNat) (show inI z (nI 1) (nI 10) = inB z 1 10 from inI_nn (by decide) (by decide))) ?_
      refine r_iconst K (nI 1) dX7_orders_28 (by decide) ?_
      refine r_st (st' := [.int (nI 1), .int (nI ((inB z 1 10).toNat)), .int (nI ((inB x 0 ((S 3 0 : Nat) - 1) && inB y 0 15).toNat)), .ref (b 0)]) (by simp [h4, h5]) ?_
      exact HM29

def rmX7_ordersByAll : Room := { frames := 3, cells := 0, slots := 0, locals := 74 }
theorem hin_X7_ordersByAll_7 : ∀ w ∈ wsX70, w ∈ wsX7_ordersByAll := fun _ h => List.mem_cons_of_mem _ (List.mem_append_right _ h)
set_option maxHeartbeats 4000000 in
set_option maxRecDepth 100000 in
theorem c_X7_ordersByAll (l : Launch) (D : va_G) (b : Nat → Nat) (c : Nat → ClassId) (S J : St) (hV : V S)  (x : Int32) (y : Int32) (z : Int32) : Ci l yX7_ordersByAll wsX7_ordersByAll rmX7_ordersByAll D (tyW c) [.ref (b 0), .int x, .int y, .int z] (wM b c S J) (fun r (J1 : St) => mPost (thr (inB x 0 ((S 3 0 : Nat) - 1) && inB y 0 15) (inB z 1 10) ((inB x 0 ((S 3 0 : Nat) - 1) && inB y 0 15) && decide (S 19 (tn x) ≤ 7))) (nI (ordN S (tn x) (tn y) (tn z))) r J1) (fun J1 => wM b c S J1) := by
  refine Ci.of (lv0 := [(0, .ref (b 0)), (1, .int x), (2, .int y), (3, .int z)]) (by decide +kernel) rfl (Nat.le_of_ble_eq_true rfl) rfl (fun G K hret => ?_)
  have hdk := V_decks hV
  have HM53 : G 0 0 (wM b c S J) [(0, .ref (b 0)), (1, .int x), (2, .int y), (3, .int z), (4, .int (nI ((inB x 0 ((S 3 0 : Nat) - 1) && inB y 0 15).toNat)))] 53 [.int (nI (((inB x 0 ((S 3 0 : Nat) - 1) && inB y 0 15) && decide (S 19 (tn x) ≤ 7)).toNat)), .int (nI ((inB z 1 10).toNat)), .int (nI ((inB x 0 ((S 3 0 : Nat) - 1) && inB y 0 15).toNat)), .ref (b 0)] := by
    refine r_callVs (rest := []) K (c_X7_goes l D b c S J (inB x 0 ((S 3 0 : Nat) - 1) && inB y 0 15) (inB z 1 10) ((inB x 0 ((S 3 0 : Nat) - 1) && inB y 0 15) && decide (S 19 (tn x) ≤ 7))) 3 gX7_ordersByAll_X7_goes rfl (by decide +kernel) rfl (by decide) 0 (wM_g0 _ _ _ _) rfl rfl (Nat.le_of_ble_eq_true rfl) dX7_ordersByAll_53 rfl rfl ?_
    refine r_if_eqB K 69 dX7_ordersByAll_56 (by decide) (fun h1 => ?_) (fun h1 => ?_)
    ·
      refine r_iconst K (nI 0) dX7_ordersByAll_69 (by decide) ?_
      exact hret 0 0 _ _ _ _ _ dX7_ordersByAll_70 ⟨up_same, fun q => absurd q (of_decide_eq_false h1)⟩ rfl (Nat.le_of_ble_eq_true rfl) (Nat.le_of_ble_eq_true rfl)
    ·
      have hth := of_decide_eq_true h1
      obtain ⟨hb1, hb2, hb3⟩ := thr_eq0 hth
      obtain ⟨hs2, hs3⟩ := Bool.and_eq_true_iff.mp hb1
      obtain ⟨xk, hxka, hxkb, hexk, hxkc⟩ := inB_ex (by decide) hs2
      subst hexk
      obtain ⟨yk, hyka, hykb, heyk, hykc⟩ := inB_ex (by decide) hs3
      subst heyk
      obtain ⟨zk, hzka, hzkb, hezk, hzkc⟩ := inB_ex (by decide) hb2
      subst hezk
      obtain ⟨hs4, hs5⟩ := Bool.and_eq_true_iff.mp hb3
      obtain ⟨hs6, hs7⟩ := Bool.and_eq_true_iff.mp hs4
      have hs5 := of_decide_eq_true hs5
      simp only [tn_nI hxkc, tn_nI hykc, tn_nI hzkc] at hs5
      refine r_aload_n K dX7_ordersByAll_59 rfl ?_
      refine r_iload_n K dX7_ordersByAll_60 rfl ?_
      refine r_iload_n K dX7_ordersByAll_61 rfl ?_
      refine r_iload_n K dX7_ordersByAll_62 rfl ?_
      refine r_callVs (rest := []) K (c_X7_ordersOf l D b c S (up J 0 0 (thr (inB (nI xk) 0 ((S 3 0 : Nat) - 1) && inB (nI yk) 0 15) (inB (nI zk) 1 10) ((inB (nI xk) 0 ((S 3 0 : Nat) - 1) && inB (nI yk) 0 15) && decide (S 19 (tn (nI xk)) ≤ 7)))) hV xk yk zk (by omega) (by omega) (by omega)) 3 gX7_ordersByAll_X7_ordersOf rfl (by decide +kernel) rfl (by decide) 0 (wM_g0 _ _ _ _) rfl rfl (Nat.le_of_ble_eq_true rfl) dX7_ordersByAll_63 rfl rfl ?_
      refine r_goto K 70 dX7_ordersByAll_66 (by decide) ?_
      exact hret 0 0 _ _ _ _ _ dX7_ordersByAll_70 ⟨up_same, fun _ => by rw [tn_nI hxkc, tn_nI hykc, tn_nI hzkc]⟩ rfl (Nat.le_of_ble_eq_true rfl) (Nat.le_of_ble_eq_true rfl)
  have HM20 : G 0 0 (wM b c S J) [(0, .ref (b 0)), (1, .int x), (2, .int y), (3, .int z)] 20 [.int (nI ((inB x 0 ((S 3 0 : Nat) - 1) && inB y 0 15).toNat))] := by
    refine r_istore (lv' := [(0, .ref (b 0)), (1, .int x), (2, .int y), (3, .int z), (4, .int (nI ((inB x 0 ((S 3 0 : Nat) - 1) && inB y 0 15).toNat)))]) K dX7_ordersByAll_20 (by decide) rfl ?_
    refine r_aload_n K dX7_ordersByAll_22 rfl ?_
    refine r_iload K dX7_ordersByAll_23 rfl ?_
    refine r_iload_n K dX7_ordersByAll_25 rfl ?_
    refine r_iconst K (nI 1) dX7_ordersByAll_26 (by decide) ?_
    refine r_bipush K (nI 10) dX7_ordersByAll_27 (by decide) ?_
    refine r_callSs (rest := [.int (nI ((inB x 0 ((S 3 0 : Nat) - 1) && inB y 0 15).toNat)), .ref (b 0)]) K (c_X7_in l D b c S J (z) (nI 1) (nI 10)) 3 gX7_ordersByAll_X7_in rfl (by decide +kernel) rfl (by decide) rfl (Nat.le_of_ble_eq_true rfl) dX7_ordersByAll_29 rfl rfl ?_
    refine r_top (congrArg (fun b : Bool => nI b.toNat) (show inI z (nI 1) (nI 10) = inB z 1 10 from inI_nn (by decide) (by decide))) ?_
    refine r_iload K dX7_ordersByAll_32 rfl ?_
    refine r_if_eqB K 52 dX7_ordersByAll_34 (by decide) (fun h8 => ?_) (fun h8 => ?_)
    ·
      refine r_iconst K (nI 0) dX7_ordersByAll_52 (by decide) ?_
      refine r_st (st' := [.int (nI (((inB x 0 ((S 3 0 : Nat) - 1) && inB y 0 15) && decide (S 19 (tn x) ≤ 7)).toNat)), .int (nI ((inB z 1 10).toNat)), .int (nI ((inB x 0 ((S 3 0 : Nat) - 1) && inB y 0 15).toNat)), .ref (b 0)]) (by simp [h8]) ?_
      exact HM53
    ·
      obtain ⟨hs9, hs10⟩ := Bool.and_eq_true_iff.mp h8
      obtain ⟨xk, hxka, hxkb, hexk, hxkc⟩ := inB_ex (by decide) hs9
      subst hexk
      obtain ⟨yk, hyka, hykb, heyk, hykc⟩ := inB_ex (by decide) hs10
      subst heyk
      refine r_aload_n K dX7_ordersByAll_37 rfl ?_
      refine r_get K hin_X7_ordersByAll_7 0 (wM_g0 _ _ _ _) rfl 13 (by decide) (List.mem_of_getElem? (i := 1) rfl) rfl dX7_ordersByAll_38 ?_
      refine r_iload_n K dX7_ordersByAll_41 rfl ?_
      refine r_iald K 10 0 (wM_g10 _ _ _ _) rfl (by omega) (by decide) dX7_ordersByAll_42 ?_
      have hf11 := V_size hV xk
      refine r_bipush K (nI 7) dX7_ordersByAll_43 (by decide) ?_
      refine r_ic_gt K 52 dX7_ordersByAll_45 (by decide) (by omega) (by decide) (fun h12 => ?_) (fun h12 => ?_)
      ·
        refine r_iconst K (nI 0) dX7_ordersByAll_52 (by decide) ?_
        refine r_st (st' := [.int (nI (((inB (nI xk) 0 ((S 3 0 : Nat) - 1) && inB (nI yk) 0 15) && decide (S 19 (tn (nI xk)) ≤ 7)).toNat)), .int (nI ((inB z 1 10).toNat)), .int (nI ((inB (nI xk) 0 ((S 3 0 : Nat) - 1) && inB (nI yk) 0 15).toNat)), .ref (b 0)]) (by simp [h8, h12, Nat.not_le.mpr h12, tn_nI hxkc, tn_nI hykc]) ?_
        exact HM53
      ·
        refine r_iconst K (nI 1) dX7_ordersByAll_48 (by decide) ?_
        refine r_goto K 53 dX7_ordersByAll_49 (by decide) ?_
        refine r_st (st' := [.int (nI (((inB (nI xk) 0 ((S 3 0 : Nat) - 1) && inB (nI yk) 0 15) && decide (S 19 (tn (nI xk)) ≤ 7)).toNat)), .int (nI ((inB z 1 10).toNat)), .int (nI ((inB (nI xk) 0 ((S 3 0 : Nat) - 1) && inB (nI yk) 0 15).toNat)), .ref (b 0)]) (by simp [h8, h12, Nat.not_lt.mpr h12, tn_nI hxkc, tn_nI hykc]) ?_
        exact HM53
  refine r_aload_n K dX7_ordersByAll_0 rfl ?_
  refine r_iload_n K dX7_ordersByAll_1 rfl ?_
  refine r_callVs (rest := []) K (c_X7_isDeck l D b c S J hV (x)) 1 gX7_ordersByAll_X7_isDeck rfl (by decide +kernel) rfl (by decide) 0 (wM_g0 _ _ _ _) rfl rfl (Nat.le_of_ble_eq_true rfl) dX7_ordersByAll_2 rfl rfl ?_
  refine r_if_eqB K 19 dX7_ordersByAll_5 (by decide) (fun h13 => ?_) (fun h13 => ?_)
  ·
    refine r_iconst K (nI 0) dX7_ordersByAll_19 (by decide) ?_
    refine r_st (st' := [.int (nI ((inB x 0 ((S 3 0 : Nat) - 1) && inB y 0 15).toNat))]) (by simp [h13]) ?_
    exact HM20
  ·
    refine r_iload_n K dX7_ordersByAll_8 rfl ?_
    refine r_callSs (rest := []) K (c_X7_isKind l D b c S J (y)) 1 gX7_ordersByAll_X7_isKind rfl (by decide +kernel) rfl (by decide) rfl (Nat.le_of_ble_eq_true rfl) dX7_ordersByAll_9 rfl rfl ?_
    refine r_if_eqB K 19 dX7_ordersByAll_12 (by decide) (fun h14 => ?_) (fun h14 => ?_)
    ·
      refine r_iconst K (nI 0) dX7_ordersByAll_19 (by decide) ?_
      refine r_st (st' := [.int (nI ((inB x 0 ((S 3 0 : Nat) - 1) && inB y 0 15).toNat))]) (by simp [h13, h14]) ?_
      exact HM20
    ·
      refine r_iconst K (nI 1) dX7_ordersByAll_15 (by decide) ?_
      refine r_goto K 20 dX7_ordersByAll_16 (by decide) ?_
      refine r_st (st' := [.int (nI ((inB x 0 ((S 3 0 : Nat) - 1) && inB y 0 15).toNat))]) (by simp [h13, h14]) ?_
      exact HM20
