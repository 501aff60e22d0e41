def rmX7_setKind : Room := { frames := 2, cells := 0, slots := 0, locals := 42 }
theorem hin_X7_setKind_7 : ∀ w ∈ wsX70, w ∈ wsX7_setKind := fun _ h => List.mem_cons_of_mem _ (List.mem_append_right _ h)
set_option maxHeartbeats 4000000 in
set_option maxRecDepth 100000 in
theorem c_X7_setKind (l : Launch) (D : va_G) (b : Nat → Nat) (c : Nat → ClassId) (S J : St) (hV : V S)  (x : Int32) (y : Int32) (z : Int32) : Ci l yX7_setKind wsX7_setKind rmX7_setKind D (tyW c) [.ref (b 0), .int x, .int y, .int z] (wM b c S J) (fun r (J1 : St) => mPost (thr (inB x 0 15) (inB y 0 9 && inB z 0 3) (true)) (nI (S 10 (tn x))) r J1) (fun J1 => wM b c (if thr (inB x 0 15) (inB y 0 9 && inB z 0 3) (true) = 0 then up (up S 10 (tn x) (tn y)) 11 (tn x) (tn z) else S) J1) := by
  refine Ci.of (lv0 := [(0, .ref (b 0)), (1, .int x), (2, .int y), (3, .int z)]) (by decide +kernel) rfl (Nat.le_of_ble_eq_true rfl) rfl (fun G K hret => ?_)
  have HM30 : G 0 0 (wM b c S J) [(0, .ref (b 0)), (1, .int x), (2, .int y), (3, .int z)] 30 [.int (nI 1), .int (nI ((inB y 0 9 && inB z 0 3).toNat)), .int (nI ((inB x 0 15).toNat)), .ref (b 0)] := by
    refine r_callVs (rest := []) K (c_X7_goes l D b c S J (inB x 0 15) (inB y 0 9 && inB z 0 3) true) 3 gX7_setKind_X7_goes rfl (by decide +kernel) rfl (by decide) 0 (wM_g0 _ _ _ _) rfl rfl (Nat.le_of_ble_eq_true rfl) dX7_setKind_30 rfl rfl ?_
    refine r_if_neB K 38 dX7_setKind_33 (by decide) (fun h1 => ?_) (fun h1 => ?_)
    ·
      have hth := of_decide_eq_true h1
      obtain ⟨hb1, hb2, hb3⟩ := thr_eq0 hth
      obtain ⟨xk, hxka, hxkb, hexk, hxkc⟩ := inB_ex (by decide) hb1
      subst hexk
      obtain ⟨hs2, hs3⟩ := Bool.and_eq_true_iff.mp hb2
      obtain ⟨yk, hyka, hykb, heyk, hykc⟩ := inB_ex (by decide) hs2
      subst heyk
      obtain ⟨zk, hzka, hzkb, hezk, hzkc⟩ := inB_ex (by decide) hs3
      subst hezk
      refine r_aload_n K dX7_setKind_38 rfl ?_
      refine r_get K hin_X7_setKind_7 0 (wM_g0 _ _ _ _) rfl 0 (by decide) (List.mem_of_getElem? (i := 1) rfl) rfl dX7_setKind_39 ?_
      refine r_iload_n K dX7_setKind_42 rfl ?_
      refine r_iald K 1 0 (wM_g1 _ _ _ _) rfl (by omega) (by decide) dX7_setKind_43 ?_
      have hf4 := V_b hV 10 xk
      refine r_istore (lv' := [(0, .ref (b 0)), (1, .int (nI xk)), (2, .int (nI yk)), (3, .int (nI zk)), (4, .int (nI (S 10 xk)))]) K dX7_setKind_44 (by decide) rfl ?_
      refine r_aload_n K dX7_setKind_46 rfl ?_
      refine r_get K hin_X7_setKind_7 0 (wM_g0 _ _ _ _) rfl 0 (by decide) (List.mem_of_getElem? (i := 1) rfl) rfl dX7_setKind_47 ?_
      refine r_iload_n K dX7_setKind_50 rfl ?_
      refine r_iload_n K dX7_setKind_51 rfl ?_
      refine r_iast K 1 0 (wM_g1 _ _ _ _) rfl (by omega) (by decide) dX7_setKind_52 (wM_s1 _ _ _ _ _ _) ?_
      refine r_aload_n K dX7_setKind_53 rfl ?_
      refine r_get K hin_X7_setKind_7 0 (wM_g0 _ _ _ _) rfl 1 (by decide) (List.mem_of_getElem? (i := 2) rfl) rfl dX7_setKind_54 ?_
      refine r_iload_n K dX7_setKind_57 rfl ?_
      refine r_iload_n K dX7_setKind_58 rfl ?_
      refine r_iast K 2 0 (wM_g2 _ _ _ _) rfl (by omega) (by decide) dX7_setKind_59 (wM_s2 _ _ _ _ _ _) ?_
      refine r_iload K dX7_setKind_60 rfl ?_
      exact hret 0 0 _ _ _ _ _ dX7_setKind_62 ⟨up_same, fun _ => by rw [tn_nI hxkc]⟩ (by rw [if_pos hth, tn_nI hxkc, tn_nI hykc, tn_nI hzkc]) (Nat.le_of_ble_eq_true rfl) (Nat.le_of_ble_eq_true rfl)
    ·
      refine r_iconst K (nI 0) dX7_setKind_36 (by decide) ?_
      exact hret 0 0 _ _ _ _ _ dX7_setKind_37 ⟨up_same, fun q => absurd q (of_decide_eq_false h1)⟩ (by rw [if_neg (of_decide_eq_false h1)]) (Nat.le_of_ble_eq_true rfl) (Nat.le_of_ble_eq_true rfl)
  refine r_aload_n K dX7_setKind_0 rfl ?_
  refine r_iload_n K dX7_setKind_1 rfl ?_
  refine r_callSs (rest := [.ref (b 0)]) K (c_X7_isKind l D b c S J (x)) 1 gX7_setKind_X7_isKind rfl (by decide +kernel) rfl (by decide) rfl (Nat.le_of_ble_eq_true rfl) dX7_setKind_2 rfl rfl ?_
  refine r_iload_n K dX7_setKind_5 rfl ?_
  refine r_iconst K (nI 0) dX7_setKind_6 (by decide) ?_
  refine r_bipush K (nI 9) dX7_setKind_7 (by decide) ?_
  refine r_callSs (rest := [.int (nI ((inB x 0 15).toNat)), .ref (b 0)]) K (c_X7_in l D b c S J (y) (nI 0) (nI 9)) 3 gX7_setKind_X7_in rfl (by decide +kernel) rfl (by decide) rfl (Nat.le_of_ble_eq_true rfl) dX7_setKind_9 rfl rfl ?_
  refine r_top (congrArg (fun b : Bool => nI b.toNat) (show inI y (nI 0) (nI 9) = inB y 0 9 from inI_nn (by decide) (by decide))) ?_
  refine r_if_eqB K 28 dX7_setKind_12 (by decide) (fun h5 => ?_) (fun h5 => ?_)
  ·
    refine r_iconst K (nI 0) dX7_setKind_28 (by decide) ?_
    refine r_iconst K (nI 1) dX7_setKind_29 (by decide) ?_
    refine r_st (st' := [.int (nI 1), .int (nI ((inB y 0 9 && inB z 0 3).toNat)), .int (nI ((inB x 0 15).toNat)), .ref (b 0)]) (by simp [h5]) ?_
    exact HM30
  ·
    refine r_iload_n K dX7_setKind_15 rfl ?_
    refine r_iconst K (nI 0) dX7_setKind_16 (by decide) ?_
    refine r_iconst K (nI 3) dX7_setKind_17 (by decide) ?_
    refine r_callSs (rest := [.int (nI ((inB x 0 15).toNat)), .ref (b 0)]) K (c_X7_in l D b c S J (z) (nI 0) (nI 3)) 3 gX7_setKind_X7_in rfl (by decide +kernel) rfl (by decide) rfl (Nat.le_of_ble_eq_true rfl) dX7_setKind_18 rfl rfl ?_
    refine r_top (congrArg (fun b : Bool => nI b.toNat) (show inI z (nI 0) (nI 3) = inB z 0 3 from inI_nn (by decide) (by decide))) ?_
    refine r_if_eqB K 28 dX7_setKind_21 (by decide) (fun h6 => ?_) (fun h6 => ?_)
    ·
      refine r_iconst K (nI 0) dX7_setKind_28 (by decide) ?_
      refine r_iconst K (nI 1) dX7_setKind_29 (by decide) ?_
      refine r_st (st' := [.int (nI 1), .int (nI ((inB y 0 9 && inB z 0 3).toNat)), .int (nI ((inB x 0 15).toNat)), .ref (b 0)]) (by simp [h5, h6]) ?_
      exact HM30
    ·
      refine r_iconst K (nI 1) dX7_setKind_24 (by decide) ?_
      refine r_goto K 29 dX7_setKind_25 (by decide) ?_
      refine r_iconst K (nI 1) dX7_setKind_29 (by decide) ?_
      refine r_st (st' := [.int (nI 1), .int (nI ((inB y 0 9 && inB z 0 3).toNat)), .int (nI ((inB x 0 15).toNat)), .ref (b 0)]) (by simp [h5, h6]) ?_
      exact HM30

def rmX7_setFormat : Room := { frames := 4, cells := 0, slots := 0, locals := 92 }
theorem hin_X7_setFormat_7 : ∀ w ∈ wsX70, w ∈ wsX7_setFormat := fun _ h => List.mem_cons_of_mem _ (List.mem_append_right _ h)
set_option maxHeartbeats 4000000 in
set_option maxRecDepth 100000 in
theorem c_X7_setFormat (l : Launch) (D : va_G) (b : Nat → Nat) (c : Nat → ClassId) (S J : St) (hV : V S)  (x : Int32) (y : Int32) : Ci l yX7_setFormat wsX7_setFormat rmX7_setFormat D (tyW c) [.ref (b 0), .int x, .int y] (wM b c S J) (fun r (J1 : St) => mPost (thr (inB x 4 10 && inB y 1 4) (true) (true)) (nI (nAlw (up (up S 3 1 (tn x)) 3 2 (tn y)))) r J1) (fun J1 => wM b c (if thr (inB x 4 10 && inB y 1 4) (true) (true) = 0 then up (up S 3 1 (tn x)) 3 2 (tn y) else S) J1) := by
  refine Ci.of (lv0 := [(0, .ref (b 0)), (1, .int x), (2, .int y)]) (by decide +kernel) rfl (Nat.le_of_ble_eq_true rfl) rfl (fun G K hret => ?_)
  have HM27 : G 0 0 (wM b c S J) [(0, .ref (b 0)), (1, .int x), (2, .int y)] 27 [.int (nI 1), .int (nI 1), .int (nI ((inB x 4 10 && inB y 1 4).toNat)), .ref (b 0)] := by
    refine r_callVs (rest := []) K (c_X7_goes l D b c S J (inB x 4 10 && inB y 1 4) true true) 3 gX7_setFormat_X7_goes rfl (by decide +kernel) rfl (by decide) 0 (wM_g0 _ _ _ _) rfl rfl (Nat.le_of_ble_eq_true rfl) dX7_setFormat_27 rfl rfl ?_
    refine r_if_neB K 35 dX7_setFormat_30 (by decide) (fun h1 => ?_) (fun h1 => ?_)
    ·
      have hth := of_decide_eq_true h1
      obtain ⟨hb1, hb2, hb3⟩ := thr_eq0 hth
      obtain ⟨hs2, hs3⟩ := Bool.and_eq_true_iff.mp hb1
      obtain ⟨xk, hxka, hxkb, hexk, hxkc⟩ := inB_ex (by decide) hs2
      subst hexk
      obtain ⟨yk, hyka, hykb, heyk, hykc⟩ := inB_ex (by decide) hs3
      subst heyk
      refine r_aload_n K dX7_setFormat_35 rfl ?_
      refine r_iload_n K dX7_setFormat_36 rfl ?_
      refine r_put K hin_X7_setFormat_7 tyX7 tyX7_ok nmX7 0 (wM_g0 _ _ _ _) rfl 5 (by decide) (List.mem_of_getElem? (i := 1) rfl) rfl rfl rfl (Nat.le_of_ble_eq_true rfl) dX7_setFormat_37 (wM_s0_5 _ _ _ _ _) ?_
      refine r_aload_n K dX7_setFormat_40 rfl ?_
      refine r_iload_n K dX7_setFormat_41 rfl ?_
      refine r_put K hin_X7_setFormat_7 tyX7 tyX7_ok nmX7 0 (wM_g0 _ _ _ _) rfl 6 (by decide) (List.mem_of_getElem? (i := 2) rfl) rfl rfl rfl (Nat.le_of_ble_eq_true rfl) dX7_setFormat_42 (wM_s0_6 _ _ _ _ _) ?_
      refine r_aload_n K dX7_setFormat_45 rfl ?_
      refine r_callVs (rest := []) K (c_X7_manyAllowed l D b c (up (up S 3 1 xk) 3 2 yk) (up J 0 0 (thr (inB (nI xk) 4 10 && inB (nI yk) 1 4) true true)) (V_fmt hV (by omega) (by omega) (by omega))) 0 gX7_setFormat_X7_manyAllowed rfl (by decide +kernel) rfl (by decide) 0 (wM_g0 _ _ _ _) rfl rfl (Nat.le_of_ble_eq_true rfl) dX7_setFormat_46 rfl rfl ?_
      exact hret 0 0 _ _ _ _ _ dX7_setFormat_49 ⟨up_same, fun _ => by rw [tn_nI hxkc, tn_nI hykc]⟩ (by rw [if_pos hth, tn_nI hxkc, tn_nI hykc]) (Nat.le_of_ble_eq_true rfl) (Nat.le_of_ble_eq_true rfl)
    ·
      refine r_iconst K (nI 0) dX7_setFormat_33 (by decide) ?_
      exact hret 0 0 _ _ _ _ _ dX7_setFormat_34 ⟨up_same, fun q => absurd q (of_decide_eq_false h1)⟩ (by rw [if_neg (of_decide_eq_false h1)]) (Nat.le_of_ble_eq_true rfl) (Nat.le_of_ble_eq_true rfl)
  refine r_aload_n K dX7_setFormat_0 rfl ?_
  refine r_iload_n K dX7_setFormat_1 rfl ?_
  refine r_iconst K (nI 4) dX7_setFormat_2 (by decide) ?_
  refine r_bipush K (nI 10) dX7_setFormat_3 (by decide) ?_
  refine r_callSs (rest := [.ref (b 0)]) K (c_X7_in l D b c S J (x) (nI 4) (nI 10)) 3 gX7_setFormat_X7_in rfl (by decide +kernel) rfl (by decide) rfl (Nat.le_of_ble_eq_true rfl) dX7_setFormat_5 rfl rfl ?_
  refine r_top (congrArg (fun b : Bool => nI b.toNat) (show inI x (nI 4) (nI 10) = inB x 4 10 from inI_nn (by decide) (by decide))) ?_
  refine r_if_eqB K 24 dX7_setFormat_8 (by decide) (fun h4 => ?_) (fun h4 => ?_)
  ·
    refine r_iconst K (nI 0) dX7_setFormat_24 (by decide) ?_
    refine r_iconst K (nI 1) dX7_setFormat_25 (by decide) ?_
    refine r_iconst K (nI 1) dX7_setFormat_26 (by decide) ?_
    refine r_st (st' := [.int (nI 1), .int (nI 1), .int (nI ((inB x 4 10 && inB y 1 4).toNat)), .ref (b 0)]) (by simp [h4]) ?_
    exact HM27
  ·
    refine r_iload_n K dX7_setFormat_11 rfl ?_
    refine r_iconst K (nI 1) dX7_setFormat_12 (by decide) ?_
    refine r_iconst K (nI 4) dX7_setFormat_13 (by decide) ?_
    refine r_callSs (rest := [.ref (b 0)]) K (c_X7_in l D b c S J (y) (nI 1) (nI 4)) 3 gX7_setFormat_X7_in rfl (by decide +kernel) rfl (by decide) rfl (Nat.le_of_ble_eq_true rfl) dX7_setFormat_14 rfl rfl ?_
    refine r_top (congrArg (fun b : Bool => nI b.toNat) (show inI y (nI 1) (nI 4) = inB y 1 4 from inI_nn (by decide) (by decide))) ?_
    refine r_if_eqB K 24 dX7_setFormat_17 (by decide) (fun h5 => ?_) (fun h5 => ?_)
    ·
      refine r_iconst K (nI 0) dX7_setFormat_24 (by decide) ?_
      refine r_iconst K (nI 1) dX7_setFormat_25 (by decide) ?_
      refine r_iconst K (nI 1) dX7_setFormat_26 (by decide) ?_
      refine r_st (st' := [.int (nI 1), .int (nI 1), .int (nI ((inB x 4 10 && inB y 1 4).toNat)), .ref (b 0)]) (by simp [h4, h5]) ?_
      exact HM27
    ·
      refine r_iconst K (nI 1) dX7_setFormat_20 (by decide) ?_
      refine r_goto K 25 dX7_setFormat_21 (by decide) ?_
      refine r_iconst K (nI 1) dX7_setFormat_25 (by decide) ?_
      refine r_iconst K (nI 1) dX7_setFormat_26 (by decide) ?_
      refine r_st (st' := [.int (nI 1), .int (nI 1), .int (nI ((inB x 4 10 && inB y 1 4).toNat)), .ref (b 0)]) (by simp [h4, h5]) ?_
      exact HM27

def rmX7_ban : Room := { frames := 4, cells := 0, slots := 0, locals := 92 }
theorem hin_X7_ban_7 : ∀ w ∈ wsX70, w ∈ wsX7_ban := fun _ h => List.mem_cons_of_mem _ (List.mem_append_right _ h)
set_option maxHeartbeats 4000000 in
set_option maxRecDepth 100000 in
theorem c_X7_ban (l : Launch) (D : va_G) (b : Nat → Nat) (c : Nat → ClassId) (S J : St) (hV : V S)  (x : Int32) (z : Bool) : Ci l yX7_ban wsX7_ban rmX7_ban D (tyW c) [.ref (b 0), .int x, .int (nI ((z).toNat))] (wM b c S J) (fun r (J1 : St) => mPost (thr (inB x 0 15) (true) (true)) (nI (nAlw (up S 12 (tn x) z.toNat))) r J1) (fun J1 => wM b c (if thr (inB x 0 15) (true) (true) = 0 then up S 12 (tn x) z.toNat else S) J1) := by
  refine Ci.of (lv0 := [(0, .ref (b 0)), (1, .int x), (2, .int (nI ((z).toNat)))]) (by decide +kernel) rfl (Nat.le_of_ble_eq_true rfl) rfl (fun G K hret => ?_)
  have hz2 := toNat_lt2 z
  have HM7 : G 0 0 (wM b c S J) [(0, .ref (b 0)), (1, .int x), (2, .int (nI ((z).toNat)))] 7 [.int (nI 1), .int (nI 1), .int (nI ((inB x 0 15).toNat)), .ref (b 0)] := by
    refine r_callVs (rest := []) K (c_X7_goes l D b c S J (inB x 0 15) true true) 3 gX7_ban_X7_goes rfl (by decide +kernel) rfl (by decide) 0 (wM_g0 _ _ _ _) rfl rfl (Nat.le_of_ble_eq_true rfl) dX7_ban_7 rfl rfl ?_
    refine r_if_neB K 15 dX7_ban_10 (by decide) (fun h1 => ?_) (fun h1 => ?_)
    ·
      have hth := of_decide_eq_true h1
      obtain ⟨hb1, hb2, hb3⟩ := thr_eq0 hth
      obtain ⟨xk, hxka, hxkb, hexk, hxkc⟩ := inB_ex (by decide) hb1
      subst hexk
      refine r_aload_n K dX7_ban_15 rfl ?_
      refine r_get K hin_X7_ban_7 0 (wM_g0 _ _ _ _) rfl 2 (by decide) (List.mem_of_getElem? (i := 1) rfl) rfl dX7_ban_16 ?_
      refine r_iload_n K dX7_ban_19 rfl ?_
      refine r_iload_n K dX7_ban_20 rfl ?_
      refine r_zast K 3 1 (wM_g3 _ _ _ _) rfl (by omega) (by decide) (by omega) dX7_ban_21 (wM_s3 _ _ _ _ _ _) ?_
      refine r_aload_n K dX7_ban_22 rfl ?_
      refine r_callVs (rest := []) K (c_X7_manyAllowed l D b c (up S 12 xk ((z).toNat)) (up J 0 0 (thr (inB (nI xk) 0 15) true true)) (V_up12 hV (toNat_lt2 z))) 0 gX7_ban_X7_manyAllowed rfl (by decide +kernel) rfl (by decide) 0 (wM_g0 _ _ _ _) rfl rfl (Nat.le_of_ble_eq_true rfl) dX7_ban_23 rfl rfl ?_
      exact hret 0 0 _ _ _ _ _ dX7_ban_26 ⟨up_same, fun _ => by rw [tn_nI hxkc]⟩ (by rw [if_pos hth, tn_nI hxkc]) (Nat.le_of_ble_eq_true rfl) (Nat.le_of_ble_eq_true rfl)
    ·
      refine r_iconst K (nI 0) dX7_ban_13 (by decide) ?_
      exact hret 0 0 _ _ _ _ _ dX7_ban_14 ⟨up_same, fun q => absurd q (of_decide_eq_false h1)⟩ (by rw [if_neg (of_decide_eq_false h1)]) (Nat.le_of_ble_eq_true rfl) (Nat.le_of_ble_eq_true rfl)
  refine r_aload_n K dX7_ban_0 rfl ?_
  refine r_iload_n K dX7_ban_1 rfl ?_
  refine r_callSs (rest := [.ref (b 0)]) K (c_X7_isKind l D b c S J (x)) 1 gX7_ban_X7_isKind rfl (by decide +kernel) rfl (by decide) rfl (Nat.le_of_ble_eq_true rfl) dX7_ban_2 rfl rfl ?_
  refine r_iconst K (nI 1) dX7_ban_5 (by decide) ?_
  refine r_iconst K (nI 1) dX7_ban_6 (by decide) ?_
  exact HM7

def rmX7_print : Room := { frames := 2, cells := 0, slots := 0, locals := 42 }
theorem hin_X7_print_7 : ∀ w ∈ wsX70, w ∈ wsX7_print := fun _ h => List.mem_cons_of_mem _ (List.mem_append_right _ h)
set_option maxHeartbeats 4000000 in
set_option maxRecDepth 100000 in
theorem c_X7_print (l : Launch) (D : va_G) (b : Nat → Nat) (c : Nat → ClassId) (S J : St) (hV : V S)  (x : Int32) (y : Int32) : Ci l yX7_print wsX7_print rmX7_print D (tyW c) [.ref (b 0), .int x, .int y] (wM b c S J) (fun r (J1 : St) => mPost (thr (inB x 0 15 && inB y 0 5) (decide (S 2 0 < 80)) (true)) (nI (S 2 0)) r J1) (fun J1 => wM b c (if thr (inB x 0 15 && inB y 0 5) (decide (S 2 0 < 80)) (true) = 0 then (up (up (up (up (up S 13 (tn x) (S 13 (tn x) + 1)) 15 (S 2 0) (tn x)) 16 (S 2 0) (S 13 (tn x) + 1)) 17 (S 2 0) (tn y)) 2 0 (S 2 0 + 1)) else S) J1) := by
  refine Ci.of (lv0 := [(0, .ref (b 0)), (1, .int x), (2, .int y)]) (by decide +kernel) rfl (Nat.le_of_ble_eq_true rfl) rfl (fun G K hret => ?_)
  have hcd := V_cards hV
  have HM35 : G 0 0 (wM b c S J) [(0, .ref (b 0)), (1, .int x), (2, .int y)] 35 [.int (nI 1), .int (nI ((decide (S 2 0 < 80)).toNat)), .int (nI ((inB x 0 15 && inB y 0 5).toNat)), .ref (b 0)] := by
    refine r_callVs (rest := []) K (c_X7_goes l D b c S J (inB x 0 15 && inB y 0 5) (decide (S 2 0 < 80)) true) 3 gX7_print_X7_goes rfl (by decide +kernel) rfl (by decide) 0 (wM_g0 _ _ _ _) rfl rfl (Nat.le_of_ble_eq_true rfl) dX7_print_35 rfl rfl ?_
    refine r_if_neB K 43 dX7_print_38 (by decide) (fun h1 => ?_) (fun h1 => ?_)
    ·
      have hth := of_decide_eq_true h1
      obtain ⟨hb1, hb2, hb3⟩ := thr_eq0 hth
      obtain ⟨hs2, hs3⟩ := Bool.and_eq_true_iff.mp hb1
      obtain ⟨xk, hxka, hxkb, hexk, hxkc⟩ := inB_ex (by decide) hs2
      subst hexk
      obtain ⟨yk, hyka, hykb, heyk, hykc⟩ := inB_ex (by decide) hs3
      subst heyk
      have hb2 := of_decide_eq_true hb2
      refine r_aload_n K dX7_print_43 rfl ?_
      refine r_get K hin_X7_print_7 0 (wM_g0 _ _ _ _) rfl 3 (by decide) (List.mem_of_getElem? (i := 2) rfl) rfl dX7_print_44 ?_
      refine r_iload_n K dX7_print_47 rfl ?_
      refine r_dup2 K dX7_print_48 rfl rfl ?_
      refine r_iald K 4 0 (wM_g4 _ _ _ _) rfl (by omega) (by decide) dX7_print_49 ?_
      have hf4 := V_b hV 13 xk
      refine r_iconst K (nI 1) dX7_print_50 (by decide) ?_
      refine r_iadd K dX7_print_51 ?_
      refine r_iast K 4 0 (wM_g4 _ _ _ _) rfl (by omega) (by decide) dX7_print_52 (wM_s4 _ _ _ _ _ _) ?_
      refine r_aload_n K dX7_print_53 rfl ?_
      refine r_get K hin_X7_print_7 0 (wM_g0 _ _ _ _) rfl 8 (by decide) (List.mem_of_getElem? (i := 3) rfl) rfl dX7_print_54 ?_
      refine r_aload_n K dX7_print_57 rfl ?_
      refine r_get K hin_X7_print_7 0 (wM_g0 _ _ _ _) rfl 7 (by decide) (List.mem_of_getElem? (i := 1) rfl) rfl dX7_print_58 ?_
      refine r_top (congrArg nI (congrFun (up_ne (by decide)) _)) ?_
      have hf5 := V_b hV 2 0
      refine r_iload_n K dX7_print_61 rfl ?_
      refine r_iast K 6 0 (wM_g6 _ _ _ _) rfl (by omega) (by decide) dX7_print_62 (wM_s6 _ _ _ _ _ _) ?_
      refine r_aload_n K dX7_print_63 rfl ?_
      refine r_get K hin_X7_print_7 0 (wM_g0 _ _ _ _) rfl 9 (by decide) (List.mem_of_getElem? (i := 4) rfl) rfl dX7_print_64 ?_
      refine r_aload_n K dX7_print_67 rfl ?_
      refine r_get K hin_X7_print_7 0 (wM_g0 _ _ _ _) rfl 7 (by decide) (List.mem_of_getElem? (i := 1) rfl) rfl dX7_print_68 ?_
      refine r_top (congrArg nI (congrFun (up_ne (by decide)) _)) ?_
      refine r_top (congrArg nI (congrFun (up_ne (by decide)) _)) ?_
      have hf6 := V_b hV 2 0
      refine r_aload_n K dX7_print_71 rfl ?_
      refine r_get K hin_X7_print_7 0 (wM_g0 _ _ _ _) rfl 3 (by decide) (List.mem_of_getElem? (i := 2) rfl) rfl dX7_print_72 ?_
      refine r_iload_n K dX7_print_75 rfl ?_
      refine r_iald K 4 0 (wM_g4 _ _ _ _) rfl (by omega) (by decide) dX7_print_76 ?_
      refine r_top (congrArg nI (congrFun (up_ne (by decide)) _)) ?_
      refine r_top (congrArg nI up_same) ?_
      refine r_iast K 7 0 (wM_g7 _ _ _ _) rfl (by omega) (by decide) dX7_print_77 (wM_s7 _ _ _ _ _ _) ?_
      refine r_aload_n K dX7_print_78 rfl ?_
      refine r_get K hin_X7_print_7 0 (wM_g0 _ _ _ _) rfl 10 (by decide) (List.mem_of_getElem? (i := 5) rfl) rfl dX7_print_79 ?_
      refine r_aload_n K dX7_print_82 rfl ?_
      refine r_get K hin_X7_print_7 0 (wM_g0 _ _ _ _) rfl 7 (by decide) (List.mem_of_getElem? (i := 1) rfl) rfl dX7_print_83 ?_
      refine r_top (congrArg nI (congrFun (up_ne (by decide)) _)) ?_
      refine r_top (congrArg nI (congrFun (up_ne (by decide)) _)) ?_
      refine r_top (congrArg nI (congrFun (up_ne (by decide)) _)) ?_
      have hf7 := V_b hV 2 0
      refine r_iload_n K dX7_print_86 rfl ?_
      refine r_iast K 8 0 (wM_g8 _ _ _ _) rfl (by omega) (by decide) dX7_print_87 (wM_s8 _ _ _ _ _ _) ?_
      refine r_aload_n K dX7_print_88 rfl ?_
      refine r_dup K dX7_print_89 rfl ?_
      refine r_get K hin_X7_print_7 0 (wM_g0 _ _ _ _) rfl 7 (by decide) (List.mem_of_getElem? (i := 1) rfl) rfl dX7_print_90 ?_
      refine r_top (congrArg nI (congrFun (up_ne (by decide)) _)) ?_
      refine r_top (congrArg nI (congrFun (up_ne (by decide)) _)) ?_
      refine r_top (congrArg nI (congrFun (up_ne (by decide)) _)) ?_
      refine r_top (congrArg nI (congrFun (up_ne (by decide)) _)) ?_
      have hf8 := V_b hV 2 0
      refine r_iconst K (nI 1) dX7_print_93 (by decide) ?_
      refine r_iadd K dX7_print_94 ?_
      refine r_put K hin_X7_print_7 tyX7 tyX7_ok nmX7 0 (wM_g0 _ _ _ _) rfl 7 (by decide) (List.mem_of_getElem? (i := 1) rfl) rfl rfl rfl (Nat.le_of_ble_eq_true rfl) dX7_print_95 (wM_s0_7 _ _ _ _ _) ?_
      refine r_aload_n K dX7_print_98 rfl ?_
      refine r_get K hin_X7_print_7 0 (wM_g0 _ _ _ _) rfl 7 (by decide) (List.mem_of_getElem? (i := 1) rfl) rfl dX7_print_99 ?_
      refine r_top (congrArg nI up_same) ?_
      refine r_iconst K (nI 1) dX7_print_102 (by decide) ?_
      refine r_isub K dX7_print_103 (by omega) ?_
      exact hret 0 0 _ _ _ _ _ dX7_print_104 ⟨up_same, fun _ => by rw [Nat.add_sub_cancel]⟩ (by rw [if_pos hth, tn_nI hxkc, tn_nI hykc]) (Nat.le_of_ble_eq_true rfl) (Nat.le_of_ble_eq_true rfl)
    ·
      refine r_iconst K (nI 0) dX7_print_41 (by decide) ?_
      exact hret 0 0 _ _ _ _ _ dX7_print_42 ⟨up_same, fun q => absurd q (of_decide_eq_false h1)⟩ (by rw [if_neg (of_decide_eq_false h1)]) (Nat.le_of_ble_eq_true rfl) (Nat.le_of_ble_eq_true rfl)
  refine r_aload_n K dX7_print_0 rfl ?_
  refine r_iload_n K dX7_print_1 rfl ?_
  refine r_callSs (rest := [.ref (b 0)]) K (c_X7_isKind l D b c S J (x)) 1 gX7_print_X7_isKind rfl (by decide +kernel) rfl (by decide) rfl (Nat.le_of_ble_eq_true rfl) dX7_print_2 rfl rfl ?_
  refine r_if_eqB K 19 dX7_print_5 (by decide) (fun h9 => ?_) (fun h9 => ?_)
  ·
    refine r_iconst K (nI 0) dX7_print_19 (by decide) ?_
    refine r_aload_n K dX7_print_20 rfl ?_
    refine r_get K hin_X7_print_7 0 (wM_g0 _ _ _ _) rfl 7 (by decide) (List.mem_of_getElem? (i := 1) rfl) rfl dX7_print_21 ?_
    have hf10 := V_b hV 2 0
    refine r_bipush K (nI 80) dX7_print_24 (by decide) ?_
    refine r_ic_ge K 33 dX7_print_26 (by decide) (by omega) (by decide) (fun h11 => ?_) (fun h11 => ?_)
    ·
      refine r_iconst K (nI 0) dX7_print_33 (by decide) ?_
      refine r_iconst K (nI 1) dX7_print_34 (by decide) ?_
      refine r_st (st' := [.int (nI 1), .int (nI ((decide (S 2 0 < 80)).toNat)), .int (nI ((inB x 0 15 && inB y 0 5).toNat)), .ref (b 0)]) (by simp [h9, h11, Nat.not_lt.mpr h11]) ?_
      exact HM35
    ·
      refine r_iconst K (nI 1) dX7_print_29 (by decide) ?_
      refine r_goto K 34 dX7_print_30 (by decide) ?_
      refine r_iconst K (nI 1) dX7_print_34 (by decide) ?_
      refine r_st (st' := [.int (nI 1), .int (nI ((decide (S 2 0 < 80)).toNat)), .int (nI ((inB x 0 15 && inB y 0 5).toNat)), .ref (b 0)]) (by simp [h9, h11]) ?_
      exact HM35
  ·
    refine r_iload_n K dX7_print_8 rfl ?_
    refine r_callSs (rest := [.ref (b 0)]) K (c_X7_isCollector l D b c S J (y)) 1 gX7_print_X7_isCollector rfl (by decide +kernel) rfl (by decide) rfl (Nat.le_of_ble_eq_true rfl) dX7_print_9 rfl rfl ?_
    refine r_if_eqB K 19 dX7_print_12 (by decide) (fun h12 => ?_) (fun h12 => ?_)
    ·
      refine r_iconst K (nI 0) dX7_print_19 (by decide) ?_
      refine r_aload_n K dX7_print_20 rfl ?_
      refine r_get K hin_X7_print_7 0 (wM_g0 _ _ _ _) rfl 7 (by decide) (List.mem_of_getElem? (i := 1) rfl) rfl dX7_print_21 ?_
      have hf13 := V_b hV 2 0
      refine r_bipush K (nI 80) dX7_print_24 (by decide) ?_
      refine r_ic_ge K 33 dX7_print_26 (by decide) (by omega) (by decide) (fun h14 => ?_) (fun h14 => ?_)
      ·
        refine r_iconst K (nI 0) dX7_print_33 (by decide) ?_
        refine r_iconst K (nI 1) dX7_print_34 (by decide) ?_
        refine r_st (st' := [.int (nI 1), .int (nI ((decide (S 2 0 < 80)).toNat)), .int (nI ((inB x 0 15 && inB y 0 5).toNat)), .ref (b 0)]) (by simp [h9, h12, h14, Nat.not_lt.mpr h14]) ?_
        exact HM35
      ·
        refine r_iconst K (nI 1) dX7_print_29 (by decide) ?_
        refine r_goto K 34 dX7_print_30 (by decide) ?_
        refine r_iconst K (nI 1) dX7_print_34 (by decide) ?_
        refine r_st (st' := [.int (nI 1), .int (nI ((decide (S 2 0 < 80)).toNat)), .int (nI ((inB x 0 15 && inB y 0 5).toNat)), .ref (b 0)]) (by simp [h9, h12, h14]) ?_
        exact HM35
    ·
      refine r_iconst K (nI 1) dX7_print_15 (by decide) ?_
      refine r_goto K 20 dX7_print_16 (by decide) ?_
      refine r_aload_n K dX7_print_20 rfl ?_
      refine r_get K hin_X7_print_7 0 (wM_g0 _ _ _ _) rfl 7 (by decide) (List.mem_of_getElem? (i := 1) rfl) rfl dX7_print_21 ?_
      have hf15 := V_b hV 2 0
      refine r_bipush K (nI 80) dX7_print_24 (by decide) ?_
      refine r_ic_ge K 33 dX7_print_26 (by decide) (by omega) (by decide) (fun h16 => ?_) (fun h16 => ?_)
      ·
        refine r_iconst K (nI 0) dX7_print_33 (by decide) ?_
        refine r_iconst K (nI 1) dX7_print_34 (by decide) ?_
        refine r_st (st' := [.int (nI 1), .int (nI ((decide (S 2 0 < 80)).toNat)), .int (nI ((inB x 0 15 && inB y 0 5).toNat)), .ref (b 0)]) (by simp [h9, h12, h16, Nat.not_lt.mpr h16]) ?_
        exact HM35
      ·
        refine r_iconst K (nI 1) dX7_print_29 (by decide) ?_
        refine r_goto K 34 dX7_print_30 (by decide) ?_
        refine r_iconst K (nI 1) dX7_print_34 (by decide) ?_
        refine r_st (st' := [.int (nI 1), .int (nI ((decide (S 2 0 < 80)).toNat)), .int (nI ((inB x 0 15 && inB y 0 5).toNat)), .ref (b 0)]) (by simp [h9, h12, h16]) ?_
        exact HM35

def rmX7_deck : Room := { frames := 2, cells := 0, slots := 0, locals := 42 }
theorem hin_X7_deck_7 : ∀ w ∈ wsX70, w ∈ wsX7_deck := fun _ h => List.mem_cons_of_mem _ (List.mem_append_right _ h)
set_option maxHeartbeats 4000000 in
set_option maxRecDepth 100000 in
theorem c_X7_deck (l : Launch) (D : va_G) (b : Nat → Nat) (c : Nat → ClassId) (S J : St) (hV : V S)  (x : Int32) : Ci l yX7_deck wsX7_deck rmX7_deck D (tyW c) [.ref (b 0), .int x] (wM b c S J) (fun r (J1 : St) => mPost (thr (inB x 0 5) (decide (S 3 0 < 12)) (true)) (nI (S 3 0)) r J1) (fun J1 => wM b c (if thr (inB x 0 5) (decide (S 3 0 < 12)) (true) = 0 then (up (up S 18 (S 3 0) (tn x)) 3 0 (S 3 0 + 1)) else S) J1) := by
  refine Ci.of (lv0 := [(0, .ref (b 0)), (1, .int x)]) (by decide +kernel) rfl (Nat.le_of_ble_eq_true rfl) rfl (fun G K hret => ?_)
  have hdk := V_decks hV
  have HM20 : G 0 0 (wM b c S J) [(0, .ref (b 0)), (1, .int x)] 20 [.int (nI 1), .int (nI ((decide (S 3 0 < 12)).toNat)), .int (nI ((inB x 0 5).toNat)), .ref (b 0)] := by
    refine r_callVs (rest := []) K (c_X7_goes l D b c S J (inB x 0 5) (decide (S 3 0 < 12)) true) 3 gX7_deck_X7_goes rfl (by decide +kernel) rfl (by decide) 0 (wM_g0 _ _ _ _) rfl rfl (Nat.le_of_ble_eq_true rfl) dX7_deck_20 rfl rfl ?_
    refine r_if_neB K 28 dX7_deck_23 (by decide) (fun h1 => ?_) (fun h1 => ?_)
    ·
      have hth := of_decide_eq_true h1
      obtain ⟨hb1, hb2, hb3⟩ := thr_eq0 hth
      obtain ⟨xk, hxka, hxkb, hexk, hxkc⟩ := inB_ex (by decide) hb1
      subst hexk
      have hb2 := of_decide_eq_true hb2
      refine r_aload_n K dX7_deck_28 rfl ?_
      refine r_get K hin_X7_deck_7 0 (wM_g0 _ _ _ _) rfl 12 (by decide) (List.mem_of_getElem? (i := 2) rfl) rfl dX7_deck_29 ?_
      refine r_aload_n K dX7_deck_32 rfl ?_
      refine r_get K hin_X7_deck_7 0 (wM_g0 _ _ _ _) rfl 11 (by decide) (List.mem_of_getElem? (i := 1) rfl) rfl dX7_deck_33 ?_
      have hf2 := V_b hV 3 0
      refine r_iload_n K dX7_deck_36 rfl ?_
      refine r_iast K 9 0 (wM_g9 _ _ _ _) rfl (by omega) (by decide) dX7_deck_37 (wM_s9 _ _ _ _ _ _) ?_
      refine r_aload_n K dX7_deck_38 rfl ?_
      refine r_dup K dX7_deck_39 rfl ?_
      refine r_get K hin_X7_deck_7 0 (wM_g0 _ _ _ _) rfl 11 (by decide) (List.mem_of_getElem? (i := 1) rfl) rfl dX7_deck_40 ?_
      refine r_top (congrArg nI (congrFun (up_ne (by decide)) _)) ?_
      refine r_iconst K (nI 1) dX7_deck_43 (by decide) ?_
      refine r_iadd K dX7_deck_44 ?_
      refine r_put K hin_X7_deck_7 tyX7 tyX7_ok nmX7 0 (wM_g0 _ _ _ _) rfl 11 (by decide) (List.mem_of_getElem? (i := 1) rfl) rfl rfl rfl (Nat.le_of_ble_eq_true rfl) dX7_deck_45 (wM_s0_11 _ _ _ _ _) ?_
      refine r_aload_n K dX7_deck_48 rfl ?_
      refine r_get K hin_X7_deck_7 0 (wM_g0 _ _ _ _) rfl 11 (by decide) (List.mem_of_getElem? (i := 1) rfl) rfl dX7_deck_49 ?_
      refine r_top (congrArg nI up_same) ?_
      refine r_iconst K (nI 1) dX7_deck_52 (by decide) ?_
      refine r_isub K dX7_deck_53 (by omega) ?_
      exact hret 0 0 _ _ _ _ _ dX7_deck_54 ⟨up_same, fun _ => by rw [Nat.add_sub_cancel]⟩ (by rw [if_pos hth, tn_nI hxkc]) (Nat.le_of_ble_eq_true rfl) (Nat.le_of_ble_eq_true rfl)
    ·
      refine r_iconst K (nI 0) dX7_deck_26 (by decide) ?_
      exact hret 0 0 _ _ _ _ _ dX7_deck_27 ⟨up_same, fun q => absurd q (of_decide_eq_false h1)⟩ (by rw [if_neg (of_decide_eq_false h1)]) (Nat.le_of_ble_eq_true rfl) (Nat.le_of_ble_eq_true rfl)
  refine r_aload_n K dX7_deck_0 rfl ?_
  refine r_iload_n K dX7_deck_1 rfl ?_
  refine r_callSs (rest := [.ref (b 0)]) K (c_X7_isCollector l D b c S J (x)) 1 gX7_deck_X7_isCollector rfl (by decide +kernel) rfl (by decide) rfl (Nat.le_of_ble_eq_true rfl) dX7_deck_2 rfl rfl ?_
  refine r_aload_n K dX7_deck_5 rfl ?_
  refine r_get K hin_X7_deck_7 0 (wM_g0 _ _ _ _) rfl 11 (by decide) (List.mem_of_getElem? (i := 1) rfl) rfl dX7_deck_6 ?_
  have hf4 := V_b hV 3 0
  refine r_bipush K (nI 12) dX7_deck_9 (by decide) ?_
  refine r_ic_ge K 18 dX7_deck_11 (by decide) (by omega) (by decide) (fun h5 => ?_) (fun h5 => ?_)
  ·
    refine r_iconst K (nI 0) dX7_deck_18 (by decide) ?_
    refine r_iconst K (nI 1) dX7_deck_19 (by decide) ?_
    refine r_st (st' := [.int (nI 1), .int (nI ((decide (S 3 0 < 12)).toNat)), .int (nI ((inB x 0 5).toNat)), .ref (b 0)]) (by simp [h5, Nat.not_lt.mpr h5]) ?_
    exact HM20
  ·
    refine r_iconst K (nI 1) dX7_deck_14 (by decide) ?_
    refine r_goto K 19 dX7_deck_15 (by decide) ?_
    refine r_iconst K (nI 1) dX7_deck_19 (by decide) ?_
    refine r_st (st' := [.int (nI 1), .int (nI ((decide (S 3 0 < 12)).toNat)), .int (nI ((inB x 0 5).toNat)), .ref (b 0)]) (by simp [h5]) ?_
    exact HM20

def rmX7_add : Room := { frames := 2, cells := 0, slots := 0, locals := 43 }
theorem hin_X7_add_7 : ∀ w ∈ wsX70, w ∈ wsX7_add := fun _ h => List.mem_cons_of_mem _ (List.mem_append_right _ h)
set_option maxHeartbeats 4000000 in
set_option maxRecDepth 100000 in
theorem c_X7_add (l : Launch) (D : va_G) (b : Nat → Nat) (c : Nat → ClassId) (S J : St) (hV : V S)  (x : Int32) (y : Int32) : Ci l yX7_add wsX7_add rmX7_add D (tyW c) [.ref (b 0), .int x, .int y] (wM b c S J) (fun r (J1 : St) => mPost (thr (inB x 0 ((S 3 0 : Nat) - 1) && inB y 0 ((S 2 0 : Nat) - 1)) ((inB x 0 ((S 3 0 : Nat) - 1) && inB y 0 ((S 2 0 : Nat) - 1)) && (decide (S 17 (tn y) = S 18 (tn x)) && !holdB S (tn x) (tn y))) ((inB x 0 ((S 3 0 : Nat) - 1) && inB y 0 ((S 2 0 : Nat) - 1)) && decide (S 19 (tn x) < 10))) (nI (S 19 (tn x) + 1)) r J1) (fun J1 => wM b c (if thr (inB x 0 ((S 3 0 : Nat) - 1) && inB y 0 ((S 2 0 : Nat) - 1)) ((inB x 0 ((S 3 0 : Nat) - 1) && inB y 0 ((S 2 0 : Nat) - 1)) && (decide (S 17 (tn y) = S 18 (tn x)) && !holdB S (tn x) (tn y))) ((inB x 0 ((S 3 0 : Nat) - 1) && inB y 0 ((S 2 0 : Nat) - 1)) && decide (S 19 (tn x) < 10)) = 0 then (up (up S (30 + tn x) (S 19 (tn x)) (tn y)) 19 (tn x) (S 19 (tn x) + 1)) else S) J1) := by
  refine Ci.of (lv0 := [(0, .ref (b 0)), (1, .int x), (2, .int y)]) (by decide +kernel) rfl (Nat.le_of_ble_eq_true rfl) rfl (fun G K hret => ?_)
  have hdk := V_decks hV
  have hcd := V_cards hV
  have HM81 : G 0 0 (wM b c S J) [(0, .ref (b 0)), (1, .int x), (2, .int y), (3, .int (nI ((inB x 0 ((S 3 0 : Nat) - 1) && inB y 0 ((S 2 0 : Nat) - 1)).toNat))), (4, .int (nI (((inB x 0 ((S 3 0 : Nat) - 1) && inB y 0 ((S 2 0 : Nat) - 1)) && (decide (S 17 (tn y) = S 18 (tn x)) && !holdB S (tn x) (tn y))).toNat)))] 81 [.int (nI (((inB x 0 ((S 3 0 : Nat) - 1) && inB y 0 ((S 2 0 : Nat) - 1)) && decide (S 19 (tn x) < 10)).toNat)), .int (nI (((inB x 0 ((S 3 0 : Nat) - 1) && inB y 0 ((S 2 0 : Nat) - 1)) && (decide (S 17 (tn y) = S 18 (tn x)) && !holdB S (tn x) (tn y))).toNat)), .int (nI ((inB x 0 ((S 3 0 : Nat) - 1) && inB y 0 ((S 2 0 : Nat) - 1)).toNat)), .ref (b 0)] := by
    refine r_callVs (rest := []) K (c_X7_goes l D b c S J (inB x 0 ((S 3 0 : Nat) - 1) && inB y 0 ((S 2 0 : Nat) - 1)) ((inB x 0 ((S 3 0 : Nat) - 1) && inB y 0 ((S 2 0 : Nat) - 1)) && (decide (S 17 (tn y) = S 18 (tn x)) && !holdB S (tn x) (tn y))) ((inB x 0 ((S 3 0 : Nat) - 1) && inB y 0 ((S 2 0 : Nat) - 1)) && decide (S 19 (tn x) < 10))) 3 gX7_add_X7_goes rfl (by decide +kernel) rfl (by decide) 0 (wM_g0 _ _ _ _) rfl rfl (Nat.le_of_ble_eq_true rfl) dX7_add_81 rfl rfl ?_
    refine r_if_neB K 89 dX7_add_84 (by decide) (fun h1 => ?_) (fun h1 => ?_)
    ·
      have hth := of_decide_eq_true h1
      obtain ⟨hb1, hb2, hb3⟩ := thr_eq0 hth
      obtain ⟨hs2, hs3⟩ := Bool.and_eq_true_iff.mp hb1
      obtain ⟨xk, hxka, hxkb, hexk, hxkc⟩ := inB_ex (by decide) hs2
      subst hexk
      obtain ⟨yk, hyka, hykb, heyk, hykc⟩ := inB_ex (by decide) hs3
      subst heyk
      obtain ⟨hs4, hs5⟩ := Bool.and_eq_true_iff.mp hb2
      obtain ⟨hs6, hs7⟩ := Bool.and_eq_true_iff.mp hs4
      obtain ⟨hs8, hs9⟩ := Bool.and_eq_true_iff.mp hs5
      have hs8 := of_decide_eq_true hs8
      simp only [tn_nI hxkc, tn_nI hykc] at hs8
      simp only [tn_nI hxkc, tn_nI hykc] at hs9
      obtain ⟨hs10, hs11⟩ := Bool.and_eq_true_iff.mp hb3
      obtain ⟨hs12, hs13⟩ := Bool.and_eq_true_iff.mp hs10
      have hs11 := of_decide_eq_true hs11
      simp only [tn_nI hxkc, tn_nI hykc] at hs11
      refine r_aload_n K dX7_add_89 rfl ?_
      refine r_get K hin_X7_add_7 0 (wM_g0 _ _ _ _) rfl 14 (by decide) (List.mem_of_getElem? (i := 4) rfl) rfl dX7_add_90 ?_
      refine r_bipush K (nI 10) dX7_add_93 (by decide) ?_
      refine r_iload_n K dX7_add_95 rfl ?_
      refine r_imul K dX7_add_96 ?_
      refine r_aload_n K dX7_add_97 rfl ?_
      refine r_get K hin_X7_add_7 0 (wM_g0 _ _ _ _) rfl 13 (by decide) (List.mem_of_getElem? (i := 3) rfl) rfl dX7_add_98 ?_
      refine r_iload_n K dX7_add_101 rfl ?_
      refine r_iald K 10 0 (wM_g10 _ _ _ _) rfl (by omega) (by decide) dX7_add_102 ?_
      have hf14 := V_size hV xk
      refine r_iadd K dX7_add_103 ?_
      refine r_iload_n K dX7_add_104 rfl ?_
      refine r_iast K 11 0 (wM_g11 _ _ _ _) rfl (by omega) (by decide) dX7_add_105 (wM_sflat _ _ _ _ (by omega) _) ?_
      refine r_aload_n K dX7_add_106 rfl ?_
      refine r_get K hin_X7_add_7 0 (wM_g0 _ _ _ _) rfl 13 (by decide) (List.mem_of_getElem? (i := 3) rfl) rfl dX7_add_107 ?_
      refine r_iload_n K dX7_add_110 rfl ?_
      refine r_dup2 K dX7_add_111 rfl rfl ?_
      refine r_iald K 10 0 (wM_g10 _ _ _ _) rfl (by omega) (by decide) dX7_add_112 ?_
      refine r_top (congrArg nI (congrFun (up_ne (by omega)) _)) ?_
      refine r_iconst K (nI 1) dX7_add_113 (by decide) ?_
      refine r_iadd K dX7_add_114 ?_
      refine r_iast K 10 0 (wM_g10 _ _ _ _) rfl (by omega) (by decide) dX7_add_115 (wM_s10 _ _ _ _ _ _) ?_
      refine r_aload_n K dX7_add_116 rfl ?_
      refine r_get K hin_X7_add_7 0 (wM_g0 _ _ _ _) rfl 13 (by decide) (List.mem_of_getElem? (i := 3) rfl) rfl dX7_add_117 ?_
      refine r_iload_n K dX7_add_120 rfl ?_
      refine r_iald K 10 0 (wM_g10 _ _ _ _) rfl (by omega) (by decide) dX7_add_121 ?_
      refine r_top (congrArg nI up_same) ?_
      exact hret 0 0 _ _ _ _ _ dX7_add_122 ⟨up_same, fun _ => by rw [tn_nI hxkc]⟩ (by rw [if_pos hth, tn_nI hxkc, tn_nI hykc]) (Nat.le_of_ble_eq_true rfl) (Nat.le_of_ble_eq_true rfl)
    ·
      refine r_iconst K (nI 0) dX7_add_87 (by decide) ?_
      exact hret 0 0 _ _ _ _ _ dX7_add_88 ⟨up_same, fun q => absurd q (of_decide_eq_false h1)⟩ (by rw [if_neg (of_decide_eq_false h1)]) (Nat.le_of_ble_eq_true rfl) (Nat.le_of_ble_eq_true rfl)
  have HM55 : G 0 0 (wM b c S J) [(0, .ref (b 0)), (1, .int x), (2, .int y), (3, .int (nI ((inB x 0 ((S 3 0 : Nat) - 1) && inB y 0 ((S 2 0 : Nat) - 1)).toNat)))] 55 [.int (nI (((inB x 0 ((S 3 0 : Nat) - 1) && inB y 0 ((S 2 0 : Nat) - 1)) && (decide (S 17 (tn y) = S 18 (tn x)) && !holdB S (tn x) (tn y))).toNat))] := by
    refine r_istore (lv' := [(0, .ref (b 0)), (1, .int x), (2, .int y), (3, .int (nI ((inB x 0 ((S 3 0 : Nat) - 1) && inB y 0 ((S 2 0 : Nat) - 1)).toNat))), (4, .int (nI (((inB x 0 ((S 3 0 : Nat) - 1) && inB y 0 ((S 2 0 : Nat) - 1)) && (decide (S 17 (tn y) = S 18 (tn x)) && !holdB S (tn x) (tn y))).toNat)))]) K dX7_add_55 (by decide) rfl ?_
    refine r_aload_n K dX7_add_57 rfl ?_
    refine r_iload_n K dX7_add_58 rfl ?_
    refine r_iload K dX7_add_59 rfl ?_
    refine r_iload_n K dX7_add_61 rfl ?_
    refine r_if_eqB K 80 dX7_add_62 (by decide) (fun h16 => ?_) (fun h16 => ?_)
    ·
      refine r_iconst K (nI 0) dX7_add_80 (by decide) ?_
      refine r_st (st' := [.int (nI (((inB x 0 ((S 3 0 : Nat) - 1) && inB y 0 ((S 2 0 : Nat) - 1)) && decide (S 19 (tn x) < 10)).toNat)), .int (nI (((inB x 0 ((S 3 0 : Nat) - 1) && inB y 0 ((S 2 0 : Nat) - 1)) && (decide (S 17 (tn y) = S 18 (tn x)) && !holdB S (tn x) (tn y))).toNat)), .int (nI ((inB x 0 ((S 3 0 : Nat) - 1) && inB y 0 ((S 2 0 : Nat) - 1)).toNat)), .ref (b 0)]) (by simp [h16]) ?_
      exact HM81
    ·
      obtain ⟨hs17, hs18⟩ := Bool.and_eq_true_iff.mp h16
      obtain ⟨xk, hxka, hxkb, hexk, hxkc⟩ := inB_ex (by decide) hs17
      subst hexk
      obtain ⟨yk, hyka, hykb, heyk, hykc⟩ := inB_ex (by decide) hs18
      subst heyk
      refine r_aload_n K dX7_add_65 rfl ?_
      refine r_get K hin_X7_add_7 0 (wM_g0 _ _ _ _) rfl 13 (by decide) (List.mem_of_getElem? (i := 3) rfl) rfl dX7_add_66 ?_
      refine r_iload_n K dX7_add_69 rfl ?_
      refine r_iald K 10 0 (wM_g10 _ _ _ _) rfl (by omega) (by decide) dX7_add_70 ?_
      have hf19 := V_size hV xk
      refine r_bipush K (nI 10) dX7_add_71 (by decide) ?_
      refine r_ic_ge K 80 dX7_add_73 (by decide) (by omega) (by decide) (fun h20 => ?_) (fun h20 => ?_)
      ·
        refine r_iconst K (nI 0) dX7_add_80 (by decide) ?_
        refine r_st (st' := [.int (nI (((inB (nI xk) 0 ((S 3 0 : Nat) - 1) && inB (nI yk) 0 ((S 2 0 : Nat) - 1)) && decide (S 19 (tn (nI xk)) < 10)).toNat)), .int (nI (((inB (nI xk) 0 ((S 3 0 : Nat) - 1) && inB (nI yk) 0 ((S 2 0 : Nat) - 1)) && (decide (S 17 (tn (nI yk)) = S 18 (tn (nI xk))) && !holdB S (tn (nI xk)) (tn (nI yk)))).toNat)), .int (nI ((inB (nI xk) 0 ((S 3 0 : Nat) - 1) && inB (nI yk) 0 ((S 2 0 : Nat) - 1)).toNat)), .ref (b 0)]) (by simp [h16, h20, Nat.not_lt.mpr h20, tn_nI hxkc, tn_nI hykc]) ?_
        exact HM81
      ·
        refine r_iconst K (nI 1) dX7_add_76 (by decide) ?_
        refine r_goto K 81 dX7_add_77 (by decide) ?_
        refine r_st (st' := [.int (nI (((inB (nI xk) 0 ((S 3 0 : Nat) - 1) && inB (nI yk) 0 ((S 2 0 : Nat) - 1)) && decide (S 19 (tn (nI xk)) < 10)).toNat)), .int (nI (((inB (nI xk) 0 ((S 3 0 : Nat) - 1) && inB (nI yk) 0 ((S 2 0 : Nat) - 1)) && (decide (S 17 (tn (nI yk)) = S 18 (tn (nI xk))) && !holdB S (tn (nI xk)) (tn (nI yk)))).toNat)), .int (nI ((inB (nI xk) 0 ((S 3 0 : Nat) - 1) && inB (nI yk) 0 ((S 2 0 : Nat) - 1)).toNat)), .ref (b 0)]) (by simp [h16, h20, tn_nI hxkc, tn_nI hykc]) ?_
        exact HM81
  have HM21 : G 0 0 (wM b c S J) [(0, .ref (b 0)), (1, .int x), (2, .int y)] 21 [.int (nI ((inB x 0 ((S 3 0 : Nat) - 1) && inB y 0 ((S 2 0 : Nat) - 1)).toNat))] := by
    refine r_istore_n (lv' := [(0, .ref (b 0)), (1, .int x), (2, .int y), (3, .int (nI ((inB x 0 ((S 3 0 : Nat) - 1) && inB y 0 ((S 2 0 : Nat) - 1)).toNat)))]) K dX7_add_21 (by decide) rfl ?_
    refine r_iload_n K dX7_add_22 rfl ?_
    refine r_if_eqB K 54 dX7_add_23 (by decide) (fun h21 => ?_) (fun h21 => ?_)
    ·
      refine r_iconst K (nI 0) dX7_add_54 (by decide) ?_
      refine r_st (st' := [.int (nI (((inB x 0 ((S 3 0 : Nat) - 1) && inB y 0 ((S 2 0 : Nat) - 1)) && (decide (S 17 (tn y) = S 18 (tn x)) && !holdB S (tn x) (tn y))).toNat))]) (by simp [h21]) ?_
      exact HM55
    ·
      obtain ⟨hs22, hs23⟩ := Bool.and_eq_true_iff.mp h21
      obtain ⟨xk, hxka, hxkb, hexk, hxkc⟩ := inB_ex (by decide) hs22
      subst hexk
      obtain ⟨yk, hyka, hykb, heyk, hykc⟩ := inB_ex (by decide) hs23
      subst heyk
      refine r_aload_n K dX7_add_26 rfl ?_
      refine r_get K hin_X7_add_7 0 (wM_g0 _ _ _ _) rfl 10 (by decide) (List.mem_of_getElem? (i := 1) rfl) rfl dX7_add_27 ?_
      refine r_iload_n K dX7_add_30 rfl ?_
      refine r_iald K 8 0 (wM_g8 _ _ _ _) rfl (by omega) (by decide) dX7_add_31 ?_
      have hf24 := V_b hV 17 yk
      refine r_aload_n K dX7_add_32 rfl ?_
      refine r_get K hin_X7_add_7 0 (wM_g0 _ _ _ _) rfl 12 (by decide) (List.mem_of_getElem? (i := 2) rfl) rfl dX7_add_33 ?_
      refine r_iload_n K dX7_add_36 rfl ?_
      refine r_iald K 9 0 (wM_g9 _ _ _ _) rfl (by omega) (by decide) dX7_add_37 ?_
      have hf25 := V_b hV 18 xk
      refine r_ic_ne K 54 dX7_add_38 (by decide) (by omega) (by omega) (fun h26 => ?_) (fun h26 => ?_)
      ·
        refine r_iconst K (nI 0) dX7_add_54 (by decide) ?_
        refine r_st (st' := [.int (nI (((inB (nI xk) 0 ((S 3 0 : Nat) - 1) && inB (nI yk) 0 ((S 2 0 : Nat) - 1)) && (decide (S 17 (tn (nI yk)) = S 18 (tn (nI xk))) && !holdB S (tn (nI xk)) (tn (nI yk)))).toNat))]) (by simp [h21, h26, tn_nI hxkc, tn_nI hykc]) ?_
        exact HM55
      ·
        refine r_aload_n K dX7_add_41 rfl ?_
        refine r_iload_n K dX7_add_42 rfl ?_
        refine r_iload_n K dX7_add_43 rfl ?_
        refine r_callVs (rest := []) K (c_X7_isIn l D b c S J hV xk yk (by omega) (by omega)) 2 gX7_add_X7_isIn rfl (by decide +kernel) rfl (by decide) 0 (wM_g0 _ _ _ _) rfl rfl (Nat.le_of_ble_eq_true rfl) dX7_add_44 rfl rfl ?_
        refine r_if_neB K 54 dX7_add_47 (by decide) (fun h27 => ?_) (fun h27 => ?_)
        ·
          refine r_iconst K (nI 0) dX7_add_54 (by decide) ?_
          refine r_st (st' := [.int (nI (((inB (nI xk) 0 ((S 3 0 : Nat) - 1) && inB (nI yk) 0 ((S 2 0 : Nat) - 1)) && (decide (S 17 (tn (nI yk)) = S 18 (tn (nI xk))) && !holdB S (tn (nI xk)) (tn (nI yk)))).toNat))]) (by simp [h21, h26, h27, tn_nI hxkc, tn_nI hykc]) ?_
          exact HM55
        ·
          refine r_iconst K (nI 1) dX7_add_50 (by decide) ?_
          refine r_goto K 55 dX7_add_51 (by decide) ?_
          refine r_st (st' := [.int (nI (((inB (nI xk) 0 ((S 3 0 : Nat) - 1) && inB (nI yk) 0 ((S 2 0 : Nat) - 1)) && (decide (S 17 (tn (nI yk)) = S 18 (tn (nI xk))) && !holdB S (tn (nI xk)) (tn (nI yk)))).toNat))]) (by simp [h21, h26, h27, tn_nI hxkc, tn_nI hykc]) ?_
          exact HM55
  refine r_aload_n K dX7_add_0 rfl ?_
  refine r_iload_n K dX7_add_1 rfl ?_
  refine r_callVs (rest := []) K (c_X7_isDeck l D b c S J hV (x)) 1 gX7_add_X7_isDeck rfl (by decide +kernel) rfl (by decide) 0 (wM_g0 _ _ _ _) rfl rfl (Nat.le_of_ble_eq_true rfl) dX7_add_2 rfl rfl ?_
  refine r_if_eqB K 20 dX7_add_5 (by decide) (fun h28 => ?_) (fun h28 => ?_)
  ·
    refine r_iconst K (nI 0) dX7_add_20 (by decide) ?_
    refine r_st (st' := [.int (nI ((inB x 0 ((S 3 0 : Nat) - 1) && inB y 0 ((S 2 0 : Nat) - 1)).toNat))]) (by simp [h28]) ?_
    exact HM21
  ·
    refine r_aload_n K dX7_add_8 rfl ?_
    refine r_iload_n K dX7_add_9 rfl ?_
    refine r_callVs (rest := []) K (c_X7_isCard l D b c S J hV (y)) 1 gX7_add_X7_isCard rfl (by decide +kernel) rfl (by decide) 0 (wM_g0 _ _ _ _) rfl rfl (Nat.le_of_ble_eq_true rfl) dX7_add_10 rfl rfl ?_
    refine r_if_eqB K 20 dX7_add_13 (by decide) (fun h29 => ?_) (fun h29 => ?_)
    ·
      refine r_iconst K (nI 0) dX7_add_20 (by decide) ?_
      refine r_st (st' := [.int (nI ((inB x 0 ((S 3 0 : Nat) - 1) && inB y 0 ((S 2 0 : Nat) - 1)).toNat))]) (by simp [h28, h29]) ?_
      exact HM21
    ·
      refine r_iconst K (nI 1) dX7_add_16 (by decide) ?_
      refine r_goto K 21 dX7_add_17 (by decide) ?_
      refine r_st (st' := [.int (nI ((inB x 0 ((S 3 0 : Nat) - 1) && inB y 0 ((S 2 0 : Nat) - 1)).toNat))]) (by simp [h28, h29]) ?_
      exact HM21
