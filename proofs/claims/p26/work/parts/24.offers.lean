def rmX2_append : Room := { frames := 0, cells := 0, slots := 0, locals := 0 }
theorem hin_X2_append_2 : ∀ w ∈ wsX20, w ∈ wsX2_append := fun _ h => List.mem_cons_of_mem _ (List.mem_append_left _ (List.mem_append_right _ h))
theorem hin_X2_append_4 : ∀ w ∈ wsX40, w ∈ wsX2_append := fun _ h => List.mem_cons_of_mem _ (List.mem_append_right _ h)
set_option maxHeartbeats 4000000 in
set_option maxRecDepth 100000 in
theorem c_X2_append (l : Launch) (D : va_G) (a : Nat → Nat) (c : Nat → ClassId) (S J : St) (hV : V S) (x k : Nat) (hx : x < 80) (hc : S 4 0 < 40) : Cs l yX2_append wsX2_append rmX2_append D (tyW c) [.ref (a 4), .int (nI x), .int (nI k), .ref (a 2)] (wC a c S J) (nI (S 4 0)) (wC a c (up (up (up (up (up (up S 21 (S 4 0) x) 22 (S 4 0) (S 15 x)) 23 (S 4 0) k) 24 (S 4 0) (S 17 x)) 25 (S 4 0) 1) 4 0 (S 4 0 + 1)) J) := by
  refine Ci.of (lv0 := [(0, .ref (a 4)), (1, .int (nI x)), (2, .int (nI k)), (3, .ref (a 2))]) (by decide +kernel) rfl (Nat.le_of_ble_eq_true rfl) rfl (fun G K hret => ?_)
  have hkd := V_kind hV x
  refine r_aload_n K dX2_append_0 rfl ?_
  refine r_get K hin_X2_append_2 4 (wC_g4 _ _ _ _) rfl 6 (by decide) (List.mem_of_getElem? (i := 1) rfl) rfl dX2_append_1 ?_
  have hf1 := V_b hV 4 0
  refine r_istore (lv' := [(0, .ref (a 4)), (1, .int (nI x)), (2, .int (nI k)), (3, .ref (a 2)), (4, .int (nI (S 4 0)))]) K dX2_append_4 (by decide) rfl ?_
  refine r_aload_n K dX2_append_6 rfl ?_
  refine r_get K hin_X2_append_2 4 (wC_g4 _ _ _ _) rfl 0 (by decide) (List.mem_of_getElem? (i := 2) rfl) rfl dX2_append_7 ?_
  refine r_iload K dX2_append_10 rfl ?_
  refine r_iload_n K dX2_append_12 rfl ?_
  refine r_iast K 21 0 (wC_g21 _ _ _ _) rfl (by omega) (by decide) dX2_append_13 (wC_s21 _ _ _ _ _ _) ?_
  refine r_aload_n K dX2_append_14 rfl ?_
  refine r_get K hin_X2_append_2 4 (wC_g4 _ _ _ _) rfl 1 (by decide) (List.mem_of_getElem? (i := 3) rfl) rfl dX2_append_15 ?_
  refine r_iload K dX2_append_18 rfl ?_
  refine r_aload_n K dX2_append_20 rfl ?_
  refine r_get K hin_X2_append_4 2 (wC_g2 _ _ _ _) rfl 0 (by decide) (List.mem_of_getElem? (i := 4) rfl) rfl dX2_append_21 ?_
  refine r_iload_n K dX2_append_24 rfl ?_
  refine r_iald K 15 0 (wC_g15 _ _ _ _) rfl (by omega) (by decide) dX2_append_25 ?_
  refine r_top (congrArg nI (congrFun (up_ne (by decide)) _)) ?_
  have hf2 := V_kind hV x
  refine r_iast K 22 0 (wC_g22 _ _ _ _) rfl (by omega) (by decide) dX2_append_26 (wC_s22 _ _ _ _ _ _) ?_
  refine r_aload_n K dX2_append_27 rfl ?_
  refine r_get K hin_X2_append_2 4 (wC_g4 _ _ _ _) rfl 2 (by decide) (List.mem_of_getElem? (i := 5) rfl) rfl dX2_append_28 ?_
  refine r_iload K dX2_append_31 rfl ?_
  refine r_iload_n K dX2_append_33 rfl ?_
  refine r_iast K 23 0 (wC_g23 _ _ _ _) rfl (by omega) (by decide) dX2_append_34 (wC_s23 _ _ _ _ _ _) ?_
  refine r_aload_n K dX2_append_35 rfl ?_
  refine r_get K hin_X2_append_2 4 (wC_g4 _ _ _ _) rfl 3 (by decide) (List.mem_of_getElem? (i := 6) rfl) rfl dX2_append_36 ?_
  refine r_iload K dX2_append_39 rfl ?_
  refine r_aload_n K dX2_append_41 rfl ?_
  refine r_get K hin_X2_append_4 2 (wC_g2 _ _ _ _) rfl 2 (by decide) (List.mem_of_getElem? (i := 7) rfl) rfl dX2_append_42 ?_
  refine r_iload_n K dX2_append_45 rfl ?_
  refine r_iald K 17 0 (wC_g17 _ _ _ _) rfl (by omega) (by decide) dX2_append_46 ?_
  refine r_top (congrArg nI (congrFun (up_ne (by decide)) _)) ?_
  refine r_top (congrArg nI (congrFun (up_ne (by decide)) _)) ?_
  refine r_top (congrArg nI (congrFun (up_ne (by decide)) _)) ?_
  have hf3 := V_b hV 17 x
  refine r_iast K 24 0 (wC_g24 _ _ _ _) rfl (by omega) (by decide) dX2_append_47 (wC_s24 _ _ _ _ _ _) ?_
  refine r_aload_n K dX2_append_48 rfl ?_
  refine r_get K hin_X2_append_2 4 (wC_g4 _ _ _ _) rfl 4 (by decide) (List.mem_of_getElem? (i := 8) rfl) rfl dX2_append_49 ?_
  refine r_iload K dX2_append_52 rfl ?_
  refine r_iconst K (nI 1) dX2_append_54 (by decide) ?_
  refine r_zast K 25 1 (wC_g25 _ _ _ _) rfl (by omega) (by decide) (by decide) dX2_append_55 (wC_s25 _ _ _ _ _ _) ?_
  refine r_aload_n K dX2_append_56 rfl ?_
  refine r_dup K dX2_append_57 rfl ?_
  refine r_get K hin_X2_append_2 4 (wC_g4 _ _ _ _) rfl 6 (by decide) (List.mem_of_getElem? (i := 1) rfl) rfl dX2_append_58 ?_
  refine r_top (congrArg nI (congrFun (up_ne (by decide)) _)) ?_
  refine r_top (congrArg nI (congrFun (up_ne (by decide)) _)) ?_
  refine r_top (congrArg nI (congrFun (up_ne (by decide)) _)) ?_
  refine r_top (congrArg nI (congrFun (up_ne (by decide)) _)) ?_
  refine r_top (congrArg nI (congrFun (up_ne (by decide)) _)) ?_
  refine r_iconst K (nI 1) dX2_append_61 (by decide) ?_
  refine r_iadd K dX2_append_62 ?_
  refine r_put K hin_X2_append_2 tyX2 tyX2_ok nmX2 4 (wC_g4 _ _ _ _) rfl 6 (by decide) (List.mem_of_getElem? (i := 1) rfl) rfl rfl rfl (Nat.le_of_ble_eq_true rfl) dX2_append_63 (wC_s4_6 _ _ _ _ _) ?_
  refine r_iload K dX2_append_66 rfl ?_
  exact hret 0 0 _ _ _ (nI (S 4 0)) () dX2_append_68 rfl rfl (Nat.le_of_ble_eq_true rfl) (Nat.le_of_ble_eq_true rfl)

def rmX2_hasLive : Room := { frames := 0, cells := 0, slots := 0, locals := 0 }
theorem hin_X2_hasLive_2 : ∀ w ∈ wsX20, w ∈ wsX2_hasLive := fun _ h => List.mem_cons_of_mem _ (List.mem_append_right _ h)
set_option maxHeartbeats 4000000 in
set_option maxRecDepth 100000 in
theorem c_X2_hasLive (l : Launch) (D : va_G) (a : Nat → Nat) (c : Nat → ClassId) (S J : St) (hV : V S) (x : Nat) (hx : x < 1000000) : Cs l yX2_hasLive wsX2_hasLive rmX2_hasLive D (tyW c) [.ref (a 4), .int (nI x)] (wC a c S J) (nI (liveB S x).toNat) (wC a c S J) := by
  refine Ci.ofZ (lv0 := [(0, .ref (a 4)), (1, .int (nI x))]) (by decide +kernel) rfl (Nat.le_of_ble_eq_true rfl) rfl (fun G K hret => ?_)
  have hof := V_offers hV
  refine r_iconst K (nI 0) dX2_hasLive_0 (by decide) ?_
  refine r_istore_n (lv' := [(0, .ref (a 4)), (1, .int (nI x)), (2, .int (nI 0))]) K dX2_hasLive_1 (by decide) rfl ?_
  have L1 : ∀ (z : Nat) (i : Nat), S 4 0 < i + z → (i ≤ S 4 0) → (anyB (fun o => decide (S 25 o ≠ 0) && decide (S 21 o = x)) i = false) → G 0 0 (wC a c S J) [(0, .ref (a 4)), (1, .int (nI x)), (2, .int (nI i))] 2 [] := by
    intro z
    induction z with
    | zero => intro i hz hi hn; exact absurd hz (by omega)
    | succ z ih =>
      intro i hz hi hn
      refine r_iload_n K dX2_hasLive_2 rfl ?_
      refine r_aload_n K dX2_hasLive_3 rfl ?_
      refine r_get K hin_X2_hasLive_2 4 (wC_g4 _ _ _ _) rfl 6 (by decide) (List.mem_of_getElem? (i := 1) rfl) rfl dX2_hasLive_4 ?_
      have hf2 := V_b hV 4 0
      refine r_ic_ge K 37 dX2_hasLive_7 (by decide) (by omega) (by omega) (fun h3 => ?_) (fun h3 => ?_)
      ·
        refine r_iconst K (nI 0) dX2_hasLive_37 (by decide) ?_
        exact hret 0 0 _ _ _ 0 () dX2_hasLive_38 (by decide) (by rw [show liveB S x = false from (by unfold liveB; rw [show S 4 0 = i by omega]; exact hn)]; rfl) rfl (Nat.le_of_ble_eq_true rfl) (Nat.le_of_ble_eq_true rfl)
      ·
        refine r_aload_n K dX2_hasLive_10 rfl ?_
        refine r_get K hin_X2_hasLive_2 4 (wC_g4 _ _ _ _) rfl 4 (by decide) (List.mem_of_getElem? (i := 2) rfl) rfl dX2_hasLive_11 ?_
        refine r_iload_n K dX2_hasLive_14 rfl ?_
        refine r_zald K 25 1 (wC_g25 _ _ _ _) rfl (by omega) (by decide) dX2_hasLive_15 ?_
        have hf4 := V_b hV 25 i
        refine r_if_eq K 31 dX2_hasLive_16 (by decide) (by omega) (fun h5 => ?_) (fun h5 => ?_)
        ·
          refine r_iinc (lv' := [(0, .ref (a 4)), (1, .int (nI x)), (2, .int (nI (i + 1)))]) K dX2_hasLive_31 rfl (nI_1 _) (by decide) rfl ?_
          refine r_goto K 2 dX2_hasLive_34 (by decide) ?_
          exact ih (i + 1) (by omega) (by omega) (anyB_s hn (liveB_1 h5))
        ·
          refine r_aload_n K dX2_hasLive_19 rfl ?_
          refine r_get K hin_X2_hasLive_2 4 (wC_g4 _ _ _ _) rfl 0 (by decide) (List.mem_of_getElem? (i := 3) rfl) rfl dX2_hasLive_20 ?_
          refine r_iload_n K dX2_hasLive_23 rfl ?_
          refine r_iald K 21 0 (wC_g21 _ _ _ _) rfl (by omega) (by decide) dX2_hasLive_24 ?_
          have hf6 := V_ocard hV i
          refine r_iload_n K dX2_hasLive_25 rfl ?_
          refine r_ic_ne K 31 dX2_hasLive_26 (by decide) (by omega) (by omega) (fun h7 => ?_) (fun h7 => ?_)
          ·
            refine r_iinc (lv' := [(0, .ref (a 4)), (1, .int (nI x)), (2, .int (nI (i + 1)))]) K dX2_hasLive_31 rfl (nI_1 _) (by decide) rfl ?_
            refine r_goto K 2 dX2_hasLive_34 (by decide) ?_
            exact ih (i + 1) (by omega) (by omega) (anyB_s hn (liveB_2 h7))
          ·
            refine r_iconst K (nI 1) dX2_hasLive_29 (by decide) ?_
            exact hret 0 0 _ _ _ 1 () dX2_hasLive_30 (by decide) (by rw [show liveB S x = true from (anyB_of (f := (fun o => decide (S 25 o ≠ 0) && decide (S 21 o = x))) (i := i) (liveB_y h5 h7) (by omega))]; rfl) rfl (Nat.le_of_ble_eq_true rfl) (Nat.le_of_ble_eq_true rfl)
  exact L1 (S 4 0 + 1) 0 (by omega) (by omega) rfl

def rmX2_canGive : Room := { frames := 0, cells := 0, slots := 0, locals := 0 }
theorem hin_X2_canGive_2 : ∀ w ∈ wsX20, w ∈ wsX2_canGive := fun _ h => List.mem_cons_of_mem _ (List.mem_append_right _ h)
set_option maxHeartbeats 4000000 in
set_option maxRecDepth 100000 in
theorem c_X2_canGive (l : Launch) (D : va_G) (a : Nat → Nat) (c : Nat → ClassId) (S J : St) (hV : V S) (o x : Nat) (ho : o < 40) (hx : x < 40) : Cs l yX2_canGive wsX2_canGive rmX2_canGive D (tyW c) [.ref (a 4), .int (nI o), .int (nI x)] (wC a c S J) (nI (gvB S o x).toNat) (wC a c S J) := by
  refine Ci.ofZ (lv0 := [(0, .ref (a 4)), (1, .int (nI o)), (2, .int (nI x))]) (by decide +kernel) rfl (Nat.le_of_ble_eq_true rfl) rfl (fun G K hret => ?_)
  refine r_aload_n K dX2_canGive_0 rfl ?_
  refine r_get K hin_X2_canGive_2 4 (wC_g4 _ _ _ _) rfl 1 (by decide) (List.mem_of_getElem? (i := 1) rfl) rfl dX2_canGive_1 ?_
  refine r_iload_n K dX2_canGive_4 rfl ?_
  refine r_iald K 22 0 (wC_g22 _ _ _ _) rfl (by omega) (by decide) dX2_canGive_5 ?_
  have hf1 := V_b hV 22 o
  refine r_aload_n K dX2_canGive_6 rfl ?_
  refine r_get K hin_X2_canGive_2 4 (wC_g4 _ _ _ _) rfl 2 (by decide) (List.mem_of_getElem? (i := 2) rfl) rfl dX2_canGive_7 ?_
  refine r_iload_n K dX2_canGive_10 rfl ?_
  refine r_iald K 23 0 (wC_g23 _ _ _ _) rfl (by omega) (by decide) dX2_canGive_11 ?_
  have hf2 := V_b hV 23 x
  refine r_ic_ne K 19 dX2_canGive_12 (by decide) (by omega) (by omega) (fun h3 => ?_) (fun h3 => ?_)
  ·
    refine r_iconst K (nI 0) dX2_canGive_19 (by decide) ?_
    exact hret 0 0 _ _ _ 0 () dX2_canGive_20 (by decide) (by rw [show gvB S o x = false from decide_eq_false h3]; rfl) rfl (Nat.le_of_ble_eq_true rfl) (Nat.le_of_ble_eq_true rfl)
  ·
    refine r_iconst K (nI 1) dX2_canGive_15 (by decide) ?_
    refine r_goto K 20 dX2_canGive_16 (by decide) ?_
    exact hret 0 0 _ _ _ 1 () dX2_canGive_20 (by decide) (by rw [show gvB S o x = true from decide_eq_true h3]; rfl) rfl (Nat.le_of_ble_eq_true rfl) (Nat.le_of_ble_eq_true rfl)

def rmX2_canFollow : Room := { frames := 1, cells := 0, slots := 0, locals := 22 }
theorem hin_X2_canFollow_2 : ∀ w ∈ wsX20, w ∈ wsX2_canFollow := fun _ h => List.mem_cons_of_mem _ (List.mem_append_right _ h)
set_option maxHeartbeats 4000000 in
set_option maxRecDepth 100000 in
theorem c_X2_canFollow (l : Launch) (D : va_G) (a : Nat → Nat) (c : Nat → ClassId) (S J : St) (hV : V S) (pre : List Nat) (t x : Nat) (ht : pre.length = t + 1) (ht4 : t < 4) (hag : agr (J 26) pre) (hgN : ∀ q, q < pre.length → g0 pre q < 40) (hx : x < 40) : Cs l yX2_canFollow wsX2_canFollow rmX2_canFollow D (tyW c) [.ref (a 4), .int (nI t), .int (nI x)] (wC a c S J) (nI (cfL S pre x).toNat) (wC a c S J) := by
  refine Ci.ofZ (lv0 := [(0, .ref (a 4)), (1, .int (nI t)), (2, .int (nI x))]) (by decide +kernel) rfl (Nat.le_of_ble_eq_true rfl) rfl (fun G K hret => ?_)
  refine r_aload_n K dX2_canFollow_0 rfl ?_
  refine r_get K hin_X2_canFollow_2 4 (wC_g4 _ _ _ _) rfl 4 (by decide) (List.mem_of_getElem? (i := 1) rfl) rfl dX2_canFollow_1 ?_
  refine r_iload_n K dX2_canFollow_4 rfl ?_
  refine r_zald K 25 1 (wC_g25 _ _ _ _) rfl (by omega) (by decide) dX2_canFollow_5 ?_
  have hf1 := V_b hV 25 x
  refine r_if_eq K 23 dX2_canFollow_6 (by decide) (by omega) (fun h2 => ?_) (fun h2 => ?_)
  ·
    refine r_iconst K (nI 0) dX2_canFollow_23 (by decide) ?_
    exact hret 0 0 _ _ _ 0 () dX2_canFollow_24 (by decide) (by rw [show cfL S pre x = false from cfL_1 h2]; rfl) rfl (Nat.le_of_ble_eq_true rfl) (Nat.le_of_ble_eq_true rfl)
  ·
    refine r_aload_n K dX2_canFollow_9 rfl ?_
    refine r_aload_n K dX2_canFollow_10 rfl ?_
    refine r_get K hin_X2_canFollow_2 4 (wC_g4 _ _ _ _) rfl 5 (by decide) (List.mem_of_getElem? (i := 2) rfl) rfl dX2_canFollow_11 ?_
    refine r_iload_n K dX2_canFollow_14 rfl ?_
    refine r_iald K 26 0 (wC_g26 _ _ _ _) rfl (by omega) (by decide) dX2_canFollow_15 ?_
    refine r_top (congrArg nI (hag t (by omega))) ?_
    have hg3 := hgN t (by omega)
    refine r_iload_n K dX2_canFollow_16 rfl ?_
    refine r_callVs (rest := []) K (c_X2_canGive l D a c S J hV (g0 pre t) x (by omega) (by omega)) 2 gX2_canFollow_X2_canGive rfl (by decide +kernel) rfl (by decide) 4 (wC_g4 _ _ _ _) rfl rfl (Nat.le_of_ble_eq_true rfl) dX2_canFollow_17 rfl rfl ?_
    refine r_if_neB K 25 dX2_canFollow_20 (by decide) (fun h4 => ?_) (fun h4 => ?_)
    ·
      have hlv := h2
      have hgv : gvB S (g0 pre (pre.length - 1)) x = true := by rw [show pre.length - 1 = t by omega]; exact h4
      refine r_iconst K (nI 0) dX2_canFollow_25 (by decide) ?_
      refine r_istore_n (lv' := [(0, .ref (a 4)), (1, .int (nI t)), (2, .int (nI x)), (3, .int (nI 0))]) K dX2_canFollow_26 (by decide) rfl ?_
      have L5 : ∀ (z : Nat) (i : Nat), t + 1 < i + z → (i ≤ t + 1) → (allB (fun q => decide (S 24 (g0 pre q) ≠ S 24 x)) i = true) → G 0 0 (wC a c S J) [(0, .ref (a 4)), (1, .int (nI t)), (2, .int (nI x)), (3, .int (nI i))] 27 [] := by
        intro z
        induction z with
        | zero => intro i hz hi hn; exact absurd hz (by omega)
        | succ z ih =>
          intro i hz hi hn
          refine r_iload_n K dX2_canFollow_27 rfl ?_
          refine r_iload_n K dX2_canFollow_28 rfl ?_
          refine r_ic_gt K 60 dX2_canFollow_29 (by decide) (by omega) (by omega) (fun h6 => ?_) (fun h6 => ?_)
          ·
            refine r_iconst K (nI 1) dX2_canFollow_60 (by decide) ?_
            exact hret 0 0 _ _ _ 1 () dX2_canFollow_61 (by decide) (by rw [show cfL S pre x = true from cfL_y hlv hgv (by rw [show pre.length = i by omega]; exact hn)]; rfl) rfl (Nat.le_of_ble_eq_true rfl) (Nat.le_of_ble_eq_true rfl)
          ·
            refine r_aload_n K dX2_canFollow_32 rfl ?_
            refine r_get K hin_X2_canFollow_2 4 (wC_g4 _ _ _ _) rfl 3 (by decide) (List.mem_of_getElem? (i := 3) rfl) rfl dX2_canFollow_33 ?_
            refine r_aload_n K dX2_canFollow_36 rfl ?_
            refine r_get K hin_X2_canFollow_2 4 (wC_g4 _ _ _ _) rfl 5 (by decide) (List.mem_of_getElem? (i := 2) rfl) rfl dX2_canFollow_37 ?_
            refine r_iload_n K dX2_canFollow_40 rfl ?_
            refine r_iald K 26 0 (wC_g26 _ _ _ _) rfl (by omega) (by decide) dX2_canFollow_41 ?_
            refine r_top (congrArg nI (hag i (by omega))) ?_
            have hg7 := hgN i (by omega)
            refine r_iald K 24 0 (wC_g24 _ _ _ _) rfl (by omega) (by decide) dX2_canFollow_42 ?_
            have hf8 := V_b hV 24 (g0 pre i)
            refine r_aload_n K dX2_canFollow_43 rfl ?_
            refine r_get K hin_X2_canFollow_2 4 (wC_g4 _ _ _ _) rfl 3 (by decide) (List.mem_of_getElem? (i := 3) rfl) rfl dX2_canFollow_44 ?_
            refine r_iload_n K dX2_canFollow_47 rfl ?_
            refine r_iald K 24 0 (wC_g24 _ _ _ _) rfl (by omega) (by decide) dX2_canFollow_48 ?_
            have hf9 := V_b hV 24 x
            refine r_ic_ne K 54 dX2_canFollow_49 (by decide) (by omega) (by omega) (fun h10 => ?_) (fun h10 => ?_)
            ·
              refine r_iinc (lv' := [(0, .ref (a 4)), (1, .int (nI t)), (2, .int (nI x)), (3, .int (nI (i + 1)))]) K dX2_canFollow_54 rfl (nI_1 _) (by decide) rfl ?_
              refine r_goto K 27 dX2_canFollow_57 (by decide) ?_
              exact ih (i + 1) (by omega) (by omega) (allB_s hn (decide_eq_true h10))
            ·
              refine r_iconst K (nI 0) dX2_canFollow_52 (by decide) ?_
              exact hret 0 0 _ _ _ 0 () dX2_canFollow_53 (by decide) (by rw [show cfL S pre x = false from cfL_3 (q := i) (by omega) h10]; rfl) rfl (Nat.le_of_ble_eq_true rfl) (Nat.le_of_ble_eq_true rfl)
      exact L5 (t + 2) 0 (by omega) (by omega) rfl
    ·
      refine r_iconst K (nI 0) dX2_canFollow_23 (by decide) ?_
      exact hret 0 0 _ _ _ 0 () dX2_canFollow_24 (by decide) (by rw [show cfL S pre x = false from cfL_2 (by rw [show pre.length - 1 = t by omega]; exact h4)]; rfl) rfl (Nat.le_of_ble_eq_true rfl) (Nat.le_of_ble_eq_true rfl)

theorem hin_X2_closes_2 : ∀ w ∈ wsX20, w ∈ wsX2_closes := fun _ h => List.mem_cons_of_mem _ (List.mem_append_right _ h)
set_option maxHeartbeats 4000000 in
set_option maxRecDepth 100000 in
theorem c_X2_closes (l : Launch) (D : va_G) (a : Nat → Nat) (c : Nat → ClassId) (S : St) (hV : V S) : ∀ (m : Nat) (J : St) (pre : List Nat) (t len : Nat), pre.length = t + 1 → len = t + 1 + m → len ≤ 4 → agr (J 26) pre → (∀ q, q < pre.length → g0 pre q < S 4 0) →
    Ci l yX2_closes wsX2_closes (rmCl m) D (tyW c) [.ref (a 4), .int (nI t), .int (nI len)] (wC a c S J) (fun r J1 => closePost S J (S 4 0) m pre r J1) (fun J1 => wC a c S J1) := by
  have hof := V_offers hV
  intro m
  induction m with
  | zero =>
    intro J pre t len ht hlen hl4 hag hgN'
    have hgN : ∀ q, q < pre.length → g0 pre q < 40 := fun q hq => Nat.lt_of_lt_of_le (hgN' q hq) hof
    refine Ci.ofZ (lv0 := [(0, .ref (a 4)), (1, .int (nI t)), (2, .int (nI len))]) (by decide +kernel) rfl (Nat.le_of_ble_eq_true rfl) rfl (fun G K hret => ?_)
    refine r_iload_n K dX2_closes_0 rfl ?_
    refine r_iload_n K dX2_closes_1 rfl ?_
    refine r_iconst K (nI 1) dX2_closes_2 (by decide) ?_
    refine r_isub K dX2_closes_3 (by omega) ?_
    refine r_ic_ge K 12 dX2_closes_4 (by decide) (by omega) (by omega) (fun h1 => ?_) (fun h1 => ?_)
    ·
      refine r_aload_n K dX2_closes_12 rfl ?_
      refine r_aload_n K dX2_closes_13 rfl ?_
      refine r_get K hin_X2_closes_2 4 (wC_g4 _ _ _ _) rfl 5 (by decide) (List.mem_of_getElem? (i := 1) rfl) rfl dX2_closes_14 ?_
      refine r_iload_n K dX2_closes_17 rfl ?_
      refine r_iald K 26 0 (wC_g26 _ _ _ _) rfl (by omega) (by decide) dX2_closes_18 ?_
      refine r_top (congrArg nI (hag t (by omega))) ?_
      have hg2 := hgN t (by omega)
      refine r_aload_n K dX2_closes_19 rfl ?_
      refine r_get K hin_X2_closes_2 4 (wC_g4 _ _ _ _) rfl 5 (by decide) (List.mem_of_getElem? (i := 1) rfl) rfl dX2_closes_20 ?_
      refine r_iconst K (nI 0) dX2_closes_23 (by decide) ?_
      refine r_iald K 26 0 (wC_g26 _ _ _ _) rfl (by omega) (by decide) dX2_closes_24 ?_
      refine r_top (congrArg nI (hag 0 (by omega))) ?_
      have hg3 := hgN 0 (by omega)
      refine r_callVs (rest := []) K (c_X2_canGive l D a c S J hV (g0 pre t) (g0 pre 0) (by omega) (by omega)) 2 gX2_closes_X2_canGive rfl (by decide +kernel) rfl (by decide) 4 (wC_g4 _ _ _ _) rfl rfl (Nat.le_of_ble_eq_true rfl) dX2_closes_25 rfl rfl ?_
      exact hret 0 0 _ _ _ _ _ dX2_closes_28 (toNat_lt2 _) (close_0 ht hag) rfl (Nat.zero_le _) (Nat.zero_le _)
    ·
      exact (show False by omega).elim
  | succ m ihm =>
    intro J pre t len ht hlen hl4 hag hgN'
    have hgN : ∀ q, q < pre.length → g0 pre q < 40 := fun q hq => Nat.lt_of_lt_of_le (hgN' q hq) hof
    have hg0 := hgN' 0 (by omega)
    refine Ci.ofZ (lv0 := [(0, .ref (a 4)), (1, .int (nI t)), (2, .int (nI len))]) (by decide +kernel) rfl (Nat.le_of_ble_eq_true rfl) rfl (fun G K hret => ?_)
    refine r_iload_n K dX2_closes_0 rfl ?_
    refine r_iload_n K dX2_closes_1 rfl ?_
    refine r_iconst K (nI 1) dX2_closes_2 (by decide) ?_
    refine r_isub K dX2_closes_3 (by omega) ?_
    refine r_ic_ge K 12 dX2_closes_4 (by decide) (by omega) (by omega) (fun h1 => ?_) (fun h1 => ?_)
    ·
      exact (show False by omega).elim
    ·
      refine r_iload_n K dX2_closes_7 rfl ?_
      refine r_iconst K (nI 3) dX2_closes_8 (by decide) ?_
      refine r_ic_lt K 29 dX2_closes_9 (by decide) (by omega) (by decide) (fun h2 => ?_) (fun h2 => ?_)
      ·
        refine r_aload_n K dX2_closes_29 rfl ?_
        refine r_get K hin_X2_closes_2 4 (wC_g4 _ _ _ _) rfl 5 (by decide) (List.mem_of_getElem? (i := 1) rfl) rfl dX2_closes_30 ?_
        refine r_iconst K (nI 0) dX2_closes_33 (by decide) ?_
        refine r_iald K 26 0 (wC_g26 _ _ _ _) rfl (by omega) (by decide) dX2_closes_34 ?_
        refine r_top (congrArg nI (hag 0 (by omega))) ?_
        have hg3 := hgN 0 (by omega)
        refine r_iconst K (nI 1) dX2_closes_35 (by decide) ?_
        refine r_iadd K dX2_closes_36 ?_
        refine r_istore_n (lv' := [(0, .ref (a 4)), (1, .int (nI t)), (2, .int (nI len)), (3, .int (nI (g0 pre 0 + 1)))]) K dX2_closes_37 (by decide) rfl ?_
        have L4 : ∀ (z : Nat) (x : Nat) (Jx : St), S 4 0 < x + z → (x ≤ S 4 0) → (∀ g, g ≠ 26 → Jx g = J g) → (agr (Jx 26) pre) → (comp S (S 4 0) (m + 1) pre = scan (fcp S (S 4 0) m pre) (S 4 0 - x) x) → G 0 0 (wC a c S Jx) [(0, .ref (a 4)), (1, .int (nI t)), (2, .int (nI len)), (3, .int (nI x))] 38 [] := by
          intro z
          induction z with
          | zero => intro x Jx hz hx ho hag hsc; exact absurd hz (by omega)
          | succ z ih =>
            intro x Jx hz hx ho hag hsc
            refine r_iload_n K dX2_closes_38 rfl ?_
            refine r_aload_n K dX2_closes_39 rfl ?_
            refine r_get K hin_X2_closes_2 4 (wC_g4 _ _ _ _) rfl 6 (by decide) (List.mem_of_getElem? (i := 2) rfl) rfl dX2_closes_40 ?_
            have hf5 := V_b hV 4 0
            refine r_ic_ge K 83 dX2_closes_43 (by decide) (by omega) (by omega) (fun h6 => ?_) (fun h6 => ?_)
            ·
              refine r_iconst K (nI 0) dX2_closes_83 (by decide) ?_
              exact hret 0 0 _ _ _ 0 _ dX2_closes_84 (by decide) (close_no (by rw [hsc]; exact scan_end (by omega)) ho hag) rfl (Nat.zero_le _) (Nat.zero_le _)
            ·
              refine r_aload_n K dX2_closes_46 rfl ?_
              refine r_iload_n K dX2_closes_47 rfl ?_
              refine r_iload_n K dX2_closes_48 rfl ?_
              refine r_callVs (rest := []) K (c_X2_canFollow l D a c S Jx hV pre t x ht (by omega) hag hgN (by omega)) 2 gX2_closes_X2_canFollow rfl (by decide +kernel) rfl (by simp only [okRoom, rmCl, rmX2_canFollow]; omega) 4 (wC_g4 _ _ _ _) rfl rfl (Nat.le_of_ble_eq_true rfl) dX2_closes_49 rfl rfl ?_
              refine r_if_eqB K 77 dX2_closes_52 (by decide) (fun h7 => ?_) (fun h7 => ?_)
              ·
                refine r_iinc (lv' := [(0, .ref (a 4)), (1, .int (nI t)), (2, .int (nI len)), (3, .int (nI (x + 1)))]) K dX2_closes_77 rfl (nI_1 _) (by decide) rfl ?_
                refine r_goto K 38 dX2_closes_80 (by decide) ?_
                exact ih (x + 1) Jx (by omega) (by omega) ho hag (by rw [hsc]; exact scan_at (by omega) (fcp_n h7))
              ·
                have hcf := h7
                refine r_aload_n K dX2_closes_55 rfl ?_
                refine r_get K hin_X2_closes_2 4 (wC_g4 _ _ _ _) rfl 5 (by decide) (List.mem_of_getElem? (i := 1) rfl) rfl dX2_closes_56 ?_
                refine r_iload_n K dX2_closes_59 rfl ?_
                refine r_iconst K (nI 1) dX2_closes_60 (by decide) ?_
                refine r_iadd K dX2_closes_61 ?_
                refine r_iload_n K dX2_closes_62 rfl ?_
                refine r_iast K 26 0 (wC_g26 _ _ _ _) rfl (by omega) (by decide) dX2_closes_63 (wC_s26 _ _ _ _ _ _) ?_
                refine r_aload_n K dX2_closes_64 rfl ?_
                refine r_iload_n K dX2_closes_65 rfl ?_
                refine r_iconst K (nI 1) dX2_closes_66 (by decide) ?_
                refine r_iadd K dX2_closes_67 ?_
                refine r_iload_n K dX2_closes_68 rfl ?_
                have hag2 : agr (up Jx 26 (t + 1) x 26) (pre ++ [x]) := by rw [← ht]; exact agr_up hag
                have hgN2 : ∀ q, q < (pre ++ [x]).length → g0 (pre ++ [x]) q < S 4 0 := by
                  intro q hq
                  rw [List.length_append, List.length_singleton] at hq
                  by_cases e : q = pre.length
                  · rw [e, g0_last]; omega
                  · rw [g0_app (by omega)]; exact hgN' q (by omega)
                refine r_callS (rest := []) K (ihm (up Jx 26 (t + 1) x) (pre ++ [x]) (t + 1) len (by rw [List.length_append, List.length_singleton]; omega) (by omega) hl4 hag2 hgN2) 3 gX2_closes_X2_closes rfl (by decide +kernel) rfl (by simp only [okRoom, rmCl]; omega) rfl (Nat.le_of_ble_eq_true rfl) dX2_closes_69 (fun r J1 hp => ?_)
                obtain ⟨hr, ho1, hagp, hl1⟩ := hp
                subst hr
                refine r_if_eqB K 77 dX2_closes_72 (by decide) (fun h8 => ?_) (fun h8 => ?_)
                ·
                  refine r_iinc (lv' := [(0, .ref (a 4)), (1, .int (nI t)), (2, .int (nI len)), (3, .int (nI (x + 1)))]) K dX2_closes_77 rfl (nI_1 _) (by decide) rfl ?_
                  refine r_goto K 38 dX2_closes_80 (by decide) ?_
                  exact ih (x + 1) J1 (by omega) (by omega) (fun g hg => (ho1 g hg).trans ((up_ne hg).trans (ho g hg))) (agr_pre hagp) (by rw [hsc]; exact scan_at (by omega) (by rw [fcp_c hcf]; exact isSome_f h8))
                ·
                  refine r_iconst K (nI 1) dX2_closes_75 (by decide) ?_
                  obtain ⟨l', hl'⟩ := isSome_t h8
                  exact hret 0 0 _ _ _ 1 _ dX2_closes_76 (by decide) (close_yes (l := l') (by rw [hsc]; exact scan_hit (by omega) (by rw [fcp_c hcf]; exact hl')) (fun g hg => (ho1 g hg).trans ((up_ne hg).trans (ho g hg))) (agr_pre hagp) (hl1 _ hl')) rfl (Nat.zero_le _) (Nat.zero_le _)
        exact L4 (S 4 0 + 1) (g0 pre 0 + 1) J (by omega) (by omega) (fun _ _ => rfl) hag rfl
      ·
        exact (show False by omega).elim

def rmX2_findRing : Room := { frames := 9, cells := 0, slots := 0, locals := 300 }
theorem hin_X2_findRing_2 : ∀ w ∈ wsX20, w ∈ wsX2_findRing := fun _ h => List.mem_cons_of_mem _ (List.mem_append_right _ h)
set_option maxHeartbeats 4000000 in
set_option maxRecDepth 100000 in
theorem c_X2_findRing (l : Launch) (D : va_G) (a : Nat → Nat) (c : Nat → ClassId) (S J : St) (hV : V S) : Ci l yX2_findRing wsX2_findRing rmX2_findRing D (tyW c) [.ref (a 4)] (wC a c S J) (fun r J1 => findPost S J r J1) (fun J1 => wC a c S J1) := by
  refine Ci.of (lv0 := [(0, .ref (a 4))]) (by decide +kernel) rfl (Nat.le_of_ble_eq_true rfl) rfl (fun G K hret => ?_)
  have hof := V_offers hV
  refine r_iconst K (nI 2) dX2_findRing_0 (by decide) ?_
  refine r_istore_n (lv' := [(0, .ref (a 4)), (1, .int (nI 2))]) K dX2_findRing_1 (by decide) rfl ?_
  have L1 : ∀ (z : Nat) (len : Nat) (Jx : St), 5 < len + z → (2 ≤ len) → (len ≤ 5) → (∀ g, g ≠ 26 → Jx g = J g) → (frl S = frk S (S 4 0) (5 - len) len) → G 0 0 (wC a c S Jx) [(0, .ref (a 4)), (1, .int (nI len))] 2 [] := by
    intro z
    induction z with
    | zero => intro len Jx hz h2 h5 ho hfr; exact absurd hz (by omega)
    | succ z ih1 =>
      intro len Jx hz h2 h5 ho hfr
      refine r_iload_n K dX2_findRing_2 rfl ?_
      refine r_iconst K (nI 4) dX2_findRing_3 (by decide) ?_
      refine r_ic_gt K 56 dX2_findRing_4 (by decide) (by omega) (by decide) (fun h2 => ?_) (fun h2 => ?_)
      ·
        refine r_iconst K (nI 0) dX2_findRing_56 (by decide) ?_
        exact hret 0 0 _ _ _ _ _ dX2_findRing_57 (find_no (by rw [hfr, show 5 - len = 0 by omega]; rfl) ho) rfl (Nat.le_of_ble_eq_true rfl) (Nat.le_of_ble_eq_true rfl)
      ·
        refine r_iconst K (nI 0) dX2_findRing_7 (by decide) ?_
        refine r_istore_n (lv' := [(0, .ref (a 4)), (1, .int (nI len)), (2, .int (nI 0))]) K dX2_findRing_8 (by decide) rfl ?_
        have M3 : ∀ (z2 : Nat) (x : Nat) (Jy : St), S 4 0 < x + z2 → (x ≤ S 4 0) → (∀ g, g ≠ 26 → Jy g = J g) → (ringL S (S 4 0) len = scan (topf S (S 4 0) len) (S 4 0 - x) x) → G 0 0 (wC a c S Jy) [(0, .ref (a 4)), (1, .int (nI len)), (2, .int (nI x))] 9 [] := by
          intro z2
          induction z2 with
          | zero => intro x Jy hz hx ho2 hsc; exact absurd hz (by omega)
          | succ z2 ih =>
            intro x Jy hz hx ho2 hsc
            refine r_iload_n K dX2_findRing_9 rfl ?_
            refine r_aload_n K dX2_findRing_10 rfl ?_
            refine r_get K hin_X2_findRing_2 4 (wC_g4 _ _ _ _) rfl 6 (by decide) (List.mem_of_getElem? (i := 1) rfl) rfl dX2_findRing_11 ?_
            have hf4 := V_b hV 4 0
            refine r_ic_ge K 50 dX2_findRing_14 (by decide) (by omega) (by omega) (fun h5 => ?_) (fun h5 => ?_)
            ·
              refine r_iinc (lv' := [(0, .ref (a 4)), (1, .int (nI (len + 1))), (2, .int (nI x))]) K dX2_findRing_50 rfl (nI_1 _) (by decide) rfl ?_
              refine r_goto K 2 dX2_findRing_53 (by decide) ?_
              refine r_pick [0, 1] K rfl ?_
              exact ih1 (len + 1) _ (by omega) (by omega) (by omega) ho2 (by rw [hfr, show 5 - len = (5 - (len + 1)) + 1 by omega]; exact frk_n (by rw [hsc]; exact scan_end (by omega)))
            ·
              refine r_aload_n K dX2_findRing_17 rfl ?_
              refine r_get K hin_X2_findRing_2 4 (wC_g4 _ _ _ _) rfl 5 (by decide) (List.mem_of_getElem? (i := 2) rfl) rfl dX2_findRing_18 ?_
              refine r_iconst K (nI 0) dX2_findRing_21 (by decide) ?_
              refine r_iload_n K dX2_findRing_22 rfl ?_
              refine r_iast K 26 0 (wC_g26 _ _ _ _) rfl (by omega) (by decide) dX2_findRing_23 (wC_s26 _ _ _ _ _ _) ?_
              refine r_aload_n K dX2_findRing_24 rfl ?_
              refine r_get K hin_X2_findRing_2 4 (wC_g4 _ _ _ _) rfl 4 (by decide) (List.mem_of_getElem? (i := 3) rfl) rfl dX2_findRing_25 ?_
              refine r_iload_n K dX2_findRing_28 rfl ?_
              refine r_zald K 25 1 (wC_g25 _ _ _ _) rfl (by omega) (by decide) dX2_findRing_29 ?_
              have hf6 := V_b hV 25 x
              refine r_if_eq K 44 dX2_findRing_30 (by decide) (by omega) (fun h7 => ?_) (fun h7 => ?_)
              ·
                refine r_iinc (lv' := [(0, .ref (a 4)), (1, .int (nI len)), (2, .int (nI (x + 1)))]) K dX2_findRing_44 rfl (nI_1 _) (by decide) rfl ?_
                refine r_goto K 9 dX2_findRing_47 (by decide) ?_
                exact ih (x + 1) _ (by omega) (by omega) (fun g hg => (up_ne hg).trans (ho2 g hg)) (by rw [hsc]; exact scan_at (by omega) (topf_n h7))
              ·
                have hlv := h7
                refine r_aload_n K dX2_findRing_33 rfl ?_
                refine r_iconst K (nI 0) dX2_findRing_34 (by decide) ?_
                refine r_iload_n K dX2_findRing_35 rfl ?_
                have hgN2 : ∀ q, q < [x].length → g0 [x] q < S 4 0 := by
                  intro q hq
                  have e : q = 0 := by simpa using hq
                  subst e
                  show x < S 4 0
                  omega
                refine r_callS (rest := []) K (c_X2_closes l D a c S hV (len - 1) (up Jy 26 0 x) [x] 0 len rfl (by omega) (by omega) agr_one hgN2) 3 gX2_findRing_X2_closes rfl (by decide +kernel) rfl (by simp only [okRoom, rmCl, rmX2_findRing]; omega) rfl (Nat.le_of_ble_eq_true rfl) dX2_findRing_36 (fun r J1 hp => ?_)
                obtain ⟨hr, ho1, hagp, hl1⟩ := hp
                subst hr
                refine r_if_eqB K 44 dX2_findRing_39 (by decide) (fun h8 => ?_) (fun h8 => ?_)
                ·
                  refine r_iinc (lv' := [(0, .ref (a 4)), (1, .int (nI len)), (2, .int (nI (x + 1)))]) K dX2_findRing_44 rfl (nI_1 _) (by decide) rfl ?_
                  refine r_goto K 9 dX2_findRing_47 (by decide) ?_
                  exact ih (x + 1) J1 (by omega) (by omega) (fun g hg => (ho1 g hg).trans ((up_ne hg).trans (ho2 g hg))) (by rw [hsc]; exact scan_at (by omega) (by rw [topf_c hlv]; exact isSome_f h8))
                ·
                  refine r_iload_n K dX2_findRing_42 rfl ?_
                  obtain ⟨l', hl'⟩ := isSome_t h8
                  exact hret 0 0 _ _ _ _ _ dX2_findRing_43 (find_yes (l := l') (by omega) (by omega) hfr (by rw [hsc]; exact scan_hit (by omega) (by rw [topf_c hlv]; exact hl')) (fun g hg => (ho1 g hg).trans ((up_ne hg).trans (ho2 g hg))) (hl1 _ hl')) rfl (Nat.le_of_ble_eq_true rfl) (Nat.le_of_ble_eq_true rfl)
        exact M3 (S 4 0 + 1) 0 Jx (by omega) (by omega) ho (by rw [Nat.sub_zero]; rfl)
  exact L1 4 2 J (by omega) (by omega) (by omega) (fun _ _ => rfl) rfl
