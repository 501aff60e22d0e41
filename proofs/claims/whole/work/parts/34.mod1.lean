def rmX7_thrown : Room := { frames := 0, cells := 0, slots := 0, locals := 0 }
theorem hin_X7_thrown_7 : ∀ w ∈ wsX70, w ∈ wsX7_thrown := fun _ h => List.mem_cons_of_mem _ (List.mem_append_right _ h)
set_option maxHeartbeats 4000000 in
set_option maxRecDepth 100000 in
theorem c_X7_thrown (l : Launch) (D : va_G) (b : Nat → Nat) (c : Nat → ClassId) (S J : St)  : Cs l yX7_thrown wsX7_thrown rmX7_thrown D (tyW c) [.ref (b 0)] (wM b c S J) (nI (J 0 0)) (wM b c S J) := by
  refine Ci.of (lv0 := [(0, .ref (b 0))]) (by decide +kernel) rfl (Nat.le_of_ble_eq_true rfl) rfl (fun G K hret => ?_)
  refine r_aload_n K dX7_thrown_0 rfl ?_
  refine r_get K hin_X7_thrown_7 0 (wM_g0 _ _ _ _) rfl 22 (by decide) (List.mem_of_getElem? (i := 1) rfl) rfl dX7_thrown_1 ?_
  exact hret 0 0 _ _ _ (nI (J 0 0)) () dX7_thrown_4 rfl rfl (Nat.le_of_ble_eq_true rfl) (Nat.le_of_ble_eq_true rfl)

def rmX7_in : Room := { frames := 0, cells := 0, slots := 0, locals := 0 }
set_option maxHeartbeats 4000000 in
set_option maxRecDepth 100000 in
theorem c_X7_in (l : Launch) (D : va_G) (b : Nat → Nat) (c : Nat → ClassId) (S J : St) (v lo hi : Int32) : Cs l yX7_in wsX7_in rmX7_in D (tyW c) [.int v, .int lo, .int hi] (wM b c S J) (nI (inI v lo hi).toNat) (wM b c S J) := by
  refine Ci.ofZ (lv0 := [(0, .int v), (1, .int lo), (2, .int hi)]) (by decide +kernel) rfl (Nat.le_of_ble_eq_true rfl) rfl (fun G K hret => ?_)
  refine r_iload_n K dX7_in_0 rfl ?_
  refine r_iload_n K dX7_in_1 rfl ?_
  refine r_ic_ltR K 14 dX7_in_2 (by decide) (fun h1 => ?_) (fun h1 => ?_)
  ·
    refine r_iconst K (nI 0) dX7_in_14 (by decide) ?_
    exact hret 0 0 _ _ _ 0 () dX7_in_15 (by decide) (by rw [show inI v lo hi = false from inI_1 h1]; rfl) rfl (Nat.le_of_ble_eq_true rfl) (Nat.le_of_ble_eq_true rfl)
  ·
    refine r_iload_n K dX7_in_5 rfl ?_
    refine r_iload_n K dX7_in_6 rfl ?_
    refine r_ic_gtR K 14 dX7_in_7 (by decide) (fun h2 => ?_) (fun h2 => ?_)
    ·
      refine r_iconst K (nI 0) dX7_in_14 (by decide) ?_
      exact hret 0 0 _ _ _ 0 () dX7_in_15 (by decide) (by rw [show inI v lo hi = false from inI_2 h2]; rfl) rfl (Nat.le_of_ble_eq_true rfl) (Nat.le_of_ble_eq_true rfl)
    ·
      refine r_iconst K (nI 1) dX7_in_10 (by decide) ?_
      refine r_goto K 15 dX7_in_11 (by decide) ?_
      exact hret 0 0 _ _ _ 1 () dX7_in_15 (by decide) (by rw [show inI v lo hi = true from inI_3 h1 h2]; rfl) rfl (Nat.le_of_ble_eq_true rfl) (Nat.le_of_ble_eq_true rfl)

def rmX7_goes : Room := { frames := 0, cells := 0, slots := 0, locals := 0 }
theorem hin_X7_goes_7 : ∀ w ∈ wsX70, w ∈ wsX7_goes := fun _ h => List.mem_cons_of_mem _ (List.mem_append_right _ h)
set_option maxHeartbeats 4000000 in
set_option maxRecDepth 100000 in
theorem c_X7_goes (l : Launch) (D : va_G) (b : Nat → Nat) (c : Nat → ClassId) (S J : St) (b1 b2 b3 : Bool) : Cs l yX7_goes wsX7_goes rmX7_goes D (tyW c) [.ref (b 0), .int (nI ((b1).toNat)), .int (nI ((b2).toNat)), .int (nI ((b3).toNat))] (wM b c S J) (nI (decide (thr b1 b2 b3 = 0)).toNat) (wM b c S (up J 0 0 (thr b1 b2 b3))) := by
  refine Ci.ofZ (lv0 := [(0, .ref (b 0)), (1, .int (nI ((b1).toNat))), (2, .int (nI ((b2).toNat))), (3, .int (nI ((b3).toNat)))]) (by decide +kernel) rfl (Nat.le_of_ble_eq_true rfl) rfl (fun G K hret => ?_)
  refine r_aload_n K dX7_goes_0 rfl ?_
  refine r_iload_n K dX7_goes_1 rfl ?_
  refine r_if_neB K 9 dX7_goes_2 (by decide) (fun h1 => ?_) (fun h1 => ?_)
  ·
    refine r_iload_n K dX7_goes_9 rfl ?_
    refine r_if_neB K 17 dX7_goes_10 (by decide) (fun h2 => ?_) (fun h2 => ?_)
    ·
      refine r_iload_n K dX7_goes_17 rfl ?_
      refine r_if_neB K 25 dX7_goes_18 (by decide) (fun h3 => ?_) (fun h3 => ?_)
      ·
        refine r_iconst K (nI 0) dX7_goes_25 (by decide) ?_
        refine r_put K hin_X7_goes_7 tyX7 tyX7_ok nmX7 0 (wM_g0 _ _ _ _) rfl 22 (by decide) (List.mem_of_getElem? (i := 1) rfl) rfl rfl rfl (Nat.le_of_ble_eq_true rfl) dX7_goes_26 (wM_s0_22 _ _ _ _ _) ?_
        refine r_aload_n K dX7_goes_29 rfl ?_
        refine r_get K hin_X7_goes_7 0 (wM_g0 _ _ _ _) rfl 22 (by decide) (List.mem_of_getElem? (i := 1) rfl) rfl dX7_goes_30 ?_
        refine r_top (congrArg nI up_same) ?_
        refine r_if_ne K 40 dX7_goes_33 (by decide) (by decide) (fun h5 => absurd h5 (by decide)) (fun h5 => ?_)
        refine r_iconst K (nI 1) dX7_goes_36 (by decide) ?_
        refine r_goto K 41 dX7_goes_37 (by decide) ?_
        exact hret 0 0 _ _ _ 1 () dX7_goes_41 (by decide) (by simp [thr, h1, h2, h3]) (by simp [thr, h1, h2, h3]) (Nat.le_of_ble_eq_true rfl) (Nat.le_of_ble_eq_true rfl)
      ·
        refine r_iconst K (nI 3) dX7_goes_21 (by decide) ?_
        refine r_goto K 26 dX7_goes_22 (by decide) ?_
        refine r_put K hin_X7_goes_7 tyX7 tyX7_ok nmX7 0 (wM_g0 _ _ _ _) rfl 22 (by decide) (List.mem_of_getElem? (i := 1) rfl) rfl rfl rfl (Nat.le_of_ble_eq_true rfl) dX7_goes_26 (wM_s0_22 _ _ _ _ _) ?_
        refine r_aload_n K dX7_goes_29 rfl ?_
        refine r_get K hin_X7_goes_7 0 (wM_g0 _ _ _ _) rfl 22 (by decide) (List.mem_of_getElem? (i := 1) rfl) rfl dX7_goes_30 ?_
        refine r_top (congrArg nI up_same) ?_
        refine r_if_ne K 40 dX7_goes_33 (by decide) (by decide) (fun h7 => ?_) (fun h7 => absurd h7 (by decide))
        refine r_iconst K (nI 0) dX7_goes_40 (by decide) ?_
        exact hret 0 0 _ _ _ 0 () dX7_goes_41 (by decide) (by simp [thr, h1, h2, h3]) (by simp [thr, h1, h2, h3]) (Nat.le_of_ble_eq_true rfl) (Nat.le_of_ble_eq_true rfl)
    ·
      refine r_iconst K (nI 2) dX7_goes_13 (by decide) ?_
      refine r_goto K 26 dX7_goes_14 (by decide) ?_
      refine r_put K hin_X7_goes_7 tyX7 tyX7_ok nmX7 0 (wM_g0 _ _ _ _) rfl 22 (by decide) (List.mem_of_getElem? (i := 1) rfl) rfl rfl rfl (Nat.le_of_ble_eq_true rfl) dX7_goes_26 (wM_s0_22 _ _ _ _ _) ?_
      refine r_aload_n K dX7_goes_29 rfl ?_
      refine r_get K hin_X7_goes_7 0 (wM_g0 _ _ _ _) rfl 22 (by decide) (List.mem_of_getElem? (i := 1) rfl) rfl dX7_goes_30 ?_
      refine r_top (congrArg nI up_same) ?_
      refine r_if_ne K 40 dX7_goes_33 (by decide) (by decide) (fun h9 => ?_) (fun h9 => absurd h9 (by decide))
      refine r_iconst K (nI 0) dX7_goes_40 (by decide) ?_
      exact hret 0 0 _ _ _ 0 () dX7_goes_41 (by decide) (by simp [thr, h1, h2]) (by simp [thr, h1, h2]) (Nat.le_of_ble_eq_true rfl) (Nat.le_of_ble_eq_true rfl)
  ·
    refine r_iconst K (nI 1) dX7_goes_5 (by decide) ?_
    refine r_goto K 26 dX7_goes_6 (by decide) ?_
    refine r_put K hin_X7_goes_7 tyX7 tyX7_ok nmX7 0 (wM_g0 _ _ _ _) rfl 22 (by decide) (List.mem_of_getElem? (i := 1) rfl) rfl rfl rfl (Nat.le_of_ble_eq_true rfl) dX7_goes_26 (wM_s0_22 _ _ _ _ _) ?_
    refine r_aload_n K dX7_goes_29 rfl ?_
    refine r_get K hin_X7_goes_7 0 (wM_g0 _ _ _ _) rfl 22 (by decide) (List.mem_of_getElem? (i := 1) rfl) rfl dX7_goes_30 ?_
    refine r_top (congrArg nI up_same) ?_
    refine r_if_ne K 40 dX7_goes_33 (by decide) (by decide) (fun h11 => ?_) (fun h11 => absurd h11 (by decide))
    refine r_iconst K (nI 0) dX7_goes_40 (by decide) ?_
    exact hret 0 0 _ _ _ 0 () dX7_goes_41 (by decide) (by simp [thr, h1]) (by simp [thr, h1]) (Nat.le_of_ble_eq_true rfl) (Nat.le_of_ble_eq_true rfl)

def rmX7_told : Room := { frames := 0, cells := 0, slots := 0, locals := 0 }
theorem hin_X7_told_7 : ∀ w ∈ wsX70, w ∈ wsX7_told := fun _ h => List.mem_cons_of_mem _ (List.mem_append_right _ h)
set_option maxHeartbeats 4000000 in
set_option maxRecDepth 100000 in
theorem c_X7_told (l : Launch) (D : va_G) (b : Nat → Nat) (c : Nat → ClassId) (S J : St) (v : Int32) : Cs l yX7_told wsX7_told rmX7_told D (tyW c) [.ref (b 0), .int v] (wM b c S J) (v) (wM b c S (up J 0 0 0)) := by
  refine Ci.of (lv0 := [(0, .ref (b 0)), (1, .int v)]) (by decide +kernel) rfl (Nat.le_of_ble_eq_true rfl) rfl (fun G K hret => ?_)
  refine r_aload_n K dX7_told_0 rfl ?_
  refine r_iconst K (nI 0) dX7_told_1 (by decide) ?_
  refine r_put K hin_X7_told_7 tyX7 tyX7_ok nmX7 0 (wM_g0 _ _ _ _) rfl 22 (by decide) (List.mem_of_getElem? (i := 1) rfl) rfl rfl rfl (Nat.le_of_ble_eq_true rfl) dX7_told_2 (wM_s0_22 _ _ _ _ _) ?_
  refine r_iload_n K dX7_told_5 rfl ?_
  exact hret 0 0 _ _ _ (v) () dX7_told_6 rfl rfl (Nat.le_of_ble_eq_true rfl) (Nat.le_of_ble_eq_true rfl)

def rmX7_isKind : Room := { frames := 1, cells := 0, slots := 0, locals := 22 }
set_option maxHeartbeats 4000000 in
set_option maxRecDepth 100000 in
theorem c_X7_isKind (l : Launch) (D : va_G) (b : Nat → Nat) (c : Nat → ClassId) (S J : St) (x : Int32) : Cs l yX7_isKind wsX7_isKind rmX7_isKind D (tyW c) [.int x] (wM b c S J) (nI (inB x 0 15).toNat) (wM b c S J) := by
  refine Ci.ofZ (lv0 := [(0, .int x)]) (by decide +kernel) rfl (Nat.le_of_ble_eq_true rfl) rfl (fun G K hret => ?_)
  refine r_iload_n K dX7_isKind_0 rfl ?_
  refine r_iconst K (nI 0) dX7_isKind_1 (by decide) ?_
  refine r_bipush K (nI 15) dX7_isKind_2 (by decide) ?_
  refine r_callSs (rest := []) K (c_X7_in l D b c S J (x) (nI 0) (nI 15)) 3 gX7_isKind_X7_in rfl (by decide +kernel) rfl (by decide) rfl (Nat.le_of_ble_eq_true rfl) dX7_isKind_4 rfl rfl ?_
  refine r_top (congrArg (fun b : Bool => nI b.toNat) (inI_nn (by decide) (by decide))) ?_
  exact hret 0 0 _ _ _ ((inB x 0 15).toNat) () dX7_isKind_7 (toNat_lt2 _) rfl rfl (Nat.le_of_ble_eq_true rfl) (Nat.le_of_ble_eq_true rfl)

def rmX7_isCollector : Room := { frames := 1, cells := 0, slots := 0, locals := 22 }
set_option maxHeartbeats 4000000 in
set_option maxRecDepth 100000 in
theorem c_X7_isCollector (l : Launch) (D : va_G) (b : Nat → Nat) (c : Nat → ClassId) (S J : St) (x : Int32) : Cs l yX7_isCollector wsX7_isCollector rmX7_isCollector D (tyW c) [.int x] (wM b c S J) (nI (inB x 0 5).toNat) (wM b c S J) := by
  refine Ci.ofZ (lv0 := [(0, .int x)]) (by decide +kernel) rfl (Nat.le_of_ble_eq_true rfl) rfl (fun G K hret => ?_)
  refine r_iload_n K dX7_isCollector_0 rfl ?_
  refine r_iconst K (nI 0) dX7_isCollector_1 (by decide) ?_
  refine r_iconst K (nI 5) dX7_isCollector_2 (by decide) ?_
  refine r_callSs (rest := []) K (c_X7_in l D b c S J (x) (nI 0) (nI 5)) 3 gX7_isCollector_X7_in rfl (by decide +kernel) rfl (by decide) rfl (Nat.le_of_ble_eq_true rfl) dX7_isCollector_3 rfl rfl ?_
  refine r_top (congrArg (fun b : Bool => nI b.toNat) (inI_nn (by decide) (by decide))) ?_
  exact hret 0 0 _ _ _ ((inB x 0 5).toNat) () dX7_isCollector_6 (toNat_lt2 _) rfl rfl (Nat.le_of_ble_eq_true rfl) (Nat.le_of_ble_eq_true rfl)

def rmX7_isCard : Room := { frames := 1, cells := 0, slots := 0, locals := 22 }
theorem hin_X7_isCard_7 : ∀ w ∈ wsX70, w ∈ wsX7_isCard := fun _ h => List.mem_cons_of_mem _ (List.mem_append_right _ h)
set_option maxHeartbeats 4000000 in
set_option maxRecDepth 100000 in
theorem c_X7_isCard (l : Launch) (D : va_G) (b : Nat → Nat) (c : Nat → ClassId) (S J : St) (hV : V S) (x : Int32) : Cs l yX7_isCard wsX7_isCard rmX7_isCard D (tyW c) [.ref (b 0), .int x] (wM b c S J) (nI (inB x 0 ((S 2 0 : Nat) - 1)).toNat) (wM b c S J) := by
  refine Ci.ofZ (lv0 := [(0, .ref (b 0)), (1, .int x)]) (by decide +kernel) rfl (Nat.le_of_ble_eq_true rfl) rfl (fun G K hret => ?_)
  have hsm := V_b hV 2 0
  refine r_iload_n K dX7_isCard_0 rfl ?_
  refine r_iconst K (nI 0) dX7_isCard_1 (by decide) ?_
  refine r_aload_n K dX7_isCard_2 rfl ?_
  refine r_get K hin_X7_isCard_7 0 (wM_g0 _ _ _ _) rfl 7 (by decide) (List.mem_of_getElem? (i := 1) rfl) rfl dX7_isCard_3 ?_
  have hf1 := V_b hV 2 0
  refine r_iconst K (nI 1) dX7_isCard_6 (by decide) ?_
  refine r_isubR K dX7_isCard_7 ?_
  refine r_callSs (rest := []) K (c_X7_in l D b c S J (x) (nI 0) ((nI (S 2 0) - nI 1))) 3 gX7_isCard_X7_in rfl (by decide +kernel) rfl (by decide) rfl (Nat.le_of_ble_eq_true rfl) dX7_isCard_8 rfl rfl ?_
  refine r_top (congrArg (fun b : Bool => nI b.toNat) (inI_n1 (by omega))) ?_
  exact hret 0 0 _ _ _ ((inB x 0 (((S 2 0) : Nat) - 1)).toNat) () dX7_isCard_11 (toNat_lt2 _) rfl rfl (Nat.le_of_ble_eq_true rfl) (Nat.le_of_ble_eq_true rfl)

def rmX7_isDeck : Room := { frames := 1, cells := 0, slots := 0, locals := 22 }
theorem hin_X7_isDeck_7 : ∀ w ∈ wsX70, w ∈ wsX7_isDeck := fun _ h => List.mem_cons_of_mem _ (List.mem_append_right _ h)
set_option maxHeartbeats 4000000 in
set_option maxRecDepth 100000 in
theorem c_X7_isDeck (l : Launch) (D : va_G) (b : Nat → Nat) (c : Nat → ClassId) (S J : St) (hV : V S) (x : Int32) : Cs l yX7_isDeck wsX7_isDeck rmX7_isDeck D (tyW c) [.ref (b 0), .int x] (wM b c S J) (nI (inB x 0 ((S 3 0 : Nat) - 1)).toNat) (wM b c S J) := by
  refine Ci.ofZ (lv0 := [(0, .ref (b 0)), (1, .int x)]) (by decide +kernel) rfl (Nat.le_of_ble_eq_true rfl) rfl (fun G K hret => ?_)
  have hsm := V_b hV 3 0
  refine r_iload_n K dX7_isDeck_0 rfl ?_
  refine r_iconst K (nI 0) dX7_isDeck_1 (by decide) ?_
  refine r_aload_n K dX7_isDeck_2 rfl ?_
  refine r_get K hin_X7_isDeck_7 0 (wM_g0 _ _ _ _) rfl 11 (by decide) (List.mem_of_getElem? (i := 1) rfl) rfl dX7_isDeck_3 ?_
  have hf1 := V_b hV 3 0
  refine r_iconst K (nI 1) dX7_isDeck_6 (by decide) ?_
  refine r_isubR K dX7_isDeck_7 ?_
  refine r_callSs (rest := []) K (c_X7_in l D b c S J (x) (nI 0) ((nI (S 3 0) - nI 1))) 3 gX7_isDeck_X7_in rfl (by decide +kernel) rfl (by decide) rfl (Nat.le_of_ble_eq_true rfl) dX7_isDeck_8 rfl rfl ?_
  refine r_top (congrArg (fun b : Bool => nI b.toNat) (inI_n1 (by omega))) ?_
  exact hret 0 0 _ _ _ ((inB x 0 (((S 3 0) : Nat) - 1)).toNat) () dX7_isDeck_11 (toNat_lt2 _) rfl rfl (Nat.le_of_ble_eq_true rfl) (Nat.le_of_ble_eq_true rfl)

def rmX7_isOffer : Room := { frames := 1, cells := 0, slots := 0, locals := 22 }
theorem hin_X7_isOffer_7 : ∀ w ∈ wsX70, w ∈ wsX7_isOffer := fun _ h => List.mem_cons_of_mem _ (List.mem_append_right _ h)
set_option maxHeartbeats 4000000 in
set_option maxRecDepth 100000 in
theorem c_X7_isOffer (l : Launch) (D : va_G) (b : Nat → Nat) (c : Nat → ClassId) (S J : St) (hV : V S) (x : Int32) : Cs l yX7_isOffer wsX7_isOffer rmX7_isOffer D (tyW c) [.ref (b 0), .int x] (wM b c S J) (nI (inB x 0 ((S 4 0 : Nat) - 1)).toNat) (wM b c S J) := by
  refine Ci.ofZ (lv0 := [(0, .ref (b 0)), (1, .int x)]) (by decide +kernel) rfl (Nat.le_of_ble_eq_true rfl) rfl (fun G K hret => ?_)
  have hsm := V_b hV 4 0
  refine r_iload_n K dX7_isOffer_0 rfl ?_
  refine r_iconst K (nI 0) dX7_isOffer_1 (by decide) ?_
  refine r_aload_n K dX7_isOffer_2 rfl ?_
  refine r_get K hin_X7_isOffer_7 0 (wM_g0 _ _ _ _) rfl 16 (by decide) (List.mem_of_getElem? (i := 1) rfl) rfl dX7_isOffer_3 ?_
  have hf1 := V_b hV 4 0
  refine r_iconst K (nI 1) dX7_isOffer_6 (by decide) ?_
  refine r_isubR K dX7_isOffer_7 ?_
  refine r_callSs (rest := []) K (c_X7_in l D b c S J (x) (nI 0) ((nI (S 4 0) - nI 1))) 3 gX7_isOffer_X7_in rfl (by decide +kernel) rfl (by decide) rfl (Nat.le_of_ble_eq_true rfl) dX7_isOffer_8 rfl rfl ?_
  refine r_top (congrArg (fun b : Bool => nI b.toNat) (inI_n1 (by omega))) ?_
  exact hret 0 0 _ _ _ ((inB x 0 (((S 4 0) : Nat) - 1)).toNat) () dX7_isOffer_11 (toNat_lt2 _) rfl rfl (Nat.le_of_ble_eq_true rfl) (Nat.le_of_ble_eq_true rfl)

def rmX7_kindAt : Room := { frames := 0, cells := 0, slots := 0, locals := 0 }
theorem hin_X7_kindAt_7 : ∀ w ∈ wsX70, w ∈ wsX7_kindAt := fun _ h => List.mem_cons_of_mem _ (List.mem_append_right _ h)
set_option maxHeartbeats 4000000 in
set_option maxRecDepth 100000 in
theorem c_X7_kindAt (l : Launch) (D : va_G) (b : Nat → Nat) (c : Nat → ClassId) (S J : St) (hV : V S) (d p : Nat) (hd : d < 12) (hp : p < 10) : Cs l yX7_kindAt wsX7_kindAt rmX7_kindAt D (tyW c) [.ref (b 0), .int (nI d), .int (nI p)] (wM b c S J) (nI (S 15 (S (30 + d) p))) (wM b c S J) := by
  refine Ci.of (lv0 := [(0, .ref (b 0)), (1, .int (nI d)), (2, .int (nI p))]) (by decide +kernel) rfl (Nat.le_of_ble_eq_true rfl) rfl (fun G K hret => ?_)
  refine r_aload_n K dX7_kindAt_0 rfl ?_
  refine r_get K hin_X7_kindAt_7 0 (wM_g0 _ _ _ _) rfl 8 (by decide) (List.mem_of_getElem? (i := 1) rfl) rfl dX7_kindAt_1 ?_
  refine r_aload_n K dX7_kindAt_4 rfl ?_
  refine r_get K hin_X7_kindAt_7 0 (wM_g0 _ _ _ _) rfl 14 (by decide) (List.mem_of_getElem? (i := 2) rfl) rfl dX7_kindAt_5 ?_
  refine r_bipush K (nI 10) dX7_kindAt_8 (by decide) ?_
  refine r_iload_n K dX7_kindAt_10 rfl ?_
  refine r_imul K dX7_kindAt_11 ?_
  refine r_iload_n K dX7_kindAt_12 rfl ?_
  refine r_iadd K dX7_kindAt_13 ?_
  refine r_iald K 11 0 (wM_g11 _ _ _ _) rfl (by omega) (by decide) dX7_kindAt_14 ?_
  refine r_top (congrArg nI (flat_at _ (by omega))) ?_
  have hf1 := V_card hV d p (by omega)
  refine r_iald K 6 0 (wM_g6 _ _ _ _) rfl (by omega) (by decide) dX7_kindAt_15 ?_
  have hf2 := V_kind hV (S (30 + d) p)
  exact hret 0 0 _ _ _ (nI (S 15 (S (30 + d) p))) () dX7_kindAt_16 rfl rfl (Nat.le_of_ble_eq_true rfl) (Nat.le_of_ble_eq_true rfl)

def rmX7_manyOf : Room := { frames := 1, cells := 0, slots := 0, locals := 22 }
theorem hin_X7_manyOf_7 : ∀ w ∈ wsX70, w ∈ wsX7_manyOf := fun _ h => List.mem_cons_of_mem _ (List.mem_append_right _ h)
set_option maxHeartbeats 4000000 in
set_option maxRecDepth 100000 in
theorem c_X7_manyOf (l : Launch) (D : va_G) (b : Nat → Nat) (c : Nat → ClassId) (S J : St) (hV : V S) (d k : Nat) (hd : d < 12) (hk : k < 1000000) : Cs l yX7_manyOf wsX7_manyOf rmX7_manyOf D (tyW c) [.ref (b 0), .int (nI d), .int (nI k)] (wM b c S J) (nI (mo S d k)) (wM b c S J) := by
  refine Ci.of (lv0 := [(0, .ref (b 0)), (1, .int (nI d)), (2, .int (nI k))]) (by decide +kernel) rfl (Nat.le_of_ble_eq_true rfl) rfl (fun G K hret => ?_)
  have hsz := V_size hV d
  refine r_iconst K (nI 0) dX7_manyOf_0 (by decide) ?_
  refine r_istore_n (lv' := [(0, .ref (b 0)), (1, .int (nI d)), (2, .int (nI k)), (3, .int (nI 0))]) K dX7_manyOf_1 (by decide) rfl ?_
  refine r_iconst K (nI 0) dX7_manyOf_2 (by decide) ?_
  refine r_istore (lv' := [(0, .ref (b 0)), (1, .int (nI d)), (2, .int (nI k)), (3, .int (nI 0)), (4, .int (nI 0))]) K dX7_manyOf_3 (by decide) rfl ?_
  have L1 : ∀ (z : Nat) (i x : Nat), S 19 d < i + z → (i ≤ S 19 d) → (x = cnt (isK S d k) i) → G 0 0 (wM b c S J) [(0, .ref (b 0)), (1, .int (nI d)), (2, .int (nI k)), (3, .int (nI x)), (4, .int (nI i))] 5 [] := by
    intro z
    induction z with
    | zero => intro i x hz hi hx; exact absurd hz (by omega)
    | succ z ih =>
      intro i x hz hi hx
      refine r_iload K dX7_manyOf_5 rfl ?_
      refine r_aload_n K dX7_manyOf_7 rfl ?_
      refine r_get K hin_X7_manyOf_7 0 (wM_g0 _ _ _ _) rfl 13 (by decide) (List.mem_of_getElem? (i := 1) rfl) rfl dX7_manyOf_8 ?_
      refine r_iload_n K dX7_manyOf_11 rfl ?_
      refine r_iald K 10 0 (wM_g10 _ _ _ _) rfl (by omega) (by decide) dX7_manyOf_12 ?_
      have hf2 := V_size hV d
      refine r_ic_ge K 41 dX7_manyOf_13 (by decide) (by omega) (by omega) (fun h3 => ?_) (fun h3 => ?_)
      ·
        refine r_iload_n K dX7_manyOf_41 rfl ?_
        exact hret 0 0 _ _ _ (nI x) () dX7_manyOf_42 (by rw [hx, show i = S 19 d by omega]; rfl) rfl (Nat.le_of_ble_eq_true rfl) (Nat.le_of_ble_eq_true rfl)
      ·
        refine r_iload_n K dX7_manyOf_16 rfl ?_
        refine r_aload_n K dX7_manyOf_17 rfl ?_
        refine r_iload_n K dX7_manyOf_18 rfl ?_
        refine r_iload K dX7_manyOf_19 rfl ?_
        refine r_callVs (rest := [.int (nI x)]) K (c_X7_kindAt l D b c S J hV d i (by omega) (by omega)) 2 gX7_manyOf_X7_kindAt rfl (by decide +kernel) rfl (by decide) 0 (wM_g0 _ _ _ _) rfl rfl (Nat.le_of_ble_eq_true rfl) dX7_manyOf_21 rfl rfl ?_
        have hki := V_kind hV (S (30 + d) i)
        refine r_iload_n K dX7_manyOf_24 rfl ?_
        refine r_ic_ne K 32 dX7_manyOf_25 (by decide) (by omega) (by omega) (fun h4 => ?_) (fun h4 => ?_)
        ·
          refine r_iconst K (nI 0) dX7_manyOf_32 (by decide) ?_
          refine r_iadd K dX7_manyOf_33 ?_
          refine r_istore_n (lv' := [(0, .ref (b 0)), (1, .int (nI d)), (2, .int (nI k)), (3, .int (nI (x + 0))), (4, .int (nI i))]) K dX7_manyOf_34 (by decide) rfl ?_
          refine r_iinc (lv' := [(0, .ref (b 0)), (1, .int (nI d)), (2, .int (nI k)), (3, .int (nI (x + 0))), (4, .int (nI (i + 1)))]) K dX7_manyOf_35 rfl (nI_1 _) (by decide) rfl ?_
          refine r_goto K 5 dX7_manyOf_38 (by decide) ?_
          exact ih (i + 1) (x + 0) (by omega) (by omega) (by rw [cnt_n (decide_eq_false h4), hx]; rfl)
        ·
          refine r_iconst K (nI 1) dX7_manyOf_28 (by decide) ?_
          refine r_goto K 33 dX7_manyOf_29 (by decide) ?_
          refine r_iadd K dX7_manyOf_33 ?_
          refine r_istore_n (lv' := [(0, .ref (b 0)), (1, .int (nI d)), (2, .int (nI k)), (3, .int (nI (x + 1))), (4, .int (nI i))]) K dX7_manyOf_34 (by decide) rfl ?_
          refine r_iinc (lv' := [(0, .ref (b 0)), (1, .int (nI d)), (2, .int (nI k)), (3, .int (nI (x + 1))), (4, .int (nI (i + 1)))]) K dX7_manyOf_35 rfl (nI_1 _) (by decide) rfl ?_
          refine r_goto K 5 dX7_manyOf_38 (by decide) ?_
          exact ih (i + 1) (x + 1) (by omega) (by omega) (by rw [cnt_y (decide_eq_true h4), hx])
  exact L1 (S 19 d + 1) 0 0 (by omega) (by omega) rfl

def rmX7_isIn : Room := { frames := 0, cells := 0, slots := 0, locals := 0 }
theorem hin_X7_isIn_7 : ∀ w ∈ wsX70, w ∈ wsX7_isIn := fun _ h => List.mem_cons_of_mem _ (List.mem_append_right _ h)
set_option maxHeartbeats 4000000 in
set_option maxRecDepth 100000 in
theorem c_X7_isIn (l : Launch) (D : va_G) (b : Nat → Nat) (c : Nat → ClassId) (S J : St) (hV : V S) (d x : Nat) (hd : d < 12) (hx : x < 1000000) : Cs l yX7_isIn wsX7_isIn rmX7_isIn D (tyW c) [.ref (b 0), .int (nI d), .int (nI x)] (wM b c S J) (nI (holdB S d x).toNat) (wM b c S J) := by
  refine Ci.ofZ (lv0 := [(0, .ref (b 0)), (1, .int (nI d)), (2, .int (nI x))]) (by decide +kernel) rfl (Nat.le_of_ble_eq_true rfl) rfl (fun G K hret => ?_)
  have hsz := V_size hV d
  refine r_iconst K (nI 0) dX7_isIn_0 (by decide) ?_
  refine r_istore_n (lv' := [(0, .ref (b 0)), (1, .int (nI d)), (2, .int (nI x)), (3, .int (nI 0))]) K dX7_isIn_1 (by decide) rfl ?_
  refine r_iconst K (nI 0) dX7_isIn_2 (by decide) ?_
  refine r_istore (lv' := [(0, .ref (b 0)), (1, .int (nI d)), (2, .int (nI x)), (3, .int (nI 0)), (4, .int (nI 0))]) K dX7_isIn_3 (by decide) rfl ?_
  have L1 : ∀ (z : Nat) (i : Nat) (v : Bool), S 19 d < i + z → (i ≤ S 19 d) → (v = anyB (fun p => decide (S (30 + d) p = x)) i) → G 0 0 (wM b c S J) [(0, .ref (b 0)), (1, .int (nI d)), (2, .int (nI x)), (3, .int (nI ((v).toNat))), (4, .int (nI i))] 5 [] := by
    intro z
    induction z with
    | zero => intro i v hz hi hv; exact absurd hz (by omega)
    | succ z ih =>
      intro i v hz hi hv
      refine r_iload K dX7_isIn_5 rfl ?_
      refine r_aload_n K dX7_isIn_7 rfl ?_
      refine r_get K hin_X7_isIn_7 0 (wM_g0 _ _ _ _) rfl 13 (by decide) (List.mem_of_getElem? (i := 1) rfl) rfl dX7_isIn_8 ?_
      refine r_iload_n K dX7_isIn_11 rfl ?_
      refine r_iald K 10 0 (wM_g10 _ _ _ _) rfl (by omega) (by decide) dX7_isIn_12 ?_
      have hf2 := V_size hV d
      refine r_ic_ge K 48 dX7_isIn_13 (by decide) (by omega) (by omega) (fun h3 => ?_) (fun h3 => ?_)
      ·
        refine r_iload_n K dX7_isIn_48 rfl ?_
        exact hret 0 0 _ _ _ _ () dX7_isIn_49 (toNat_lt2 _) (by rw [hv, show i = S 19 d by omega]; rfl) rfl (Nat.le_of_ble_eq_true rfl) (Nat.le_of_ble_eq_true rfl)
      ·
        refine r_iload_n K dX7_isIn_16 rfl ?_
        refine r_if_neB K 36 dX7_isIn_17 (by decide) (fun h4 => ?_) (fun h4 => ?_)
        ·
          refine r_iconst K (nI 1) dX7_isIn_36 (by decide) ?_
          refine r_goto K 41 dX7_isIn_37 (by decide) ?_
          refine r_istore_n (lv' := [(0, .ref (b 0)), (1, .int (nI d)), (2, .int (nI x)), (3, .int (nI 1)), (4, .int (nI i))]) K dX7_isIn_41 (by decide) rfl ?_
          refine r_iinc (lv' := [(0, .ref (b 0)), (1, .int (nI d)), (2, .int (nI x)), (3, .int (nI 1)), (4, .int (nI (i + 1)))]) K dX7_isIn_42 rfl (nI_1 _) (by decide) rfl ?_
          refine r_goto K 5 dX7_isIn_45 (by decide) ?_
          exact ih (i + 1) true (by omega) (by omega) (by rw [show anyB (fun p => decide (S (30 + d) p = x)) (i + 1) = (anyB (fun p => decide (S (30 + d) p = x)) i || decide (S (30 + d) i = x)) from rfl, ← hv, h4]; rfl)
        ·
          refine r_aload_n K dX7_isIn_20 rfl ?_
          refine r_get K hin_X7_isIn_7 0 (wM_g0 _ _ _ _) rfl 14 (by decide) (List.mem_of_getElem? (i := 2) rfl) rfl dX7_isIn_21 ?_
          refine r_bipush K (nI 10) dX7_isIn_24 (by decide) ?_
          refine r_iload_n K dX7_isIn_26 rfl ?_
          refine r_imul K dX7_isIn_27 ?_
          refine r_iload K dX7_isIn_28 rfl ?_
          refine r_iadd K dX7_isIn_30 ?_
          refine r_iald K 11 0 (wM_g11 _ _ _ _) rfl (by omega) (by decide) dX7_isIn_31 ?_
          refine r_top (congrArg nI (flat_at _ (by omega))) ?_
          have hf5 := V_card hV d i (by omega)
          refine r_iload_n K dX7_isIn_32 rfl ?_
          refine r_ic_ne K 40 dX7_isIn_33 (by decide) (by omega) (by omega) (fun h6 => ?_) (fun h6 => ?_)
          ·
            refine r_iconst K (nI 0) dX7_isIn_40 (by decide) ?_
            refine r_istore_n (lv' := [(0, .ref (b 0)), (1, .int (nI d)), (2, .int (nI x)), (3, .int (nI 0)), (4, .int (nI i))]) K dX7_isIn_41 (by decide) rfl ?_
            refine r_iinc (lv' := [(0, .ref (b 0)), (1, .int (nI d)), (2, .int (nI x)), (3, .int (nI 0)), (4, .int (nI (i + 1)))]) K dX7_isIn_42 rfl (nI_1 _) (by decide) rfl ?_
            refine r_goto K 5 dX7_isIn_45 (by decide) ?_
            exact ih (i + 1) false (by omega) (by omega) (by rw [show anyB (fun p => decide (S (30 + d) p = x)) (i + 1) = (anyB (fun p => decide (S (30 + d) p = x)) i || decide (S (30 + d) i = x)) from rfl, ← hv, h4, decide_eq_false h6]; rfl)
          ·
            refine r_iconst K (nI 1) dX7_isIn_36 (by decide) ?_
            refine r_goto K 41 dX7_isIn_37 (by decide) ?_
            refine r_istore_n (lv' := [(0, .ref (b 0)), (1, .int (nI d)), (2, .int (nI x)), (3, .int (nI 1)), (4, .int (nI i))]) K dX7_isIn_41 (by decide) rfl ?_
            refine r_iinc (lv' := [(0, .ref (b 0)), (1, .int (nI d)), (2, .int (nI x)), (3, .int (nI 1)), (4, .int (nI (i + 1)))]) K dX7_isIn_42 rfl (nI_1 _) (by decide) rfl ?_
            refine r_goto K 5 dX7_isIn_45 (by decide) ?_
            exact ih (i + 1) true (by omega) (by omega) (by rw [show anyB (fun p => decide (S (30 + d) p = x)) (i + 1) = (anyB (fun p => decide (S (30 + d) p = x)) i || decide (S (30 + d) i = x)) from rfl, ← hv, h4, decide_eq_true h6]; rfl)
  exact L1 (S 19 d + 1) 0 false (by omega) (by omega) rfl

def rmX7_allows : Room := { frames := 2, cells := 0, slots := 0, locals := 46 }
theorem hin_X7_allows_7 : ∀ w ∈ wsX70, w ∈ wsX7_allows := fun _ h => List.mem_cons_of_mem _ (List.mem_append_right _ h)
set_option maxHeartbeats 4000000 in
set_option maxRecDepth 100000 in
theorem c_X7_allows (l : Launch) (D : va_G) (b : Nat → Nat) (c : Nat → ClassId) (S J : St) (hV : V S) (d : Nat) (hd : d < 12) : Cs l yX7_allows wsX7_allows rmX7_allows D (tyW c) [.ref (b 0), .int (nI d)] (wM b c S J) (nI (alw S d).toNat) (wM b c S J) := by
  refine Ci.ofZ (lv0 := [(0, .ref (b 0)), (1, .int (nI d))]) (by decide +kernel) rfl (Nat.le_of_ble_eq_true rfl) rfl (fun G K hret => ?_)
  have hsz := V_size hV d
  refine r_aload_n K dX7_allows_0 rfl ?_
  refine r_get K hin_X7_allows_7 0 (wM_g0 _ _ _ _) rfl 13 (by decide) (List.mem_of_getElem? (i := 1) rfl) rfl dX7_allows_1 ?_
  refine r_iload_n K dX7_allows_4 rfl ?_
  refine r_iald K 10 0 (wM_g10 _ _ _ _) rfl (by omega) (by decide) dX7_allows_5 ?_
  have hf1 := V_size hV d
  refine r_aload_n K dX7_allows_6 rfl ?_
  refine r_get K hin_X7_allows_7 0 (wM_g0 _ _ _ _) rfl 5 (by decide) (List.mem_of_getElem? (i := 2) rfl) rfl dX7_allows_7 ?_
  have hf2 := V_b hV 3 1
  refine r_ic_ne K 17 dX7_allows_10 (by decide) (by omega) (by omega) (fun h3 => ?_) (fun h3 => ?_)
  ·
    refine r_iconst K (nI 0) dX7_allows_17 (by decide) ?_
    refine r_istore_n (lv' := [(0, .ref (b 0)), (1, .int (nI d)), (2, .int (nI 0))]) K dX7_allows_18 (by decide) rfl ?_
    refine r_iconst K (nI 0) dX7_allows_19 (by decide) ?_
    refine r_istore_n (lv' := [(0, .ref (b 0)), (1, .int (nI d)), (2, .int (nI 0)), (3, .int (nI 0))]) K dX7_allows_20 (by decide) rfl ?_
    have L4 : ∀ (z : Nat) (i : Nat) (v : Bool), S 19 d < i + z → (i ≤ S 19 d) → (v = (decide (S 19 d = S 3 1) && allB (okAt S d) i)) → G 0 0 (wM b c S J) [(0, .ref (b 0)), (1, .int (nI d)), (2, .int (nI ((v).toNat))), (3, .int (nI i))] 21 [] := by
      intro z
      induction z with
      | zero => intro i v hz hi hv; exact absurd hz (by omega)
      | succ z ih =>
        intro i v hz hi hv
        refine r_iload_n K dX7_allows_21 rfl ?_
        refine r_aload_n K dX7_allows_22 rfl ?_
        refine r_get K hin_X7_allows_7 0 (wM_g0 _ _ _ _) rfl 13 (by decide) (List.mem_of_getElem? (i := 1) rfl) rfl dX7_allows_23 ?_
        refine r_iload_n K dX7_allows_26 rfl ?_
        refine r_iald K 10 0 (wM_g10 _ _ _ _) rfl (by omega) (by decide) dX7_allows_27 ?_
        refine r_ic_ge K 116 dX7_allows_28 (by decide) (by omega) (by omega) (fun h6 => ?_) (fun h6 => ?_)
        ·
          refine r_iload_n K dX7_allows_116 rfl ?_
          exact hret 0 0 _ _ _ _ () dX7_allows_117 (toNat_lt2 _) (by rw [hv, show i = S 19 d by omega]; rfl) rfl (Nat.le_of_ble_eq_true rfl) (Nat.le_of_ble_eq_true rfl)
        ·
          refine r_aload_n K dX7_allows_31 rfl ?_
          refine r_get K hin_X7_allows_7 0 (wM_g0 _ _ _ _) rfl 10 (by decide) (List.mem_of_getElem? (i := 3) rfl) rfl dX7_allows_32 ?_
          refine r_aload_n K dX7_allows_35 rfl ?_
          refine r_get K hin_X7_allows_7 0 (wM_g0 _ _ _ _) rfl 14 (by decide) (List.mem_of_getElem? (i := 4) rfl) rfl dX7_allows_36 ?_
          refine r_bipush K (nI 10) dX7_allows_39 (by decide) ?_
          refine r_iload_n K dX7_allows_41 rfl ?_
          refine r_imul K dX7_allows_42 ?_
          refine r_iload_n K dX7_allows_43 rfl ?_
          refine r_iadd K dX7_allows_44 ?_
          refine r_iald K 11 0 (wM_g11 _ _ _ _) rfl (by omega) (by decide) dX7_allows_45 ?_
          refine r_top (congrArg nI (flat_at _ (by omega))) ?_
          have hf7 := V_card hV d i (by omega)
          refine r_iald K 8 0 (wM_g8 _ _ _ _) rfl (by omega) (by decide) dX7_allows_46 ?_
          have hf8 := V_b hV 17 (S (30 + d) i)
          refine r_aload_n K dX7_allows_47 rfl ?_
          refine r_get K hin_X7_allows_7 0 (wM_g0 _ _ _ _) rfl 12 (by decide) (List.mem_of_getElem? (i := 5) rfl) rfl dX7_allows_48 ?_
          refine r_iload_n K dX7_allows_51 rfl ?_
          refine r_iald K 9 0 (wM_g9 _ _ _ _) rfl (by omega) (by decide) dX7_allows_52 ?_
          have hf9 := V_b hV 18 d
          refine r_ic_ne K 60 dX7_allows_53 (by decide) (by omega) (by omega) (fun h10 => ?_) (fun h10 => ?_)
          ·
            refine r_iconst K (nI 0) dX7_allows_60 (by decide) ?_
            refine r_istore (lv' := [(0, .ref (b 0)), (1, .int (nI d)), (2, .int (nI ((v).toNat))), (3, .int (nI i)), (4, .int (nI 0))]) K dX7_allows_61 (by decide) rfl ?_
            refine r_iload_n K dX7_allows_63 rfl ?_
            refine r_if_eqB K 108 dX7_allows_64 (by decide) (fun h11 => ?_) (fun h11 => ?_)
            ·
              refine r_iconst K (nI 0) dX7_allows_108 (by decide) ?_
              refine r_istore_n (lv' := [(0, .ref (b 0)), (1, .int (nI d)), (2, .int (nI 0)), (3, .int (nI i)), (4, .int (nI 0))]) K dX7_allows_109 (by decide) rfl ?_
              refine r_iinc (lv' := [(0, .ref (b 0)), (1, .int (nI d)), (2, .int (nI 0)), (3, .int (nI (i + 1))), (4, .int (nI 0))]) K dX7_allows_110 rfl (nI_1 _) (by decide) rfl ?_
              refine r_goto K 21 dX7_allows_113 (by decide) ?_
              refine r_pick [0, 1, 2, 3] K rfl ?_
              exact ih (i + 1) false (by omega) (by omega) (by rw [show allB (okAt S d) (i + 1) = (allB (okAt S d) i && okAt S d i) from rfl, ← Bool.and_assoc, ← hv]; unfold okAt; simp [h3, h6, h10, h11])
            ·
              refine r_iload K dX7_allows_67 rfl ?_
              refine r_if_eq K 108 dX7_allows_69 (by decide) (by decide) (fun h13 => ?_) (fun h13 => absurd h13 (by decide))
              refine r_iconst K (nI 0) dX7_allows_108 (by decide) ?_
              refine r_istore_n (lv' := [(0, .ref (b 0)), (1, .int (nI d)), (2, .int (nI 0)), (3, .int (nI i)), (4, .int (nI 0))]) K dX7_allows_109 (by decide) rfl ?_
              refine r_iinc (lv' := [(0, .ref (b 0)), (1, .int (nI d)), (2, .int (nI 0)), (3, .int (nI (i + 1))), (4, .int (nI 0))]) K dX7_allows_110 rfl (nI_1 _) (by decide) rfl ?_
              refine r_goto K 21 dX7_allows_113 (by decide) ?_
              refine r_pick [0, 1, 2, 3] K rfl ?_
              exact ih (i + 1) false (by omega) (by omega) (by rw [show allB (okAt S d) (i + 1) = (allB (okAt S d) i && okAt S d i) from rfl, ← Bool.and_assoc, ← hv]; unfold okAt; simp [h3, h6, h10, h11])
          ·
            refine r_iconst K (nI 1) dX7_allows_56 (by decide) ?_
            refine r_goto K 61 dX7_allows_57 (by decide) ?_
            refine r_istore (lv' := [(0, .ref (b 0)), (1, .int (nI d)), (2, .int (nI ((v).toNat))), (3, .int (nI i)), (4, .int (nI 1))]) K dX7_allows_61 (by decide) rfl ?_
            refine r_iload_n K dX7_allows_63 rfl ?_
            refine r_if_eqB K 108 dX7_allows_64 (by decide) (fun h14 => ?_) (fun h14 => ?_)
            ·
              refine r_iconst K (nI 0) dX7_allows_108 (by decide) ?_
              refine r_istore_n (lv' := [(0, .ref (b 0)), (1, .int (nI d)), (2, .int (nI 0)), (3, .int (nI i)), (4, .int (nI 1))]) K dX7_allows_109 (by decide) rfl ?_
              refine r_iinc (lv' := [(0, .ref (b 0)), (1, .int (nI d)), (2, .int (nI 0)), (3, .int (nI (i + 1))), (4, .int (nI 1))]) K dX7_allows_110 rfl (nI_1 _) (by decide) rfl ?_
              refine r_goto K 21 dX7_allows_113 (by decide) ?_
              refine r_pick [0, 1, 2, 3] K rfl ?_
              exact ih (i + 1) false (by omega) (by omega) (by rw [show allB (okAt S d) (i + 1) = (allB (okAt S d) i && okAt S d i) from rfl, ← Bool.and_assoc, ← hv]; unfold okAt; simp [h3, h6, h10, h14])
            ·
              refine r_iload K dX7_allows_67 rfl ?_
              refine r_if_eq K 108 dX7_allows_69 (by decide) (by decide) (fun h16 => absurd h16 (by decide)) (fun h16 => ?_)
              refine r_aload_n K dX7_allows_72 rfl ?_
              refine r_get K hin_X7_allows_7 0 (wM_g0 _ _ _ _) rfl 2 (by decide) (List.mem_of_getElem? (i := 6) rfl) rfl dX7_allows_73 ?_
              refine r_aload_n K dX7_allows_76 rfl ?_
              refine r_iload_n K dX7_allows_77 rfl ?_
              refine r_iload_n K dX7_allows_78 rfl ?_
              refine r_callVs (rest := [.ref (b 12)]) K (c_X7_kindAt l D b c S J hV d i (by omega) (by omega)) 2 gX7_allows_X7_kindAt rfl (by decide +kernel) rfl (by decide) 0 (wM_g0 _ _ _ _) rfl rfl (Nat.le_of_ble_eq_true rfl) dX7_allows_79 rfl rfl ?_
              have hki79 := V_kind hV (S (30 + d) i)
              have hmo79 := mo_le hV d (S 15 (S (30 + d) i))
              refine r_zald K 3 1 (wM_g3 _ _ _ _) rfl (by omega) (by decide) dX7_allows_82 ?_
              have hf17 := V_b hV 12 (S 15 (S (30 + d) i))
              refine r_if_ne K 108 dX7_allows_83 (by decide) (by omega) (fun h18 => ?_) (fun h18 => ?_)
              ·
                refine r_iconst K (nI 0) dX7_allows_108 (by decide) ?_
                refine r_istore_n (lv' := [(0, .ref (b 0)), (1, .int (nI d)), (2, .int (nI 0)), (3, .int (nI i)), (4, .int (nI 1))]) K dX7_allows_109 (by decide) rfl ?_
                refine r_iinc (lv' := [(0, .ref (b 0)), (1, .int (nI d)), (2, .int (nI 0)), (3, .int (nI (i + 1))), (4, .int (nI 1))]) K dX7_allows_110 rfl (nI_1 _) (by decide) rfl ?_
                refine r_goto K 21 dX7_allows_113 (by decide) ?_
                refine r_pick [0, 1, 2, 3] K rfl ?_
                exact ih (i + 1) false (by omega) (by omega) (by rw [show allB (okAt S d) (i + 1) = (allB (okAt S d) i && okAt S d i) from rfl, ← Bool.and_assoc, ← hv]; unfold okAt; simp [h3, h6, h10, h14, h18])
              ·
                refine r_aload_n K dX7_allows_86 rfl ?_
                refine r_iload_n K dX7_allows_87 rfl ?_
                refine r_aload_n K dX7_allows_88 rfl ?_
                refine r_iload_n K dX7_allows_89 rfl ?_
                refine r_iload_n K dX7_allows_90 rfl ?_
                refine r_callVs (rest := [.int (nI d), .ref (b 0)]) K (c_X7_kindAt l D b c S J hV d i (by omega) (by omega)) 2 gX7_allows_X7_kindAt rfl (by decide +kernel) rfl (by decide) 0 (wM_g0 _ _ _ _) rfl rfl (Nat.le_of_ble_eq_true rfl) dX7_allows_91 rfl rfl ?_
                have hki91 := V_kind hV (S (30 + d) i)
                have hmo91 := mo_le hV d (S 15 (S (30 + d) i))
                refine r_callVs (rest := []) K (c_X7_manyOf l D b c S J hV d (S 15 (S (30 + d) i)) (by omega) (by omega)) 2 gX7_allows_X7_manyOf rfl (by decide +kernel) rfl (by decide) 0 (wM_g0 _ _ _ _) rfl rfl (Nat.le_of_ble_eq_true rfl) dX7_allows_94 rfl rfl ?_
                refine r_aload_n K dX7_allows_97 rfl ?_
                refine r_get K hin_X7_allows_7 0 (wM_g0 _ _ _ _) rfl 6 (by decide) (List.mem_of_getElem? (i := 7) rfl) rfl dX7_allows_98 ?_
                have hf19 := V_b hV 3 2
                refine r_ic_gt K 108 dX7_allows_101 (by decide) (by omega) (by omega) (fun h20 => ?_) (fun h20 => ?_)
                ·
                  refine r_iconst K (nI 0) dX7_allows_108 (by decide) ?_
                  refine r_istore_n (lv' := [(0, .ref (b 0)), (1, .int (nI d)), (2, .int (nI 0)), (3, .int (nI i)), (4, .int (nI 1))]) K dX7_allows_109 (by decide) rfl ?_
                  refine r_iinc (lv' := [(0, .ref (b 0)), (1, .int (nI d)), (2, .int (nI 0)), (3, .int (nI (i + 1))), (4, .int (nI 1))]) K dX7_allows_110 rfl (nI_1 _) (by decide) rfl ?_
                  refine r_goto K 21 dX7_allows_113 (by decide) ?_
                  refine r_pick [0, 1, 2, 3] K rfl ?_
                  exact ih (i + 1) false (by omega) (by omega) (by rw [show allB (okAt S d) (i + 1) = (allB (okAt S d) i && okAt S d i) from rfl, ← Bool.and_assoc, ← hv]; unfold okAt; simp [h3, h6, h10, h14, h18, h20])
                ·
                  refine r_iconst K (nI 1) dX7_allows_104 (by decide) ?_
                  refine r_goto K 109 dX7_allows_105 (by decide) ?_
                  refine r_istore_n (lv' := [(0, .ref (b 0)), (1, .int (nI d)), (2, .int (nI 1)), (3, .int (nI i)), (4, .int (nI 1))]) K dX7_allows_109 (by decide) rfl ?_
                  refine r_iinc (lv' := [(0, .ref (b 0)), (1, .int (nI d)), (2, .int (nI 1)), (3, .int (nI (i + 1))), (4, .int (nI 1))]) K dX7_allows_110 rfl (nI_1 _) (by decide) rfl ?_
                  refine r_goto K 21 dX7_allows_113 (by decide) ?_
                  refine r_pick [0, 1, 2, 3] K rfl ?_
                  exact ih (i + 1) true (by omega) (by omega) (by rw [show allB (okAt S d) (i + 1) = (allB (okAt S d) i && okAt S d i) from rfl, ← Bool.and_assoc, ← hv]; unfold okAt; simp [h3, h6, h10, h14, h18, h20])
    exact L4 (S 19 d + 1) 0 false (by omega) (by omega) (by rw [decide_eq_false h3]; rfl)
  ·
    refine r_iconst K (nI 1) dX7_allows_13 (by decide) ?_
    refine r_goto K 18 dX7_allows_14 (by decide) ?_
    refine r_istore_n (lv' := [(0, .ref (b 0)), (1, .int (nI d)), (2, .int (nI 1))]) K dX7_allows_18 (by decide) rfl ?_
    refine r_iconst K (nI 0) dX7_allows_19 (by decide) ?_
    refine r_istore_n (lv' := [(0, .ref (b 0)), (1, .int (nI d)), (2, .int (nI 1)), (3, .int (nI 0))]) K dX7_allows_20 (by decide) rfl ?_
    have L21 : ∀ (z : Nat) (i : Nat) (v : Bool), S 19 d < i + z → (i ≤ S 19 d) → (v = (decide (S 19 d = S 3 1) && allB (okAt S d) i)) → G 0 0 (wM b c S J) [(0, .ref (b 0)), (1, .int (nI d)), (2, .int (nI ((v).toNat))), (3, .int (nI i))] 21 [] := by
      intro z
      induction z with
      | zero => intro i v hz hi hv; exact absurd hz (by omega)
      | succ z ih =>
        intro i v hz hi hv
        refine r_iload_n K dX7_allows_21 rfl ?_
        refine r_aload_n K dX7_allows_22 rfl ?_
        refine r_get K hin_X7_allows_7 0 (wM_g0 _ _ _ _) rfl 13 (by decide) (List.mem_of_getElem? (i := 1) rfl) rfl dX7_allows_23 ?_
        refine r_iload_n K dX7_allows_26 rfl ?_
        refine r_iald K 10 0 (wM_g10 _ _ _ _) rfl (by omega) (by decide) dX7_allows_27 ?_
        refine r_ic_ge K 116 dX7_allows_28 (by decide) (by omega) (by omega) (fun h23 => ?_) (fun h23 => ?_)
        ·
          refine r_iload_n K dX7_allows_116 rfl ?_
          exact hret 0 0 _ _ _ _ () dX7_allows_117 (toNat_lt2 _) (by rw [hv, show i = S 19 d by omega]; rfl) rfl (Nat.le_of_ble_eq_true rfl) (Nat.le_of_ble_eq_true rfl)
        ·
          refine r_aload_n K dX7_allows_31 rfl ?_
          refine r_get K hin_X7_allows_7 0 (wM_g0 _ _ _ _) rfl 10 (by decide) (List.mem_of_getElem? (i := 3) rfl) rfl dX7_allows_32 ?_
          refine r_aload_n K dX7_allows_35 rfl ?_
          refine r_get K hin_X7_allows_7 0 (wM_g0 _ _ _ _) rfl 14 (by decide) (List.mem_of_getElem? (i := 4) rfl) rfl dX7_allows_36 ?_
          refine r_bipush K (nI 10) dX7_allows_39 (by decide) ?_
          refine r_iload_n K dX7_allows_41 rfl ?_
          refine r_imul K dX7_allows_42 ?_
          refine r_iload_n K dX7_allows_43 rfl ?_
          refine r_iadd K dX7_allows_44 ?_
          refine r_iald K 11 0 (wM_g11 _ _ _ _) rfl (by omega) (by decide) dX7_allows_45 ?_
          refine r_top (congrArg nI (flat_at _ (by omega))) ?_
          have hf24 := V_card hV d i (by omega)
          refine r_iald K 8 0 (wM_g8 _ _ _ _) rfl (by omega) (by decide) dX7_allows_46 ?_
          have hf25 := V_b hV 17 (S (30 + d) i)
          refine r_aload_n K dX7_allows_47 rfl ?_
          refine r_get K hin_X7_allows_7 0 (wM_g0 _ _ _ _) rfl 12 (by decide) (List.mem_of_getElem? (i := 5) rfl) rfl dX7_allows_48 ?_
          refine r_iload_n K dX7_allows_51 rfl ?_
          refine r_iald K 9 0 (wM_g9 _ _ _ _) rfl (by omega) (by decide) dX7_allows_52 ?_
          have hf26 := V_b hV 18 d
          refine r_ic_ne K 60 dX7_allows_53 (by decide) (by omega) (by omega) (fun h27 => ?_) (fun h27 => ?_)
          ·
            refine r_iconst K (nI 0) dX7_allows_60 (by decide) ?_
            refine r_istore (lv' := [(0, .ref (b 0)), (1, .int (nI d)), (2, .int (nI ((v).toNat))), (3, .int (nI i)), (4, .int (nI 0))]) K dX7_allows_61 (by decide) rfl ?_
            refine r_iload_n K dX7_allows_63 rfl ?_
            refine r_if_eqB K 108 dX7_allows_64 (by decide) (fun h28 => ?_) (fun h28 => ?_)
            ·
              refine r_iconst K (nI 0) dX7_allows_108 (by decide) ?_
              refine r_istore_n (lv' := [(0, .ref (b 0)), (1, .int (nI d)), (2, .int (nI 0)), (3, .int (nI i)), (4, .int (nI 0))]) K dX7_allows_109 (by decide) rfl ?_
              refine r_iinc (lv' := [(0, .ref (b 0)), (1, .int (nI d)), (2, .int (nI 0)), (3, .int (nI (i + 1))), (4, .int (nI 0))]) K dX7_allows_110 rfl (nI_1 _) (by decide) rfl ?_
              refine r_goto K 21 dX7_allows_113 (by decide) ?_
              refine r_pick [0, 1, 2, 3] K rfl ?_
              exact ih (i + 1) false (by omega) (by omega) (by rw [show allB (okAt S d) (i + 1) = (allB (okAt S d) i && okAt S d i) from rfl, ← Bool.and_assoc, ← hv]; unfold okAt; simp [h3, h23, h27, h28])
            ·
              refine r_iload K dX7_allows_67 rfl ?_
              refine r_if_eq K 108 dX7_allows_69 (by decide) (by decide) (fun h30 => ?_) (fun h30 => absurd h30 (by decide))
              refine r_iconst K (nI 0) dX7_allows_108 (by decide) ?_
              refine r_istore_n (lv' := [(0, .ref (b 0)), (1, .int (nI d)), (2, .int (nI 0)), (3, .int (nI i)), (4, .int (nI 0))]) K dX7_allows_109 (by decide) rfl ?_
              refine r_iinc (lv' := [(0, .ref (b 0)), (1, .int (nI d)), (2, .int (nI 0)), (3, .int (nI (i + 1))), (4, .int (nI 0))]) K dX7_allows_110 rfl (nI_1 _) (by decide) rfl ?_
              refine r_goto K 21 dX7_allows_113 (by decide) ?_
              refine r_pick [0, 1, 2, 3] K rfl ?_
              exact ih (i + 1) false (by omega) (by omega) (by rw [show allB (okAt S d) (i + 1) = (allB (okAt S d) i && okAt S d i) from rfl, ← Bool.and_assoc, ← hv]; unfold okAt; simp [h3, h23, h27, h28])
          ·
            refine r_iconst K (nI 1) dX7_allows_56 (by decide) ?_
            refine r_goto K 61 dX7_allows_57 (by decide) ?_
            refine r_istore (lv' := [(0, .ref (b 0)), (1, .int (nI d)), (2, .int (nI ((v).toNat))), (3, .int (nI i)), (4, .int (nI 1))]) K dX7_allows_61 (by decide) rfl ?_
            refine r_iload_n K dX7_allows_63 rfl ?_
            refine r_if_eqB K 108 dX7_allows_64 (by decide) (fun h31 => ?_) (fun h31 => ?_)
            ·
              refine r_iconst K (nI 0) dX7_allows_108 (by decide) ?_
              refine r_istore_n (lv' := [(0, .ref (b 0)), (1, .int (nI d)), (2, .int (nI 0)), (3, .int (nI i)), (4, .int (nI 1))]) K dX7_allows_109 (by decide) rfl ?_
              refine r_iinc (lv' := [(0, .ref (b 0)), (1, .int (nI d)), (2, .int (nI 0)), (3, .int (nI (i + 1))), (4, .int (nI 1))]) K dX7_allows_110 rfl (nI_1 _) (by decide) rfl ?_
              refine r_goto K 21 dX7_allows_113 (by decide) ?_
              refine r_pick [0, 1, 2, 3] K rfl ?_
              exact ih (i + 1) false (by omega) (by omega) (by rw [show allB (okAt S d) (i + 1) = (allB (okAt S d) i && okAt S d i) from rfl, ← Bool.and_assoc, ← hv]; unfold okAt; simp [h3, h23, h27, h31])
            ·
              refine r_iload K dX7_allows_67 rfl ?_
              refine r_if_eq K 108 dX7_allows_69 (by decide) (by decide) (fun h33 => absurd h33 (by decide)) (fun h33 => ?_)
              refine r_aload_n K dX7_allows_72 rfl ?_
              refine r_get K hin_X7_allows_7 0 (wM_g0 _ _ _ _) rfl 2 (by decide) (List.mem_of_getElem? (i := 6) rfl) rfl dX7_allows_73 ?_
              refine r_aload_n K dX7_allows_76 rfl ?_
              refine r_iload_n K dX7_allows_77 rfl ?_
              refine r_iload_n K dX7_allows_78 rfl ?_
              refine r_callVs (rest := [.ref (b 12)]) K (c_X7_kindAt l D b c S J hV d i (by omega) (by omega)) 2 gX7_allows_X7_kindAt rfl (by decide +kernel) rfl (by decide) 0 (wM_g0 _ _ _ _) rfl rfl (Nat.le_of_ble_eq_true rfl) dX7_allows_79 rfl rfl ?_
              have hki79 := V_kind hV (S (30 + d) i)
              have hmo79 := mo_le hV d (S 15 (S (30 + d) i))
              refine r_zald K 3 1 (wM_g3 _ _ _ _) rfl (by omega) (by decide) dX7_allows_82 ?_
              have hf34 := V_b hV 12 (S 15 (S (30 + d) i))
              refine r_if_ne K 108 dX7_allows_83 (by decide) (by omega) (fun h35 => ?_) (fun h35 => ?_)
              ·
                refine r_iconst K (nI 0) dX7_allows_108 (by decide) ?_
                refine r_istore_n (lv' := [(0, .ref (b 0)), (1, .int (nI d)), (2, .int (nI 0)), (3, .int (nI i)), (4, .int (nI 1))]) K dX7_allows_109 (by decide) rfl ?_
                refine r_iinc (lv' := [(0, .ref (b 0)), (1, .int (nI d)), (2, .int (nI 0)), (3, .int (nI (i + 1))), (4, .int (nI 1))]) K dX7_allows_110 rfl (nI_1 _) (by decide) rfl ?_
                refine r_goto K 21 dX7_allows_113 (by decide) ?_
                refine r_pick [0, 1, 2, 3] K rfl ?_
                exact ih (i + 1) false (by omega) (by omega) (by rw [show allB (okAt S d) (i + 1) = (allB (okAt S d) i && okAt S d i) from rfl, ← Bool.and_assoc, ← hv]; unfold okAt; simp [h3, h23, h27, h31, h35])
              ·
                refine r_aload_n K dX7_allows_86 rfl ?_
                refine r_iload_n K dX7_allows_87 rfl ?_
                refine r_aload_n K dX7_allows_88 rfl ?_
                refine r_iload_n K dX7_allows_89 rfl ?_
                refine r_iload_n K dX7_allows_90 rfl ?_
                refine r_callVs (rest := [.int (nI d), .ref (b 0)]) K (c_X7_kindAt l D b c S J hV d i (by omega) (by omega)) 2 gX7_allows_X7_kindAt rfl (by decide +kernel) rfl (by decide) 0 (wM_g0 _ _ _ _) rfl rfl (Nat.le_of_ble_eq_true rfl) dX7_allows_91 rfl rfl ?_
                have hki91 := V_kind hV (S (30 + d) i)
                have hmo91 := mo_le hV d (S 15 (S (30 + d) i))
                refine r_callVs (rest := []) K (c_X7_manyOf l D b c S J hV d (S 15 (S (30 + d) i)) (by omega) (by omega)) 2 gX7_allows_X7_manyOf rfl (by decide +kernel) rfl (by decide) 0 (wM_g0 _ _ _ _) rfl rfl (Nat.le_of_ble_eq_true rfl) dX7_allows_94 rfl rfl ?_
                refine r_aload_n K dX7_allows_97 rfl ?_
                refine r_get K hin_X7_allows_7 0 (wM_g0 _ _ _ _) rfl 6 (by decide) (List.mem_of_getElem? (i := 7) rfl) rfl dX7_allows_98 ?_
                have hf36 := V_b hV 3 2
                refine r_ic_gt K 108 dX7_allows_101 (by decide) (by omega) (by omega) (fun h37 => ?_) (fun h37 => ?_)
                ·
                  refine r_iconst K (nI 0) dX7_allows_108 (by decide) ?_
                  refine r_istore_n (lv' := [(0, .ref (b 0)), (1, .int (nI d)), (2, .int (nI 0)), (3, .int (nI i)), (4, .int (nI 1))]) K dX7_allows_109 (by decide) rfl ?_
                  refine r_iinc (lv' := [(0, .ref (b 0)), (1, .int (nI d)), (2, .int (nI 0)), (3, .int (nI (i + 1))), (4, .int (nI 1))]) K dX7_allows_110 rfl (nI_1 _) (by decide) rfl ?_
                  refine r_goto K 21 dX7_allows_113 (by decide) ?_
                  refine r_pick [0, 1, 2, 3] K rfl ?_
                  exact ih (i + 1) false (by omega) (by omega) (by rw [show allB (okAt S d) (i + 1) = (allB (okAt S d) i && okAt S d i) from rfl, ← Bool.and_assoc, ← hv]; unfold okAt; simp [h3, h23, h27, h31, h35, h37])
                ·
                  refine r_iconst K (nI 1) dX7_allows_104 (by decide) ?_
                  refine r_goto K 109 dX7_allows_105 (by decide) ?_
                  refine r_istore_n (lv' := [(0, .ref (b 0)), (1, .int (nI d)), (2, .int (nI 1)), (3, .int (nI i)), (4, .int (nI 1))]) K dX7_allows_109 (by decide) rfl ?_
                  refine r_iinc (lv' := [(0, .ref (b 0)), (1, .int (nI d)), (2, .int (nI 1)), (3, .int (nI (i + 1))), (4, .int (nI 1))]) K dX7_allows_110 rfl (nI_1 _) (by decide) rfl ?_
                  refine r_goto K 21 dX7_allows_113 (by decide) ?_
                  refine r_pick [0, 1, 2, 3] K rfl ?_
                  exact ih (i + 1) true (by omega) (by omega) (by rw [show allB (okAt S d) (i + 1) = (allB (okAt S d) i && okAt S d i) from rfl, ← Bool.and_assoc, ← hv]; unfold okAt; simp [h3, h23, h27, h31, h35, h37])
    exact L21 (S 19 d + 1) 0 true (by omega) (by omega) (by rw [decide_eq_true h3]; rfl)

def rmX7_manyAllowed : Room := { frames := 3, cells := 0, slots := 0, locals := 70 }
theorem hin_X7_manyAllowed_7 : ∀ w ∈ wsX70, w ∈ wsX7_manyAllowed := fun _ h => List.mem_cons_of_mem _ (List.mem_append_right _ h)
set_option maxHeartbeats 4000000 in
set_option maxRecDepth 100000 in
theorem c_X7_manyAllowed (l : Launch) (D : va_G) (b : Nat → Nat) (c : Nat → ClassId) (S J : St) (hV : V S) : Cs l yX7_manyAllowed wsX7_manyAllowed rmX7_manyAllowed D (tyW c) [.ref (b 0)] (wM b c S J) (nI (nAlw S)) (wM b c S J) := by
  refine Ci.of (lv0 := [(0, .ref (b 0))]) (by decide +kernel) rfl (Nat.le_of_ble_eq_true rfl) rfl (fun G K hret => ?_)
  have hdk := V_decks hV
  refine r_iconst K (nI 0) dX7_manyAllowed_0 (by decide) ?_
  refine r_istore_n (lv' := [(0, .ref (b 0)), (1, .int (nI 0))]) K dX7_manyAllowed_1 (by decide) rfl ?_
  refine r_iconst K (nI 0) dX7_manyAllowed_2 (by decide) ?_
  refine r_istore_n (lv' := [(0, .ref (b 0)), (1, .int (nI 0)), (2, .int (nI 0))]) K dX7_manyAllowed_3 (by decide) rfl ?_
  have L1 : ∀ (z : Nat) (i x : Nat), S 3 0 < i + z → (i ≤ S 3 0) → (x = cnt (alw S) i) → G 0 0 (wM b c S J) [(0, .ref (b 0)), (1, .int (nI x)), (2, .int (nI i))] 4 [] := by
    intro z
    induction z with
    | zero => intro i x hz hi hx; exact absurd hz (by omega)
    | succ z ih =>
      intro i x hz hi hx
      refine r_iload_n K dX7_manyAllowed_4 rfl ?_
      refine r_aload_n K dX7_manyAllowed_5 rfl ?_
      refine r_get K hin_X7_manyAllowed_7 0 (wM_g0 _ _ _ _) rfl 11 (by decide) (List.mem_of_getElem? (i := 1) rfl) rfl dX7_manyAllowed_6 ?_
      have hf2 := V_b hV 3 0
      refine r_ic_ge K 34 dX7_manyAllowed_9 (by decide) (by omega) (by omega) (fun h3 => ?_) (fun h3 => ?_)
      ·
        refine r_iload_n K dX7_manyAllowed_34 rfl ?_
        exact hret 0 0 _ _ _ (nI x) () dX7_manyAllowed_35 (by rw [hx, show i = S 3 0 by omega]; rfl) rfl (Nat.le_of_ble_eq_true rfl) (Nat.le_of_ble_eq_true rfl)
      ·
        refine r_iload_n K dX7_manyAllowed_12 rfl ?_
        refine r_aload_n K dX7_manyAllowed_13 rfl ?_
        refine r_iload_n K dX7_manyAllowed_14 rfl ?_
        refine r_callVs (rest := [.int (nI x)]) K (c_X7_allows l D b c S J hV i (by omega)) 1 gX7_manyAllowed_X7_allows rfl (by decide +kernel) rfl (by decide) 0 (wM_g0 _ _ _ _) rfl rfl (Nat.le_of_ble_eq_true rfl) dX7_manyAllowed_15 rfl rfl ?_
        refine r_if_eqB K 25 dX7_manyAllowed_18 (by decide) (fun h4 => ?_) (fun h4 => ?_)
        ·
          refine r_iconst K (nI 0) dX7_manyAllowed_25 (by decide) ?_
          refine r_iadd K dX7_manyAllowed_26 ?_
          refine r_istore_n (lv' := [(0, .ref (b 0)), (1, .int (nI (x + 0))), (2, .int (nI i))]) K dX7_manyAllowed_27 (by decide) rfl ?_
          refine r_iinc (lv' := [(0, .ref (b 0)), (1, .int (nI (x + 0))), (2, .int (nI (i + 1)))]) K dX7_manyAllowed_28 rfl (nI_1 _) (by decide) rfl ?_
          refine r_goto K 4 dX7_manyAllowed_31 (by decide) ?_
          exact ih (i + 1) (x + 0) (by omega) (by omega) (by rw [cnt_n h4, hx]; rfl)
        ·
          refine r_iconst K (nI 1) dX7_manyAllowed_21 (by decide) ?_
          refine r_goto K 26 dX7_manyAllowed_22 (by decide) ?_
          refine r_iadd K dX7_manyAllowed_26 ?_
          refine r_istore_n (lv' := [(0, .ref (b 0)), (1, .int (nI (x + 1))), (2, .int (nI i))]) K dX7_manyAllowed_27 (by decide) rfl ?_
          refine r_iinc (lv' := [(0, .ref (b 0)), (1, .int (nI (x + 1))), (2, .int (nI (i + 1)))]) K dX7_manyAllowed_28 rfl (nI_1 _) (by decide) rfl ?_
          refine r_goto K 4 dX7_manyAllowed_31 (by decide) ?_
          exact ih (i + 1) (x + 1) (by omega) (by omega) (by rw [cnt_y h4, hx])
  exact L1 (S 3 0 + 1) 0 0 (by omega) (by omega) rfl
