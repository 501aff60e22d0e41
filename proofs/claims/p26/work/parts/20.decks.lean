def rmX0_append : Room := { frames := 0, cells := 0, slots := 0, locals := 0 }
theorem hin_X0_append_0 : ∀ w ∈ wsX00, w ∈ wsX0_append := fun _ h => List.mem_cons_of_mem _ (List.mem_append_right _ h)
set_option maxHeartbeats 4000000 in
set_option maxRecDepth 100000 in
theorem c_X0_append (l : Launch) (D : va_G) (a : Nat → Nat) (c : Nat → ClassId) (S J : St) (hV : V S) (o : Nat) (hc12 : S 3 0 < 12) : Cs l yX0_append wsX0_append rmX0_append D (tyW c) [.ref (a 3), .int (nI o)] (wC a c S J) (nI (S 3 0)) (wC a c (up (up S 18 (S 3 0) o) 3 0 (S 3 0 + 1)) J) := by
  refine Ci.of (lv0 := [(0, .ref (a 3)), (1, .int (nI o))]) (by decide +kernel) rfl (Nat.le_of_ble_eq_true rfl) rfl (fun G K hret => ?_)
  have hd12 := hc12
  refine r_aload_n K dX0_append_0 rfl ?_
  refine r_get K hin_X0_append_0 3 (wC_g3 _ _ _ _) rfl 3 (by decide) (List.mem_of_getElem? (i := 1) rfl) rfl dX0_append_1 ?_
  have hf1 := V_b hV 3 0
  refine r_istore_n (lv' := [(0, .ref (a 3)), (1, .int (nI o)), (2, .int (nI (S 3 0)))]) K dX0_append_4 (by decide) rfl ?_
  refine r_aload_n K dX0_append_5 rfl ?_
  refine r_get K hin_X0_append_0 3 (wC_g3 _ _ _ _) rfl 0 (by decide) (List.mem_of_getElem? (i := 2) rfl) rfl dX0_append_6 ?_
  refine r_iload_n K dX0_append_9 rfl ?_
  refine r_iload_n K dX0_append_10 rfl ?_
  refine r_iast K 18 0 (wC_g18 _ _ _ _) rfl (by omega) (by decide) dX0_append_11 (wC_s18 _ _ _ _ _ _) ?_
  refine r_aload_n K dX0_append_12 rfl ?_
  refine r_dup K dX0_append_13 rfl ?_
  refine r_get K hin_X0_append_0 3 (wC_g3 _ _ _ _) rfl 3 (by decide) (List.mem_of_getElem? (i := 1) rfl) rfl dX0_append_14 ?_
  refine r_top (congrArg nI (congrFun (up_ne (by decide)) _)) ?_
  refine r_iconst K (nI 1) dX0_append_17 (by decide) ?_
  refine r_iadd K dX0_append_18 ?_
  refine r_put K hin_X0_append_0 tyX0 tyX0_ok nmX0 3 (wC_g3 _ _ _ _) rfl 3 (by decide) (List.mem_of_getElem? (i := 1) rfl) rfl rfl rfl (Nat.le_of_ble_eq_true rfl) dX0_append_19 (wC_s3_3 _ _ _ _ _) ?_
  refine r_iload_n K dX0_append_22 rfl ?_
  exact hret 0 0 _ _ _ (nI (S 3 0)) () dX0_append_23 rfl rfl (Nat.le_of_ble_eq_true rfl) (Nat.le_of_ble_eq_true rfl)

def rmX0_holds : Room := { frames := 0, cells := 0, slots := 0, locals := 0 }
theorem hin_X0_holds_0 : ∀ w ∈ wsX00, w ∈ wsX0_holds := fun _ h => List.mem_cons_of_mem _ (List.mem_append_right _ h)
set_option maxHeartbeats 4000000 in
set_option maxRecDepth 100000 in
theorem c_X0_holds (l : Launch) (D : va_G) (a : Nat → Nat) (c : Nat → ClassId) (S J : St) (hV : V S) (d x : Nat) (hd : d < 12) (hx : x < 1000000) : Cs l yX0_holds wsX0_holds rmX0_holds D (tyW c) [.ref (a 3), .int (nI d), .int (nI x)] (wC a c S J) (nI (holdB S d x).toNat) (wC a c S J) := by
  refine Ci.ofZ (lv0 := [(0, .ref (a 3)), (1, .int (nI d)), (2, .int (nI x))]) (by decide +kernel) rfl (Nat.le_of_ble_eq_true rfl) rfl (fun G K hret => ?_)
  have hsz := V_size hV d
  refine r_iconst K (nI 0) dX0_holds_0 (by decide) ?_
  refine r_istore_n (lv' := [(0, .ref (a 3)), (1, .int (nI d)), (2, .int (nI x)), (3, .int (nI 0))]) K dX0_holds_1 (by decide) rfl ?_
  have L1 : ∀ (z : Nat) (i : Nat), S 19 d < i + z → i ≤ S 19 d → anyB (fun p => decide (S (30 + d) p = x)) i = false → G 0 0 (wC a c S J) [(0, .ref (a 3)), (1, .int (nI d)), (2, .int (nI x)), (3, .int (nI i))] 2 [] := by
    intro z
    induction z with
    | zero => intro i hz hi hn; exact absurd hz (by omega)
    | succ z ih =>
      intro i hz hi hn
      refine r_iload_n K dX0_holds_2 rfl ?_
      refine r_aload_n K dX0_holds_3 rfl ?_
      refine r_get K hin_X0_holds_0 3 (wC_g3 _ _ _ _) rfl 1 (by decide) (List.mem_of_getElem? (i := 1) rfl) rfl dX0_holds_4 ?_
      refine r_iload_n K dX0_holds_7 rfl ?_
      refine r_iald K 19 0 (wC_g19 _ _ _ _) rfl (by omega) (by decide) dX0_holds_8 ?_
      have hf2 := V_size hV d
      refine r_ic_ge K 32 dX0_holds_9 (by decide) (by omega) (by omega) (fun h3 => ?_) (fun h3 => ?_)
      ·
        refine r_iconst K (nI 0) dX0_holds_32 (by decide) ?_
        exact hret 0 0 _ _ _ 0 () dX0_holds_33 (by decide) (by rw [show holdB S d x = false from (by unfold holdB; rw [show S 19 d = i by omega]; exact hn)]; rfl) rfl (Nat.le_of_ble_eq_true rfl) (Nat.le_of_ble_eq_true rfl)
      ·
        refine r_aload_n K dX0_holds_12 rfl ?_
        refine r_get K hin_X0_holds_0 3 (wC_g3 _ _ _ _) rfl 2 (by decide) (List.mem_of_getElem? (i := 2) rfl) rfl dX0_holds_13 ?_
        refine r_iload_n K dX0_holds_16 rfl ?_
        refine r_aald2 K 20 2 (wC_g20 _ _ _ _) rfl (by omega) (by decide) (rowsOf_at _ (by omega)) dX0_holds_17 ?_
        refine r_iload_n K dX0_holds_18 rfl ?_
        refine r_iald K (30 + d) 0 (wC_row _ _ _ _ (by omega)) rfl (by omega) (by decide) dX0_holds_19 ?_
        have hf4 := V_card hV d i (by omega)
        refine r_iload_n K dX0_holds_20 rfl ?_
        refine r_ic_ne K 26 dX0_holds_21 (by decide) (by omega) (by omega) (fun h5 => ?_) (fun h5 => ?_)
        ·
          refine r_iinc (lv' := [(0, .ref (a 3)), (1, .int (nI d)), (2, .int (nI x)), (3, .int (nI (i + 1)))]) K dX0_holds_26 rfl (nI_1 _) (by decide) rfl ?_
          refine r_goto K 2 dX0_holds_29 (by decide) ?_
          exact ih (i + 1) (by omega) (by omega) (anyB_s hn (decide_eq_false h5))
        ·
          refine r_iconst K (nI 1) dX0_holds_24 (by decide) ?_
          exact hret 0 0 _ _ _ 1 () dX0_holds_25 (by decide) (by rw [show holdB S d x = true from (anyB_of (f := (fun p => decide (S (30 + d) p = x))) (i := i) (decide_eq_true h5) (by omega))]; rfl) rfl (Nat.le_of_ble_eq_true rfl) (Nat.le_of_ble_eq_true rfl)
  exact L1 (S 19 d + 1) 0 (by omega) (by omega) rfl

def rmX0_putBehind : Room := { frames := 0, cells := 0, slots := 0, locals := 0 }
theorem hin_X0_putBehind_0 : ∀ w ∈ wsX00, w ∈ wsX0_putBehind := fun _ h => List.mem_cons_of_mem _ (List.mem_append_right _ h)
set_option maxHeartbeats 4000000 in
set_option maxRecDepth 100000 in
theorem c_X0_putBehind (l : Launch) (D : va_G) (a : Nat → Nat) (c : Nat → ClassId) (S J : St) (hV : V S) (d x : Nat) (hd : d < 12) (hp : S 19 d < 10) : Cs l yX0_putBehind wsX0_putBehind rmX0_putBehind D (tyW c) [.ref (a 3), .int (nI d), .int (nI x)] (wC a c S J) (nI (S 19 d + 1)) (wC a c (up (up S (30 + d) (S 19 d) x) 19 d (S 19 d + 1)) J) := by
  refine Ci.of (lv0 := [(0, .ref (a 3)), (1, .int (nI d)), (2, .int (nI x))]) (by decide +kernel) rfl (Nat.le_of_ble_eq_true rfl) rfl (fun G K hret => ?_)
  have hsz := V_size hV d
  refine r_aload_n K dX0_putBehind_0 rfl ?_
  refine r_get K hin_X0_putBehind_0 3 (wC_g3 _ _ _ _) rfl 2 (by decide) (List.mem_of_getElem? (i := 1) rfl) rfl dX0_putBehind_1 ?_
  refine r_iload_n K dX0_putBehind_4 rfl ?_
  refine r_aald2 K 20 2 (wC_g20 _ _ _ _) rfl (by omega) (by decide) (rowsOf_at _ (by omega)) dX0_putBehind_5 ?_
  refine r_aload_n K dX0_putBehind_6 rfl ?_
  refine r_get K hin_X0_putBehind_0 3 (wC_g3 _ _ _ _) rfl 1 (by decide) (List.mem_of_getElem? (i := 2) rfl) rfl dX0_putBehind_7 ?_
  refine r_iload_n K dX0_putBehind_10 rfl ?_
  refine r_iald K 19 0 (wC_g19 _ _ _ _) rfl (by omega) (by decide) dX0_putBehind_11 ?_
  have hf1 := V_size hV d
  refine r_iload_n K dX0_putBehind_12 rfl ?_
  refine r_iast K (30 + d) 0 (wC_row _ _ _ _ (by omega)) rfl (by omega) (by decide) dX0_putBehind_13 (wC_srow _ _ _ _ (by omega) _ _) ?_
  refine r_aload_n K dX0_putBehind_14 rfl ?_
  refine r_get K hin_X0_putBehind_0 3 (wC_g3 _ _ _ _) rfl 1 (by decide) (List.mem_of_getElem? (i := 2) rfl) rfl dX0_putBehind_15 ?_
  refine r_iload_n K dX0_putBehind_18 rfl ?_
  refine r_dup2 K dX0_putBehind_19 rfl rfl ?_
  refine r_iald K 19 0 (wC_g19 _ _ _ _) rfl (by omega) (by decide) dX0_putBehind_20 ?_
  refine r_top (congrArg nI (congrFun (up_ne (by omega)) _)) ?_
  refine r_iconst K (nI 1) dX0_putBehind_21 (by decide) ?_
  refine r_iadd K dX0_putBehind_22 ?_
  refine r_iast K 19 0 (wC_g19 _ _ _ _) rfl (by omega) (by decide) dX0_putBehind_23 (wC_s19 _ _ _ _ _ _) ?_
  refine r_aload_n K dX0_putBehind_24 rfl ?_
  refine r_get K hin_X0_putBehind_0 3 (wC_g3 _ _ _ _) rfl 1 (by decide) (List.mem_of_getElem? (i := 2) rfl) rfl dX0_putBehind_25 ?_
  refine r_iload_n K dX0_putBehind_28 rfl ?_
  refine r_iald K 19 0 (wC_g19 _ _ _ _) rfl (by omega) (by decide) dX0_putBehind_29 ?_
  refine r_top (congrArg nI up_same) ?_
  exact hret 0 0 _ _ _ (nI (S 19 d + 1)) () dX0_putBehind_30 rfl rfl (Nat.le_of_ble_eq_true rfl) (Nat.le_of_ble_eq_true rfl)

def rmX0_takeOut : Room := { frames := 0, cells := 0, slots := 0, locals := 0 }
theorem hin_X0_takeOut_0 : ∀ w ∈ wsX00, w ∈ wsX0_takeOut := fun _ h => List.mem_cons_of_mem _ (List.mem_append_right _ h)
set_option maxHeartbeats 4000000 in
set_option maxRecDepth 100000 in
theorem c_X0_takeOut (l : Launch) (D : va_G) (a : Nat → Nat) (c : Nat → ClassId) (S J : St) (hV : V S) (d p : Nat) (hd : d < 12) (hp : p < S 19 d) : Cs l yX0_takeOut wsX0_takeOut rmX0_takeOut D (tyW c) [.ref (a 3), .int (nI d), .int (nI p)] (wC a c S J) (nI (S (30 + d) p)) (wC a c (shl (up S 19 d (S 19 d - 1)) d p (S 19 d - 1 - p)) J) := by
  refine Ci.of (lv0 := [(0, .ref (a 3)), (1, .int (nI d)), (2, .int (nI p))]) (by decide +kernel) rfl (Nat.le_of_ble_eq_true rfl) rfl (fun G K hret => ?_)
  have hsz := V_size hV d
  refine r_aload_n K dX0_takeOut_0 rfl ?_
  refine r_get K hin_X0_takeOut_0 3 (wC_g3 _ _ _ _) rfl 2 (by decide) (List.mem_of_getElem? (i := 1) rfl) rfl dX0_takeOut_1 ?_
  refine r_iload_n K dX0_takeOut_4 rfl ?_
  refine r_aald2 K 20 2 (wC_g20 _ _ _ _) rfl (by omega) (by decide) (rowsOf_at _ (by omega)) dX0_takeOut_5 ?_
  refine r_iload_n K dX0_takeOut_6 rfl ?_
  refine r_iald K (30 + d) 0 (wC_row _ _ _ _ (by omega)) rfl (by omega) (by decide) dX0_takeOut_7 ?_
  have hf1 := V_card hV d p (by omega)
  refine r_istore_n (lv' := [(0, .ref (a 3)), (1, .int (nI d)), (2, .int (nI p)), (3, .int (nI (S (30 + d) p)))]) K dX0_takeOut_8 (by decide) rfl ?_
  refine r_aload_n K dX0_takeOut_9 rfl ?_
  refine r_get K hin_X0_takeOut_0 3 (wC_g3 _ _ _ _) rfl 1 (by decide) (List.mem_of_getElem? (i := 2) rfl) rfl dX0_takeOut_10 ?_
  refine r_iload_n K dX0_takeOut_13 rfl ?_
  refine r_dup2 K dX0_takeOut_14 rfl rfl ?_
  refine r_iald K 19 0 (wC_g19 _ _ _ _) rfl (by omega) (by decide) dX0_takeOut_15 ?_
  have hf2 := V_size hV d
  refine r_iconst K (nI 1) dX0_takeOut_16 (by decide) ?_
  refine r_isub K dX0_takeOut_17 (by omega) ?_
  refine r_iast K 19 0 (wC_g19 _ _ _ _) rfl (by omega) (by decide) dX0_takeOut_18 (wC_s19 _ _ _ _ _ _) ?_
  refine r_iload_n K dX0_takeOut_19 rfl ?_
  refine r_istore (lv' := [(0, .ref (a 3)), (1, .int (nI d)), (2, .int (nI p)), (3, .int (nI (S (30 + d) p))), (4, .int (nI p))]) K dX0_takeOut_20 (by decide) rfl ?_
  have L3 : ∀ (z : Nat) (i g : Nat) (Sx : St), S 19 d < g + z → g = p + i → g ≤ S 19 d - 1 → Sx = shl (up S 19 d (S 19 d - 1)) d p i → Sx 19 d = S 19 d - 1 → G 0 0 (wC a c Sx J) [(0, .ref (a 3)), (1, .int (nI d)), (2, .int (nI p)), (3, .int (nI (S (30 + d) p))), (4, .int (nI g))] 22 [] := by
    intro z
    induction z with
    | zero => intro i g Sx hz hg hgn hS hq; exact absurd hz (by omega)
    | succ z ih =>
      intro i g Sx hz hg hgn hS hq
      refine r_iload K dX0_takeOut_22 rfl ?_
      refine r_aload_n K dX0_takeOut_24 rfl ?_
      refine r_get K hin_X0_takeOut_0 3 (wC_g3 _ _ _ _) rfl 1 (by decide) (List.mem_of_getElem? (i := 2) rfl) rfl dX0_takeOut_25 ?_
      refine r_iload_n K dX0_takeOut_28 rfl ?_
      refine r_iald K 19 0 (wC_g19 _ _ _ _) rfl (by omega) (by decide) dX0_takeOut_29 ?_
      refine r_ic_ge K 59 dX0_takeOut_30 (by decide) (by omega) (by omega) (fun h4 => ?_) (fun h4 => ?_)
      ·
        refine r_iload_n K dX0_takeOut_59 rfl ?_
        exact hret 0 0 _ _ _ (nI (S (30 + d) p)) () dX0_takeOut_60 rfl (by rw [hS, show i = S 19 d - 1 - p by omega]) (Nat.le_of_ble_eq_true rfl) (Nat.le_of_ble_eq_true rfl)
      ·
        refine r_aload_n K dX0_takeOut_33 rfl ?_
        refine r_get K hin_X0_takeOut_0 3 (wC_g3 _ _ _ _) rfl 2 (by decide) (List.mem_of_getElem? (i := 1) rfl) rfl dX0_takeOut_34 ?_
        refine r_iload_n K dX0_takeOut_37 rfl ?_
        refine r_aald2 K 20 2 (wC_g20 _ _ _ _) rfl (by omega) (by decide) (rowsOf_at _ (by omega)) dX0_takeOut_38 ?_
        refine r_iload K dX0_takeOut_39 rfl ?_
        refine r_aload_n K dX0_takeOut_41 rfl ?_
        refine r_get K hin_X0_takeOut_0 3 (wC_g3 _ _ _ _) rfl 2 (by decide) (List.mem_of_getElem? (i := 1) rfl) rfl dX0_takeOut_42 ?_
        refine r_iload_n K dX0_takeOut_45 rfl ?_
        refine r_aald2 K 20 2 (wC_g20 _ _ _ _) rfl (by omega) (by decide) (rowsOf_at _ (by omega)) dX0_takeOut_46 ?_
        refine r_iload K dX0_takeOut_47 rfl ?_
        refine r_iconst K (nI 1) dX0_takeOut_49 (by decide) ?_
        refine r_iadd K dX0_takeOut_50 ?_
        refine r_iald K (30 + d) 0 (wC_row _ _ _ _ (by omega)) rfl (by omega) (by decide) dX0_takeOut_51 ?_
        refine r_iast K (30 + d) 0 (wC_row _ _ _ _ (by omega)) rfl (by omega) (by decide) dX0_takeOut_52 (wC_srow _ _ _ _ (by omega) _ _) ?_
        refine r_iinc (lv' := [(0, .ref (a 3)), (1, .int (nI d)), (2, .int (nI p)), (3, .int (nI (S (30 + d) p))), (4, .int (nI (g + 1)))]) K dX0_takeOut_53 rfl (nI_1 _) (by decide) rfl ?_
        refine r_goto K 22 dX0_takeOut_56 (by decide) ?_
        exact ih (i + 1) (g + 1) _ (by omega) (by omega) (by omega) (by rw [hS, hg]; rfl) (by rw [up_ne (by omega)]; exact hq)
  exact L3 (S 19 d + 1) 0 p _ (by omega) rfl (by omega) rfl (by rw [up_same])

def rmX0_placesOf : Room := { frames := 0, cells := 0, slots := 0, locals := 0 }
theorem hin_X0_placesOf_0 : ∀ w ∈ wsX00, w ∈ wsX0_placesOf := fun _ h => List.mem_cons_of_mem _ (List.mem_append_left _ (List.mem_append_right _ h))
theorem hin_X0_placesOf_4 : ∀ w ∈ wsX40, w ∈ wsX0_placesOf := fun _ h => List.mem_cons_of_mem _ (List.mem_append_right _ h)
set_option maxHeartbeats 4000000 in
set_option maxRecDepth 100000 in
theorem c_X0_placesOf (l : Launch) (D : va_G) (a : Nat → Nat) (c : Nat → ClassId) (S J : St) (hV : V S) (d k : Nat) (hd : d < 12) (hk : k < 1000000) : Cs l yX0_placesOf wsX0_placesOf rmX0_placesOf D (tyW c) [.ref (a 3), .int (nI d), .int (nI k), .ref (a 2)] (wC a c S J) (nI (bits (isK S d k) (S 19 d))) (wC a c S J) := by
  refine Ci.of (lv0 := [(0, .ref (a 3)), (1, .int (nI d)), (2, .int (nI k)), (3, .ref (a 2))]) (by decide +kernel) rfl (Nat.le_of_ble_eq_true rfl) rfl (fun G K hret => ?_)
  have hsz := V_size hV d
  refine r_iconst K (nI 0) dX0_placesOf_0 (by decide) ?_
  refine r_istore (lv' := [(0, .ref (a 3)), (1, .int (nI d)), (2, .int (nI k)), (3, .ref (a 2)), (4, .int (nI 0))]) K dX0_placesOf_1 (by decide) rfl ?_
  refine r_iconst K (nI 0) dX0_placesOf_3 (by decide) ?_
  refine r_istore (lv' := [(0, .ref (a 3)), (1, .int (nI d)), (2, .int (nI k)), (3, .ref (a 2)), (4, .int (nI 0)), (5, .int (nI 0))]) K dX0_placesOf_4 (by decide) rfl ?_
  have L1 : ∀ (z : Nat) (i x : Nat), S 19 d < i + z → i ≤ S 19 d → x = bits (isK S d k) i → G 0 0 (wC a c S J) [(0, .ref (a 3)), (1, .int (nI d)), (2, .int (nI k)), (3, .ref (a 2)), (4, .int (nI x)), (5, .int (nI i))] 6 [] := by
    intro z
    induction z with
    | zero => intro i x hz hi hx; exact absurd hz (by omega)
    | succ z ih =>
      intro i x hz hi hx
      refine r_iload K dX0_placesOf_6 rfl ?_
      refine r_aload_n K dX0_placesOf_8 rfl ?_
      refine r_get K hin_X0_placesOf_0 3 (wC_g3 _ _ _ _) rfl 1 (by decide) (List.mem_of_getElem? (i := 1) rfl) rfl dX0_placesOf_9 ?_
      refine r_iload_n K dX0_placesOf_12 rfl ?_
      refine r_iald K 19 0 (wC_g19 _ _ _ _) rfl (by omega) (by decide) dX0_placesOf_13 ?_
      have hf2 := V_size hV d
      refine r_ic_ge K 50 dX0_placesOf_14 (by decide) (by omega) (by omega) (fun h3 => ?_) (fun h3 => ?_)
      ·
        refine r_iload K dX0_placesOf_50 rfl ?_
        exact hret 0 0 _ _ _ (nI x) () dX0_placesOf_52 (by rw [hx, show i = S 19 d by omega]) rfl (Nat.le_of_ble_eq_true rfl) (Nat.le_of_ble_eq_true rfl)
      ·
        refine r_aload_n K dX0_placesOf_17 rfl ?_
        refine r_get K hin_X0_placesOf_4 2 (wC_g2 _ _ _ _) rfl 0 (by decide) (List.mem_of_getElem? (i := 2) rfl) rfl dX0_placesOf_18 ?_
        refine r_aload_n K dX0_placesOf_21 rfl ?_
        refine r_get K hin_X0_placesOf_0 3 (wC_g3 _ _ _ _) rfl 2 (by decide) (List.mem_of_getElem? (i := 3) rfl) rfl dX0_placesOf_22 ?_
        refine r_iload_n K dX0_placesOf_25 rfl ?_
        refine r_aald2 K 20 2 (wC_g20 _ _ _ _) rfl (by omega) (by decide) (rowsOf_at _ (by omega)) dX0_placesOf_26 ?_
        refine r_iload K dX0_placesOf_27 rfl ?_
        refine r_iald K (30 + d) 0 (wC_row _ _ _ _ (by omega)) rfl (by omega) (by decide) dX0_placesOf_29 ?_
        have hf4 := V_card hV d i (by omega)
        refine r_iald K 15 0 (wC_g15 _ _ _ _) rfl (by omega) (by decide) dX0_placesOf_30 ?_
        have hf5 := V_kind hV (S (30 + d) i)
        refine r_iload_n K dX0_placesOf_31 rfl ?_
        refine r_ic_ne K 44 dX0_placesOf_32 (by decide) (by omega) (by omega) (fun h6 => ?_) (fun h6 => ?_)
        ·
          refine r_iinc (lv' := [(0, .ref (a 3)), (1, .int (nI d)), (2, .int (nI k)), (3, .ref (a 2)), (4, .int (nI x)), (5, .int (nI (i + 1)))]) K dX0_placesOf_44 rfl (nI_1 _) (by decide) rfl ?_
          refine r_goto K 6 dX0_placesOf_47 (by decide) ?_
          exact ih (i + 1) x (by omega) (by omega) (by rw [bits_n (decide_eq_false h6), hx])
        ·
          refine r_iload K dX0_placesOf_35 rfl ?_
          refine r_iconst K (nI 1) dX0_placesOf_37 (by decide) ?_
          refine r_iload K dX0_placesOf_38 rfl ?_
          refine r_ishlR K dX0_placesOf_40 ?_
          refine r_iorR K dX0_placesOf_41 ?_
          refine r_top (or_bit (by omega) (by rw [hx]; exact bits_lt _ _)) ?_
          refine r_istore (lv' := [(0, .ref (a 3)), (1, .int (nI d)), (2, .int (nI k)), (3, .ref (a 2)), (4, .int (nI (x + 2 ^ i))), (5, .int (nI i))]) K dX0_placesOf_42 (by decide) rfl ?_
          refine r_iinc (lv' := [(0, .ref (a 3)), (1, .int (nI d)), (2, .int (nI k)), (3, .ref (a 2)), (4, .int (nI (x + 2 ^ i))), (5, .int (nI (i + 1)))]) K dX0_placesOf_44 rfl (nI_1 _) (by decide) rfl ?_
          refine r_goto K 6 dX0_placesOf_47 (by decide) ?_
          exact ih (i + 1) (x + 2 ^ i) (by omega) (by omega) (by rw [bits_y (decide_eq_true h6), hx])
  exact L1 (S 19 d + 1) 0 0 (by omega) (by omega) rfl

def rmJ6_bitCount_0f7a4 : Room := { frames := 0, cells := 0, slots := 0, locals := 0 }
set_option maxHeartbeats 4000000 in
set_option maxRecDepth 100000 in
theorem c_bitCount (l : Launch) (D : va_G) (a : Nat → Nat) (c : Nat → ClassId) (S J : St) (b : Nat) (hb : b < 1024) : Cs l yJ6_bitCount_0f7a4 wsJ6_bitCount_0f7a4 rmJ6_bitCount_0f7a4 D (tyW c) [.int (nI b)] (wC a c S J) (nI (popc b)) (wC a c S J) := by
  refine Ci.of (lv0 := [(0, .int (nI b))]) (by decide +kernel) rfl (Nat.le_of_ble_eq_true rfl) rfl (fun G K hret => ?_)
  refine r_iload_n K dJ6_bitCount_0f7a4_0 rfl ?_
  refine r_iload_n K dJ6_bitCount_0f7a4_1 rfl ?_
  refine r_iconst K (nI 1) dJ6_bitCount_0f7a4_2 (by decide) ?_
  refine r_iushrR K dJ6_bitCount_0f7a4_3 rfl ?_
  refine r_ldcw K (List.mem_of_getElem? (i := 1) rfl) dJ6_bitCount_0f7a4_4 ?_
  refine r_iandR K dJ6_bitCount_0f7a4_7 ?_
  refine r_isubR K dJ6_bitCount_0f7a4_8 ?_
  refine r_top (show _ = bc1 (nI b) from rfl) ?_
  refine r_istore_n (lv' := [(0, .int (bc1 (nI b)))]) K dJ6_bitCount_0f7a4_9 (by decide) rfl ?_
  refine r_iload_n K dJ6_bitCount_0f7a4_10 rfl ?_
  refine r_ldcw K (List.mem_of_getElem? (i := 2) rfl) dJ6_bitCount_0f7a4_11 ?_
  refine r_iandR K dJ6_bitCount_0f7a4_14 ?_
  refine r_iload_n K dJ6_bitCount_0f7a4_15 rfl ?_
  refine r_iconst K (nI 2) dJ6_bitCount_0f7a4_16 (by decide) ?_
  refine r_iushrR K dJ6_bitCount_0f7a4_17 rfl ?_
  refine r_ldcw K (List.mem_of_getElem? (i := 2) rfl) dJ6_bitCount_0f7a4_18 ?_
  refine r_iandR K dJ6_bitCount_0f7a4_21 ?_
  refine r_iaddR K dJ6_bitCount_0f7a4_22 ?_
  refine r_top (show _ = bc2 (bc1 (nI b)) from rfl) ?_
  refine r_istore_n (lv' := [(0, .int (bc2 (bc1 (nI b))))]) K dJ6_bitCount_0f7a4_23 (by decide) rfl ?_
  refine r_iload_n K dJ6_bitCount_0f7a4_24 rfl ?_
  refine r_iload_n K dJ6_bitCount_0f7a4_25 rfl ?_
  refine r_iconst K (nI 4) dJ6_bitCount_0f7a4_26 (by decide) ?_
  refine r_iushrR K dJ6_bitCount_0f7a4_27 rfl ?_
  refine r_iaddR K dJ6_bitCount_0f7a4_28 ?_
  refine r_ldcw K (List.mem_of_getElem? (i := 3) rfl) dJ6_bitCount_0f7a4_29 ?_
  refine r_iandR K dJ6_bitCount_0f7a4_32 ?_
  refine r_top (show _ = bc3 (bc2 (bc1 (nI b))) from rfl) ?_
  refine r_istore_n (lv' := [(0, .int (bc3 (bc2 (bc1 (nI b)))))]) K dJ6_bitCount_0f7a4_33 (by decide) rfl ?_
  refine r_iload_n K dJ6_bitCount_0f7a4_34 rfl ?_
  refine r_iload_n K dJ6_bitCount_0f7a4_35 rfl ?_
  refine r_bipush K (nI 8) dJ6_bitCount_0f7a4_36 (by decide) ?_
  refine r_iushrR K dJ6_bitCount_0f7a4_38 rfl ?_
  refine r_iaddR K dJ6_bitCount_0f7a4_39 ?_
  refine r_top (show _ = bc4 (bc3 (bc2 (bc1 (nI b)))) from rfl) ?_
  refine r_istore_n (lv' := [(0, .int (bc4 (bc3 (bc2 (bc1 (nI b))))))]) K dJ6_bitCount_0f7a4_40 (by decide) rfl ?_
  refine r_iload_n K dJ6_bitCount_0f7a4_41 rfl ?_
  refine r_iload_n K dJ6_bitCount_0f7a4_42 rfl ?_
  refine r_bipush K (nI 16) dJ6_bitCount_0f7a4_43 (by decide) ?_
  refine r_iushrR K dJ6_bitCount_0f7a4_45 rfl ?_
  refine r_iaddR K dJ6_bitCount_0f7a4_46 ?_
  refine r_top (show _ = bc5 (bc4 (bc3 (bc2 (bc1 (nI b))))) from rfl) ?_
  refine r_istore_n (lv' := [(0, .int (bc5 (bc4 (bc3 (bc2 (bc1 (nI b)))))))]) K dJ6_bitCount_0f7a4_47 (by decide) rfl ?_
  refine r_iload_n K dJ6_bitCount_0f7a4_48 rfl ?_
  refine r_bipush K (nI 63) dJ6_bitCount_0f7a4_49 (by decide) ?_
  refine r_iandR K dJ6_bitCount_0f7a4_51 ?_
  exact hret 0 0 _ _ _ _ () dJ6_bitCount_0f7a4_52 (bc_all b hb) rfl (Nat.le_of_ble_eq_true rfl) (Nat.le_of_ble_eq_true rfl)

def rmX0_countOf : Room := { frames := 1, cells := 0, slots := 0, locals := 25 }
theorem hin_X0_countOf_0 : ∀ w ∈ wsX00, w ∈ wsX0_countOf := fun _ h => List.mem_cons_of_mem _ (List.mem_append_left _ (List.mem_append_right _ h))
theorem hin_X0_countOf_4 : ∀ w ∈ wsX40, w ∈ wsX0_countOf := fun _ h => List.mem_cons_of_mem _ (List.mem_append_right _ h)
set_option maxHeartbeats 4000000 in
set_option maxRecDepth 100000 in
theorem c_X0_countOf (l : Launch) (D : va_G) (a : Nat → Nat) (c : Nat → ClassId) (S J : St) (hV : V S) (d k : Nat) (hd : d < 12) (hk : k < 1000000) : Cs l yX0_countOf wsX0_countOf rmX0_countOf D (tyW c) [.ref (a 3), .int (nI d), .int (nI k), .ref (a 2)] (wC a c S J) (nI (mo S d k)) (wC a c S J) := by
  refine Ci.of (lv0 := [(0, .ref (a 3)), (1, .int (nI d)), (2, .int (nI k)), (3, .ref (a 2))]) (by decide +kernel) rfl (Nat.le_of_ble_eq_true rfl) rfl (fun G K hret => ?_)
  have hsz := V_size hV d
  have hb10 : bits (isK S d k) (S 19 d) < 1024 := Nat.lt_of_lt_of_le (bits_lt _ _) (Nat.pow_le_pow_right (by decide) hsz)
  refine r_aload_n K dX0_countOf_0 rfl ?_
  refine r_iload_n K dX0_countOf_1 rfl ?_
  refine r_iload_n K dX0_countOf_2 rfl ?_
  refine r_aload_n K dX0_countOf_3 rfl ?_
  refine r_callVs (rest := []) K (c_X0_placesOf l D a c S J hV d k (by omega) (by omega)) 3 gX0_countOf_X0_placesOf rfl (by decide +kernel) rfl (by decide) 3 (wC_g3 _ _ _ _) rfl rfl (Nat.le_of_ble_eq_true rfl) dX0_countOf_4 rfl rfl ?_
  refine r_callSs (rest := []) K (c_bitCount l D a c S J (bits (isK S d k) (S 19 d)) hb10) 1 gX0_countOf_J6_bitCount_0f7a4 rfl (by decide +kernel) rfl (by decide) rfl (Nat.le_of_ble_eq_true rfl) dX0_countOf_7 rfl rfl ?_
  exact hret 0 0 _ _ _ (nI (popc (bits (isK S d k) (S 19 d)))) () dX0_countOf_10 (congrArg nI (popc_bits _ hsz)) rfl (Nat.le_of_ble_eq_true rfl) (Nat.le_of_ble_eq_true rfl)

def rmX0_fitsFormat : Room := { frames := 2, cells := 0, slots := 0, locals := 48 }
theorem hin_X0_fitsFormat_0 : ∀ w ∈ wsX00, w ∈ wsX0_fitsFormat := fun _ h => List.mem_cons_of_mem _ (List.mem_append_left _ (List.mem_append_left _ (List.mem_append_right _ h)))
theorem hin_X0_fitsFormat_4 : ∀ w ∈ wsX40, w ∈ wsX0_fitsFormat := fun _ h => List.mem_cons_of_mem _ (List.mem_append_left _ (List.mem_append_right _ h))
theorem hin_X0_fitsFormat_1 : ∀ w ∈ wsX10, w ∈ wsX0_fitsFormat := fun _ h => List.mem_cons_of_mem _ (List.mem_append_right _ h)
set_option maxHeartbeats 4000000 in
set_option maxRecDepth 100000 in
theorem c_X0_fitsFormat (l : Launch) (D : va_G) (a : Nat → Nat) (c : Nat → ClassId) (S J : St) (hV : V S) (d : Nat) (hd : d < 12) : Cs l yX0_fitsFormat wsX0_fitsFormat rmX0_fitsFormat D (tyW c) [.ref (a 3), .int (nI d), .ref (a 1), .ref (a 2)] (wC a c S J) (nI (alw S d).toNat) (wC a c S J) := by
  refine Ci.ofZ (lv0 := [(0, .ref (a 3)), (1, .int (nI d)), (2, .ref (a 1)), (3, .ref (a 2))]) (by decide +kernel) rfl (Nat.le_of_ble_eq_true rfl) rfl (fun G K hret => ?_)
  have hsz := V_size hV d
  refine r_aload_n K dX0_fitsFormat_0 rfl ?_
  refine r_get K hin_X0_fitsFormat_0 3 (wC_g3 _ _ _ _) rfl 1 (by decide) (List.mem_of_getElem? (i := 1) rfl) rfl dX0_fitsFormat_1 ?_
  refine r_iload_n K dX0_fitsFormat_4 rfl ?_
  refine r_iald K 19 0 (wC_g19 _ _ _ _) rfl (by omega) (by decide) dX0_fitsFormat_5 ?_
  have hf1 := V_size hV d
  refine r_aload_n K dX0_fitsFormat_6 rfl ?_
  refine r_get K hin_X0_fitsFormat_0 3 (wC_g3 _ _ _ _) rfl 4 (by decide) (List.mem_of_getElem? (i := 2) rfl) rfl dX0_fitsFormat_7 ?_
  have hf2 := V_b hV 3 1
  refine r_ic_eq K 15 dX0_fitsFormat_10 (by decide) (by omega) (by omega) (fun h3 => ?_) (fun h3 => ?_)
  ·
    have hne := h3
    refine r_iconst K (nI 0) dX0_fitsFormat_15 (by decide) ?_
    refine r_istore (lv' := [(0, .ref (a 3)), (1, .int (nI d)), (2, .ref (a 1)), (3, .ref (a 2)), (4, .int (nI 0))]) K dX0_fitsFormat_16 (by decide) rfl ?_
    have L4 : ∀ (z : Nat) (i : Nat), S 19 d < i + z → i ≤ S 19 d → allB (okAt S d) i = true → G 0 0 (wC a c S J) [(0, .ref (a 3)), (1, .int (nI d)), (2, .ref (a 1)), (3, .ref (a 2)), (4, .int (nI i))] 18 [] := by
      intro z
      induction z with
      | zero => intro i hz hi hn; exact absurd hz (by omega)
      | succ z ih =>
        intro i hz hi hn
        refine r_iload K dX0_fitsFormat_18 rfl ?_
        refine r_aload_n K dX0_fitsFormat_20 rfl ?_
        refine r_get K hin_X0_fitsFormat_0 3 (wC_g3 _ _ _ _) rfl 1 (by decide) (List.mem_of_getElem? (i := 1) rfl) rfl dX0_fitsFormat_21 ?_
        refine r_iload_n K dX0_fitsFormat_24 rfl ?_
        refine r_iald K 19 0 (wC_g19 _ _ _ _) rfl (by omega) (by decide) dX0_fitsFormat_25 ?_
        refine r_ic_ge K 100 dX0_fitsFormat_26 (by decide) (by omega) (by omega) (fun h6 => ?_) (fun h6 => ?_)
        ·
          refine r_iconst K (nI 1) dX0_fitsFormat_100 (by decide) ?_
          exact hret 0 0 _ _ _ 1 () dX0_fitsFormat_101 (by decide) (by rw [show alw S d = true from alw_y hne hn (by omega)]; rfl) rfl (Nat.le_of_ble_eq_true rfl) (Nat.le_of_ble_eq_true rfl)
        ·
          refine r_aload_n K dX0_fitsFormat_29 rfl ?_
          refine r_get K hin_X0_fitsFormat_0 3 (wC_g3 _ _ _ _) rfl 2 (by decide) (List.mem_of_getElem? (i := 3) rfl) rfl dX0_fitsFormat_30 ?_
          refine r_iload_n K dX0_fitsFormat_33 rfl ?_
          refine r_aald2 K 20 2 (wC_g20 _ _ _ _) rfl (by omega) (by decide) (rowsOf_at _ (by omega)) dX0_fitsFormat_34 ?_
          refine r_iload K dX0_fitsFormat_35 rfl ?_
          refine r_iald K (30 + d) 0 (wC_row _ _ _ _ (by omega)) rfl (by omega) (by decide) dX0_fitsFormat_37 ?_
          have hf7 := V_card hV d i (by omega)
          refine r_istore (lv' := [(0, .ref (a 3)), (1, .int (nI d)), (2, .ref (a 1)), (3, .ref (a 2)), (4, .int (nI i)), (5, .int (nI (S (30 + d) i)))]) K dX0_fitsFormat_38 (by decide) rfl ?_
          refine r_aload_n K dX0_fitsFormat_40 rfl ?_
          refine r_get K hin_X0_fitsFormat_4 2 (wC_g2 _ _ _ _) rfl 0 (by decide) (List.mem_of_getElem? (i := 4) rfl) rfl dX0_fitsFormat_41 ?_
          refine r_iload K dX0_fitsFormat_44 rfl ?_
          refine r_iald K 15 0 (wC_g15 _ _ _ _) rfl (by omega) (by decide) dX0_fitsFormat_46 ?_
          have hf8 := V_kind hV (S (30 + d) i)
          refine r_istore (lv' := [(0, .ref (a 3)), (1, .int (nI d)), (2, .ref (a 1)), (3, .ref (a 2)), (4, .int (nI i)), (5, .int (nI (S (30 + d) i))), (6, .int (nI (S 15 (S (30 + d) i))))]) K dX0_fitsFormat_47 (by decide) rfl ?_
          refine r_aload_n K dX0_fitsFormat_49 rfl ?_
          refine r_get K hin_X0_fitsFormat_4 2 (wC_g2 _ _ _ _) rfl 2 (by decide) (List.mem_of_getElem? (i := 5) rfl) rfl dX0_fitsFormat_50 ?_
          refine r_iload K dX0_fitsFormat_53 rfl ?_
          refine r_iald K 17 0 (wC_g17 _ _ _ _) rfl (by omega) (by decide) dX0_fitsFormat_55 ?_
          have hf9 := V_b hV 17 (S (30 + d) i)
          refine r_aload_n K dX0_fitsFormat_56 rfl ?_
          refine r_get K hin_X0_fitsFormat_0 3 (wC_g3 _ _ _ _) rfl 0 (by decide) (List.mem_of_getElem? (i := 6) rfl) rfl dX0_fitsFormat_57 ?_
          refine r_iload_n K dX0_fitsFormat_60 rfl ?_
          refine r_iald K 18 0 (wC_g18 _ _ _ _) rfl (by omega) (by decide) dX0_fitsFormat_61 ?_
          have hf10 := V_b hV 18 d
          refine r_ic_ne K 75 dX0_fitsFormat_62 (by decide) (by omega) (by omega) (fun h11 => ?_) (fun h11 => ?_)
          ·
            refine r_iconst K (nI 0) dX0_fitsFormat_75 (by decide) ?_
            exact hret 0 0 _ _ _ 0 () dX0_fitsFormat_76 (by decide) (by rw [show alw S d = false from alw_no (okAt_1 h11) (by omega)]; rfl) rfl (Nat.le_of_ble_eq_true rfl) (Nat.le_of_ble_eq_true rfl)
          ·
            refine r_aload_n K dX0_fitsFormat_65 rfl ?_
            refine r_get K hin_X0_fitsFormat_1 1 (wC_g1 _ _ _ _) rfl 2 (by decide) (List.mem_of_getElem? (i := 7) rfl) rfl dX0_fitsFormat_66 ?_
            refine r_iload K dX0_fitsFormat_69 rfl ?_
            refine r_zald K 12 1 (wC_g12 _ _ _ _) rfl (by omega) (by decide) dX0_fitsFormat_71 ?_
            have hf12 := V_b hV 12 (S 15 (S (30 + d) i))
            refine r_if_eq K 77 dX0_fitsFormat_72 (by decide) (by omega) (fun h13 => ?_) (fun h13 => ?_)
            ·
              refine r_aload_n K dX0_fitsFormat_77 rfl ?_
              refine r_iload_n K dX0_fitsFormat_78 rfl ?_
              refine r_iload K dX0_fitsFormat_79 rfl ?_
              refine r_aload_n K dX0_fitsFormat_81 rfl ?_
              have hkd := V_kind hV (S (30 + d) i)
              have hmo := mo_le hV d (S 15 (S (30 + d) i))
              refine r_callVs (rest := []) K (c_X0_countOf l D a c S J hV d (S 15 (S (30 + d) i)) (by omega) (by omega)) 3 gX0_fitsFormat_X0_countOf rfl (by decide +kernel) rfl (by decide) 3 (wC_g3 _ _ _ _) rfl rfl (Nat.le_of_ble_eq_true rfl) dX0_fitsFormat_82 rfl rfl ?_
              refine r_aload_n K dX0_fitsFormat_85 rfl ?_
              refine r_get K hin_X0_fitsFormat_0 3 (wC_g3 _ _ _ _) rfl 5 (by decide) (List.mem_of_getElem? (i := 8) rfl) rfl dX0_fitsFormat_86 ?_
              have hf14 := V_b hV 3 2
              refine r_ic_le K 94 dX0_fitsFormat_89 (by decide) (by omega) (by omega) (fun h15 => ?_) (fun h15 => ?_)
              ·
                refine r_iinc (lv' := [(0, .ref (a 3)), (1, .int (nI d)), (2, .ref (a 1)), (3, .ref (a 2)), (4, .int (nI (i + 1))), (5, .int (nI (S (30 + d) i))), (6, .int (nI (S 15 (S (30 + d) i))))]) K dX0_fitsFormat_94 rfl (nI_1 _) (by decide) rfl ?_
                refine r_goto K 18 dX0_fitsFormat_97 (by decide) ?_
                refine r_pick [0, 1, 2, 3, 4] K rfl ?_
                exact ih (i + 1) (by omega) (by omega) (allB_s hn (okAt_y h11 h13 h15))
              ·
                refine r_iconst K (nI 0) dX0_fitsFormat_92 (by decide) ?_
                exact hret 0 0 _ _ _ 0 () dX0_fitsFormat_93 (by decide) (by rw [show alw S d = false from alw_no (okAt_3 h15) (by omega)]; rfl) rfl (Nat.le_of_ble_eq_true rfl) (Nat.le_of_ble_eq_true rfl)
            ·
              refine r_iconst K (nI 0) dX0_fitsFormat_75 (by decide) ?_
              exact hret 0 0 _ _ _ 0 () dX0_fitsFormat_76 (by decide) (by rw [show alw S d = false from alw_no (okAt_2 h13) (by omega)]; rfl) rfl (Nat.le_of_ble_eq_true rfl) (Nat.le_of_ble_eq_true rfl)
    exact L4 (S 19 d + 1) 0 (by omega) (by omega) rfl
  ·
    refine r_iconst K (nI 0) dX0_fitsFormat_13 (by decide) ?_
    exact hret 0 0 _ _ _ 0 () dX0_fitsFormat_14 (by decide) (by rw [show alw S d = false from alw_0 h3]; rfl) rfl (Nat.le_of_ble_eq_true rfl) (Nat.le_of_ble_eq_true rfl)

def rmX0_countFitting : Room := { frames := 3, cells := 0, slots := 0, locals := 74 }
theorem hin_X0_countFitting_0 : ∀ w ∈ wsX00, w ∈ wsX0_countFitting := fun _ h => List.mem_cons_of_mem _ (List.mem_append_left _ (List.mem_append_left _ (List.mem_append_right _ h)))
theorem hin_X0_countFitting_4 : ∀ w ∈ wsX40, w ∈ wsX0_countFitting := fun _ h => List.mem_cons_of_mem _ (List.mem_append_left _ (List.mem_append_right _ h))
theorem hin_X0_countFitting_1 : ∀ w ∈ wsX10, w ∈ wsX0_countFitting := fun _ h => List.mem_cons_of_mem _ (List.mem_append_right _ h)
set_option maxHeartbeats 4000000 in
set_option maxRecDepth 100000 in
theorem c_X0_countFitting (l : Launch) (D : va_G) (a : Nat → Nat) (c : Nat → ClassId) (S J : St) (hV : V S) : Cs l yX0_countFitting wsX0_countFitting rmX0_countFitting D (tyW c) [.ref (a 3), .ref (a 1), .ref (a 2)] (wC a c S J) (nI (nAlw S)) (wC a c S J) := by
  refine Ci.of (lv0 := [(0, .ref (a 3)), (1, .ref (a 1)), (2, .ref (a 2))]) (by decide +kernel) rfl (Nat.le_of_ble_eq_true rfl) rfl (fun G K hret => ?_)
  have hdk := V_decks hV
  refine r_iconst K (nI 0) dX0_countFitting_0 (by decide) ?_
  refine r_istore_n (lv' := [(0, .ref (a 3)), (1, .ref (a 1)), (2, .ref (a 2)), (3, .int (nI 0))]) K dX0_countFitting_1 (by decide) rfl ?_
  refine r_iconst K (nI 0) dX0_countFitting_2 (by decide) ?_
  refine r_istore (lv' := [(0, .ref (a 3)), (1, .ref (a 1)), (2, .ref (a 2)), (3, .int (nI 0)), (4, .int (nI 0))]) K dX0_countFitting_3 (by decide) rfl ?_
  have L1 : ∀ (z : Nat) (i x : Nat), S 3 0 < i + z → i ≤ S 3 0 → x = cnt (alw S) i → G 0 0 (wC a c S J) [(0, .ref (a 3)), (1, .ref (a 1)), (2, .ref (a 2)), (3, .int (nI x)), (4, .int (nI i))] 5 [] := by
    intro z
    induction z with
    | zero => intro i x hz hi hx; exact absurd hz (by omega)
    | succ z ih =>
      intro i x hz hi hx
      refine r_iload K dX0_countFitting_5 rfl ?_
      refine r_aload_n K dX0_countFitting_7 rfl ?_
      refine r_get K hin_X0_countFitting_0 3 (wC_g3 _ _ _ _) rfl 3 (by decide) (List.mem_of_getElem? (i := 1) rfl) rfl dX0_countFitting_8 ?_
      have hf2 := V_b hV 3 0
      refine r_ic_ge K 34 dX0_countFitting_11 (by decide) (by omega) (by omega) (fun h3 => ?_) (fun h3 => ?_)
      ·
        refine r_iload_n K dX0_countFitting_34 rfl ?_
        exact hret 0 0 _ _ _ (nI x) () dX0_countFitting_35 (by rw [hx, show i = S 3 0 by omega]; rfl) rfl (Nat.le_of_ble_eq_true rfl) (Nat.le_of_ble_eq_true rfl)
      ·
        refine r_aload_n K dX0_countFitting_14 rfl ?_
        refine r_iload K dX0_countFitting_15 rfl ?_
        refine r_aload_n K dX0_countFitting_17 rfl ?_
        refine r_aload_n K dX0_countFitting_18 rfl ?_
        refine r_callVs (rest := []) K (c_X0_fitsFormat l D a c S J hV i (by omega)) 3 gX0_countFitting_X0_fitsFormat rfl (by decide +kernel) rfl (by decide) 3 (wC_g3 _ _ _ _) rfl rfl (Nat.le_of_ble_eq_true rfl) dX0_countFitting_19 rfl rfl ?_
        refine r_if_eqB K 28 dX0_countFitting_22 (by decide) (fun h4 => ?_) (fun h4 => ?_)
        ·
          refine r_iinc (lv' := [(0, .ref (a 3)), (1, .ref (a 1)), (2, .ref (a 2)), (3, .int (nI x)), (4, .int (nI (i + 1)))]) K dX0_countFitting_28 rfl (nI_1 _) (by decide) rfl ?_
          refine r_goto K 5 dX0_countFitting_31 (by decide) ?_
          exact ih (i + 1) x (by omega) (by omega) (by rw [cnt_n h4, hx])
        ·
          refine r_iinc (lv' := [(0, .ref (a 3)), (1, .ref (a 1)), (2, .ref (a 2)), (3, .int (nI (x + 1))), (4, .int (nI i))]) K dX0_countFitting_25 rfl (nI_1 _) (by decide) rfl ?_
          refine r_iinc (lv' := [(0, .ref (a 3)), (1, .ref (a 1)), (2, .ref (a 2)), (3, .int (nI (x + 1))), (4, .int (nI (i + 1)))]) K dX0_countFitting_28 rfl (nI_1 _) (by decide) rfl ?_
          refine r_goto K 5 dX0_countFitting_31 (by decide) ?_
          exact ih (i + 1) (x + 1) (by omega) (by omega) (by rw [cnt_y h4, hx])
  exact L1 (S 3 0 + 1) 0 0 (by omega) (by omega) rfl
