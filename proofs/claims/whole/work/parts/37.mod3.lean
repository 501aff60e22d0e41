def rmX7_opens : Room := { frames := 0, cells := 0, slots := 0, locals := 0 }
theorem hin_X7_opens_7 : ∀ w ∈ wsX70, w ∈ wsX7_opens := fun _ h => List.mem_cons_of_mem _ (List.mem_append_right _ h)
set_option maxHeartbeats 4000000 in
set_option maxRecDepth 100000 in
theorem c_X7_opens (l : Launch) (D : va_G) (b : Nat → Nat) (c : Nat → ClassId) (S J : St) (hV : V S) (o : Nat) (ho : o < 40) : Cs l yX7_opens wsX7_opens rmX7_opens D (tyW c) [.ref (b 0), .int (nI o)] (wM b c S J) (nI (opB S o).toNat) (wM b c S J) := by
  refine Ci.ofZ (lv0 := [(0, .ref (b 0)), (1, .int (nI o))]) (by decide +kernel) rfl (Nat.le_of_ble_eq_true rfl) rfl (fun G K hret => ?_)
  have hoc := V_ocard hV o
  refine r_aload_n K dX7_opens_0 rfl ?_
  refine r_get K hin_X7_opens_7 0 (wM_g0 _ _ _ _) rfl 20 (by decide) (List.mem_of_getElem? (i := 1) rfl) rfl dX7_opens_1 ?_
  refine r_iload_n K dX7_opens_4 rfl ?_
  refine r_zald K 16 1 (wM_g16 _ _ _ _) rfl (by omega) (by decide) dX7_opens_5 ?_
  have hf1 := V_b hV 27 o
  refine r_if_ne K 33 dX7_opens_6 (by decide) (by omega) (fun h2 => ?_) (fun h2 => ?_)
  ·
    refine r_iconst K (nI 0) dX7_opens_33 (by decide) ?_
    exact hret 0 0 _ _ _ 0 () dX7_opens_34 (by decide) (by simp [opB, h2]) rfl (Nat.le_of_ble_eq_true rfl) (Nat.le_of_ble_eq_true rfl)
  ·
    refine r_aload_n K dX7_opens_9 rfl ?_
    refine r_get K hin_X7_opens_7 0 (wM_g0 _ _ _ _) rfl 10 (by decide) (List.mem_of_getElem? (i := 2) rfl) rfl dX7_opens_10 ?_
    refine r_aload_n K dX7_opens_13 rfl ?_
    refine r_get K hin_X7_opens_7 0 (wM_g0 _ _ _ _) rfl 17 (by decide) (List.mem_of_getElem? (i := 3) rfl) rfl dX7_opens_14 ?_
    refine r_iload_n K dX7_opens_17 rfl ?_
    refine r_iald K 13 0 (wM_g13 _ _ _ _) rfl (by omega) (by decide) dX7_opens_18 ?_
    have hf3 := V_ocard hV o
    refine r_iald K 8 0 (wM_g8 _ _ _ _) rfl (by omega) (by decide) dX7_opens_19 ?_
    have hf4 := V_b hV 17 (S 21 o)
    refine r_aload_n K dX7_opens_20 rfl ?_
    refine r_get K hin_X7_opens_7 0 (wM_g0 _ _ _ _) rfl 18 (by decide) (List.mem_of_getElem? (i := 4) rfl) rfl dX7_opens_21 ?_
    refine r_iload_n K dX7_opens_24 rfl ?_
    refine r_iald K 14 0 (wM_g14 _ _ _ _) rfl (by omega) (by decide) dX7_opens_25 ?_
    have hf5 := V_b hV 24 o
    refine r_ic_ne K 33 dX7_opens_26 (by decide) (by omega) (by omega) (fun h6 => ?_) (fun h6 => ?_)
    ·
      refine r_iconst K (nI 0) dX7_opens_33 (by decide) ?_
      exact hret 0 0 _ _ _ 0 () dX7_opens_34 (by decide) (by simp [opB, h2, h6]) rfl (Nat.le_of_ble_eq_true rfl) (Nat.le_of_ble_eq_true rfl)
    ·
      refine r_iconst K (nI 1) dX7_opens_29 (by decide) ?_
      refine r_goto K 34 dX7_opens_30 (by decide) ?_
      exact hret 0 0 _ _ _ 1 () dX7_opens_34 (by decide) (by simp [opB, h2, h6]) rfl (Nat.le_of_ble_eq_true rfl) (Nat.le_of_ble_eq_true rfl)

def rmX7_gives : Room := { frames := 0, cells := 0, slots := 0, locals := 0 }
theorem hin_X7_gives_7 : ∀ w ∈ wsX70, w ∈ wsX7_gives := fun _ h => List.mem_cons_of_mem _ (List.mem_append_right _ h)
set_option maxHeartbeats 4000000 in
set_option maxRecDepth 100000 in
theorem c_X7_gives (l : Launch) (D : va_G) (b : Nat → Nat) (c : Nat → ClassId) (S J : St) (hV : V S) (o x : Nat) (ho : o < 40) (hx : x < 40) : Cs l yX7_gives wsX7_gives rmX7_gives D (tyW c) [.ref (b 0), .int (nI o), .int (nI x)] (wM b c S J) (nI (gvM S o x).toNat) (wM b c S J) := by
  refine Ci.ofZ (lv0 := [(0, .ref (b 0)), (1, .int (nI o)), (2, .int (nI x))]) (by decide +kernel) rfl (Nat.le_of_ble_eq_true rfl) rfl (fun G K hret => ?_)
  have hoc := V_ocard hV o
  refine r_aload_n K dX7_gives_0 rfl ?_
  refine r_get K hin_X7_gives_7 0 (wM_g0 _ _ _ _) rfl 18 (by decide) (List.mem_of_getElem? (i := 1) rfl) rfl dX7_gives_1 ?_
  refine r_iload_n K dX7_gives_4 rfl ?_
  refine r_iald K 14 0 (wM_g14 _ _ _ _) rfl (by omega) (by decide) dX7_gives_5 ?_
  have hf1 := V_b hV 24 o
  refine r_aload_n K dX7_gives_6 rfl ?_
  refine r_get K hin_X7_gives_7 0 (wM_g0 _ _ _ _) rfl 18 (by decide) (List.mem_of_getElem? (i := 1) rfl) rfl dX7_gives_7 ?_
  refine r_iload_n K dX7_gives_10 rfl ?_
  refine r_iald K 14 0 (wM_g14 _ _ _ _) rfl (by omega) (by decide) dX7_gives_11 ?_
  have hf2 := V_b hV 24 x
  refine r_ic_eq K 39 dX7_gives_12 (by decide) (by omega) (by omega) (fun h3 => ?_) (fun h3 => ?_)
  ·
    refine r_iconst K (nI 0) dX7_gives_39 (by decide) ?_
    exact hret 0 0 _ _ _ 0 () dX7_gives_40 (by decide) (by simp [gvM, h3]) rfl (Nat.le_of_ble_eq_true rfl) (Nat.le_of_ble_eq_true rfl)
  ·
    refine r_aload_n K dX7_gives_15 rfl ?_
    refine r_get K hin_X7_gives_7 0 (wM_g0 _ _ _ _) rfl 8 (by decide) (List.mem_of_getElem? (i := 2) rfl) rfl dX7_gives_16 ?_
    refine r_aload_n K dX7_gives_19 rfl ?_
    refine r_get K hin_X7_gives_7 0 (wM_g0 _ _ _ _) rfl 17 (by decide) (List.mem_of_getElem? (i := 3) rfl) rfl dX7_gives_20 ?_
    refine r_iload_n K dX7_gives_23 rfl ?_
    refine r_iald K 13 0 (wM_g13 _ _ _ _) rfl (by omega) (by decide) dX7_gives_24 ?_
    have hf4 := V_ocard hV o
    refine r_iald K 6 0 (wM_g6 _ _ _ _) rfl (by omega) (by decide) dX7_gives_25 ?_
    have hf5 := V_kind hV (S 21 o)
    refine r_aload_n K dX7_gives_26 rfl ?_
    refine r_get K hin_X7_gives_7 0 (wM_g0 _ _ _ _) rfl 19 (by decide) (List.mem_of_getElem? (i := 4) rfl) rfl dX7_gives_27 ?_
    refine r_iload_n K dX7_gives_30 rfl ?_
    refine r_iald K 15 0 (wM_g15 _ _ _ _) rfl (by omega) (by decide) dX7_gives_31 ?_
    have hf6 := V_b hV 23 x
    refine r_ic_ne K 39 dX7_gives_32 (by decide) (by omega) (by omega) (fun h7 => ?_) (fun h7 => ?_)
    ·
      refine r_iconst K (nI 0) dX7_gives_39 (by decide) ?_
      exact hret 0 0 _ _ _ 0 () dX7_gives_40 (by decide) (by simp [gvM, h3, h7]) rfl (Nat.le_of_ble_eq_true rfl) (Nat.le_of_ble_eq_true rfl)
    ·
      refine r_iconst K (nI 1) dX7_gives_35 (by decide) ?_
      refine r_goto K 40 dX7_gives_36 (by decide) ?_
      exact hret 0 0 _ _ _ 1 () dX7_gives_40 (by decide) (by simp [gvM, h3, h7]) rfl (Nat.le_of_ble_eq_true rfl) (Nat.le_of_ble_eq_true rfl)

def rmX7_effect : Room := { frames := 0, cells := 0, slots := 0, locals := 0 }
theorem hin_X7_effect_7 : ∀ w ∈ wsX70, w ∈ wsX7_effect := fun _ h => List.mem_cons_of_mem _ (List.mem_append_right _ h)
set_option maxHeartbeats 4000000 in
set_option maxRecDepth 100000 in
theorem c_X7_effect (l : Launch) (D : va_G) (b : Nat → Nat) (c : Nat → ClassId) (S J : St) (hV : V S) (o x : Nat) (won : Bool) (ho : o < 16) (hx : x < 16) : Cs l yX7_effect wsX7_effect rmX7_effect D (tyW c) [.ref (b 0), .int (nI o), .int (nI x), .int (nI ((won).toNat))] (wM b c S J) (nI (effN S o x won)) (wM b c S J) := by
  refine Ci.of (lv0 := [(0, .ref (b 0)), (1, .int (nI o)), (2, .int (nI x)), (3, .int (nI ((won).toNat)))]) (by decide +kernel) rfl (Nat.le_of_ble_eq_true rfl) rfl (fun G K hret => ?_)
  refine r_aload_n K dX7_effect_0 rfl ?_
  refine r_get K hin_X7_effect_7 0 (wM_g0 _ _ _ _) rfl 1 (by decide) (List.mem_of_getElem? (i := 1) rfl) rfl dX7_effect_1 ?_
  refine r_iload_n K dX7_effect_4 rfl ?_
  refine r_iald K 2 0 (wM_g2 _ _ _ _) rfl (by omega) (by decide) dX7_effect_5 ?_
  have hf1 := V_b hV 11 x
  refine r_iconst K (nI 3) dX7_effect_6 (by decide) ?_
  refine r_ic_ne K 14 dX7_effect_7 (by decide) (by omega) (by decide) (fun h2 => ?_) (fun h2 => ?_)
  ·
    refine r_aload_n K dX7_effect_14 rfl ?_
    refine r_get K hin_X7_effect_7 0 (wM_g0 _ _ _ _) rfl 1 (by decide) (List.mem_of_getElem? (i := 1) rfl) rfl dX7_effect_15 ?_
    refine r_iload_n K dX7_effect_18 rfl ?_
    refine r_iald K 2 0 (wM_g2 _ _ _ _) rfl (by omega) (by decide) dX7_effect_19 ?_
    have hf3 := V_b hV 11 o
    refine r_istore (lv' := [(0, .ref (b 0)), (1, .int (nI o)), (2, .int (nI x)), (3, .int (nI ((won).toNat))), (4, .int (nI (S 11 o)))]) K dX7_effect_20 (by decide) rfl ?_
    refine r_iload K dX7_effect_22 rfl ?_
    refine r_iconst K (nI 1) dX7_effect_24 (by decide) ?_
    refine r_ic_ne K 36 dX7_effect_25 (by decide) (by omega) (by decide) (fun h4 => ?_) (fun h4 => ?_)
    ·
      refine r_iload K dX7_effect_36 rfl ?_
      refine r_iconst K (nI 2) dX7_effect_38 (by decide) ?_
      refine r_ic_ne K 50 dX7_effect_39 (by decide) (by omega) (by decide) (fun h5 => ?_) (fun h5 => ?_)
      ·
        refine r_iconst K (nI 0) dX7_effect_50 (by decide) ?_
        exact hret 0 0 _ _ _ (nI 0) () dX7_effect_51 (by simp [effN, h2, h4, h5]) rfl (Nat.le_of_ble_eq_true rfl) (Nat.le_of_ble_eq_true rfl)
      ·
        refine r_iload_n K dX7_effect_42 rfl ?_
        refine r_if_neB K 50 dX7_effect_43 (by decide) (fun h6 => ?_) (fun h6 => ?_)
        ·
          refine r_iconst K (nI 0) dX7_effect_50 (by decide) ?_
          exact hret 0 0 _ _ _ (nI 0) () dX7_effect_51 (by simp [effN, h2, h4, h5, h6]) rfl (Nat.le_of_ble_eq_true rfl) (Nat.le_of_ble_eq_true rfl)
        ·
          refine r_iconst K (nI 2) dX7_effect_46 (by decide) ?_
          refine r_goto K 51 dX7_effect_47 (by decide) ?_
          exact hret 0 0 _ _ _ (nI 2) () dX7_effect_51 (by simp [effN, h2, h4, h5, h6]) rfl (Nat.le_of_ble_eq_true rfl) (Nat.le_of_ble_eq_true rfl)
    ·
      refine r_iload_n K dX7_effect_28 rfl ?_
      refine r_if_eqB K 36 dX7_effect_29 (by decide) (fun h7 => ?_) (fun h7 => ?_)
      ·
        refine r_iload K dX7_effect_36 rfl ?_
        refine r_iconst K (nI 2) dX7_effect_38 (by decide) ?_
        refine r_ic_ne K 50 dX7_effect_39 (by decide) (by omega) (by decide) (fun h8 => ?_) (fun h8 => ?_)
        ·
          refine r_iconst K (nI 0) dX7_effect_50 (by decide) ?_
          exact hret 0 0 _ _ _ (nI 0) () dX7_effect_51 (by simp [effN, h2, h4, h7, h8]) rfl (Nat.le_of_ble_eq_true rfl) (Nat.le_of_ble_eq_true rfl)
        ·
          exact (show False by omega).elim
      ·
        refine r_iconst K (nI 1) dX7_effect_32 (by decide) ?_
        refine r_goto K 51 dX7_effect_33 (by decide) ?_
        exact hret 0 0 _ _ _ (nI 1) () dX7_effect_51 (by simp [effN, h2, h4, h7]) rfl (Nat.le_of_ble_eq_true rfl) (Nat.le_of_ble_eq_true rfl)
  ·
    refine r_iconst K (nI 0) dX7_effect_10 (by decide) ?_
    refine r_goto K 20 dX7_effect_11 (by decide) ?_
    refine r_istore (lv' := [(0, .ref (b 0)), (1, .int (nI o)), (2, .int (nI x)), (3, .int (nI ((won).toNat))), (4, .int (nI 0))]) K dX7_effect_20 (by decide) rfl ?_
    refine r_iload K dX7_effect_22 rfl ?_
    refine r_iconst K (nI 1) dX7_effect_24 (by decide) ?_
    refine r_ic_ne K 36 dX7_effect_25 (by decide) (by decide) (by decide) (fun h10 => ?_) (fun h10 => absurd h10 (by decide))
    refine r_iload K dX7_effect_36 rfl ?_
    refine r_iconst K (nI 2) dX7_effect_38 (by decide) ?_
    refine r_ic_ne K 50 dX7_effect_39 (by decide) (by decide) (by decide) (fun h12 => ?_) (fun h12 => absurd h12 (by decide))
    refine r_iconst K (nI 0) dX7_effect_50 (by decide) ?_
    exact hret 0 0 _ _ _ (nI 0) () dX7_effect_51 (by simp [effN, h2]) rfl (Nat.le_of_ble_eq_true rfl) (Nat.le_of_ble_eq_true rfl)

def rmX7_wonBy : Room := { frames := 2, cells := 0, slots := 0, locals := 46 }
theorem hin_X7_wonBy_7 : ∀ w ∈ wsX70, w ∈ wsX7_wonBy := fun _ h => List.mem_cons_of_mem _ (List.mem_append_right _ h)
set_option maxHeartbeats 4000000 in
set_option maxRecDepth 100000 in
theorem c_X7_wonBy (l : Launch) (D : va_G) (b : Nat → Nat) (c : Nat → ClassId) (S J : St) (hV : V S) (hw14 : ∀ k, S 14 k < 999999) (d : Nat) (hd : d < 12) : Csv l yX7_wonBy wsX7_wonBy rmX7_wonBy D (tyW c) [.ref (b 0), .int (nI d)] (wM b c S J) (wM b c (gwS S d 16) J) := by
  refine Cv.of (lv0 := [(0, .ref (b 0)), (1, .int (nI d))]) (by decide +kernel) rfl (Nat.le_of_ble_eq_true rfl) rfl (fun G K hret => ?_)
  refine r_iconst K (nI 0) dX7_wonBy_0 (by decide) ?_
  refine r_istore_n (lv' := [(0, .ref (b 0)), (1, .int (nI d)), (2, .int (nI 0))]) K dX7_wonBy_1 (by decide) rfl ?_
  have L1 : ∀ (z : Nat) (i : Nat) (Sx : St), 16 < i + z → (i ≤ 16) → (Sx = gwS S d i) → G 0 0 (wM b c Sx J) [(0, .ref (b 0)), (1, .int (nI d)), (2, .int (nI i))] 2 [] := by
    intro z
    induction z with
    | zero => intro i Sx hz hi hS; exact absurd hz (by omega)
    | succ z ih =>
      intro i Sx hz hi hS
      refine r_iload_n K dX7_wonBy_2 rfl ?_
      refine r_bipush K (nI 16) dX7_wonBy_3 (by decide) ?_
      refine r_ic_ge K 37 dX7_wonBy_5 (by decide) (by omega) (by decide) (fun h2 => ?_) (fun h2 => ?_)
      ·
        exact hret 0 0 _ _ _ () dX7_wonBy_37 trivial (by rw [hS, show i = 16 by omega]) (Nat.le_of_ble_eq_true rfl) (Nat.le_of_ble_eq_true rfl)
      ·
        refine r_aload_n K dX7_wonBy_8 rfl ?_
        refine r_get K hin_X7_wonBy_7 0 (wM_g0 _ _ _ _) rfl 4 (by decide) (List.mem_of_getElem? (i := 1) rfl) rfl dX7_wonBy_9 ?_
        refine r_iload_n K dX7_wonBy_12 rfl ?_
        refine r_dup2 K dX7_wonBy_13 rfl rfl ?_
        refine r_iald K 5 0 (wM_g5 _ _ _ _) rfl (by omega) (by decide) dX7_wonBy_14 ?_
        refine r_aload_n K dX7_wonBy_15 rfl ?_
        refine r_iload_n K dX7_wonBy_16 rfl ?_
        refine r_iload_n K dX7_wonBy_17 rfl ?_
        have hVx : V Sx := by rw [hS]; exact gwS_V hV hw14 d i
        have hmo : mo Sx d i = mo S d i := mo_cong (by rw [hS]; exact gwS_ne (by decide) i) (by rw [hS]; exact gwS_ne (by decide) i) (by rw [hS]; exact gwS_ne (by omega) i)
        have hmo10 := mo_le hVx d i
        have hsx : Sx 14 i = S 14 i := by rw [hS]; exact gwS_hi i (Nat.le_refl _)
        refine r_callVs (rest := [.int (nI (Sx 14 i)), .int (nI i), .ref (b 14)]) K (c_X7_manyOf l D b c Sx J hVx d i hd (by omega)) 2 gX7_wonBy_X7_manyOf rfl (by decide +kernel) rfl (by decide) 0 (wM_g0 _ _ _ _) rfl rfl (Nat.le_of_ble_eq_true rfl) dX7_wonBy_18 rfl rfl ?_
        refine r_if_le K 28 dX7_wonBy_21 (by decide) (by omega) (fun h3 => ?_) (fun h3 => ?_)
        ·
          refine r_iconst K (nI 0) dX7_wonBy_28 (by decide) ?_
          refine r_iadd K dX7_wonBy_29 ?_
          refine r_iast K 5 0 (wM_g5 _ _ _ _) rfl (by omega) (by decide) dX7_wonBy_30 (wM_s5 _ _ _ _ _ _) ?_
          refine r_iinc (lv' := [(0, .ref (b 0)), (1, .int (nI d)), (2, .int (nI (i + 1)))]) K dX7_wonBy_31 rfl (nI_1 _) (by decide) rfl ?_
          refine r_goto K 2 dX7_wonBy_34 (by decide) ?_
          exact ih (i + 1) _ (by omega) (by omega) (by rw [Nat.add_zero, up_id, hS]; exact (gwS_n (by omega)).symm)
        ·
          refine r_iconst K (nI 1) dX7_wonBy_24 (by decide) ?_
          refine r_goto K 29 dX7_wonBy_25 (by decide) ?_
          refine r_iadd K dX7_wonBy_29 ?_
          refine r_iast K 5 0 (wM_g5 _ _ _ _) rfl (by omega) (by decide) dX7_wonBy_30 (wM_s5 _ _ _ _ _ _) ?_
          refine r_iinc (lv' := [(0, .ref (b 0)), (1, .int (nI d)), (2, .int (nI (i + 1)))]) K dX7_wonBy_31 rfl (nI_1 _) (by decide) rfl ?_
          refine r_goto K 2 dX7_wonBy_34 (by decide) ?_
          exact ih (i + 1) _ (by omega) (by omega) (by rw [hsx, hS, gwS_y (by omega)])
  exact L1 17 0 S (by omega) (by omega) rfl

def rmX7_cut : Room := { frames := 2, cells := 0, slots := 0, locals := 43 }
theorem hin_X7_cut_7 : ∀ w ∈ wsX70, w ∈ wsX7_cut := fun _ h => List.mem_cons_of_mem _ (List.mem_append_right _ h)
set_option maxHeartbeats 4000000 in
set_option maxRecDepth 100000 in
theorem c_X7_cut (l : Launch) (D : va_G) (b : Nat → Nat) (c : Nat → ClassId) (S J : St) (hV : V S)  (x : Int32) (y : Int32) : Ci l yX7_cut wsX7_cut rmX7_cut D (tyW c) [.ref (b 0), .int x, .int y] (wM b c S J) (fun r (J1 : St) => mPost (thr (inB x 0 ((S 3 0 : Nat) - 1) && inB y 0 ((S 19 (tn x) : Nat) - 1)) (true) (true)) (nI (S (30 + tn x) (tn y))) r J1) (fun J1 => wM b c (if thr (inB x 0 ((S 3 0 : Nat) - 1) && inB y 0 ((S 19 (tn x) : Nat) - 1)) (true) (true) = 0 then shl (up S 19 (tn x) (S 19 (tn x) - 1)) (tn x) (tn y) (S 19 (tn x) - 1 - tn y) else S) J1) := by
  refine Ci.of (lv0 := [(0, .ref (b 0)), (1, .int x), (2, .int y)]) (by decide +kernel) rfl (Nat.le_of_ble_eq_true rfl) rfl (fun G K hret => ?_)
  have hdk := V_decks hV
  have HM42 : G 0 0 (wM b c S J) [(0, .ref (b 0)), (1, .int x), (2, .int y), (3, .int (nI ((inB x 0 ((S 3 0 : Nat) - 1)).toNat)))] 42 [.int (nI 1), .int (nI 1), .int (nI ((inB x 0 ((S 3 0 : Nat) - 1) && inB y 0 ((S 19 (tn x) : Nat) - 1)).toNat)), .ref (b 0)] := by
    refine r_callVs (rest := []) K (c_X7_goes l D b c S J (inB x 0 ((S 3 0 : Nat) - 1) && inB y 0 ((S 19 (tn x) : Nat) - 1)) true true) 3 gX7_cut_X7_goes rfl (by decide +kernel) rfl (by decide) 0 (wM_g0 _ _ _ _) rfl rfl (Nat.le_of_ble_eq_true rfl) dX7_cut_42 rfl rfl ?_
    refine r_if_neB K 50 dX7_cut_45 (by decide) (fun h1 => ?_) (fun h1 => ?_)
    ·
      have hth := of_decide_eq_true h1
      obtain ⟨hb1, hb2, hb3⟩ := thr_eq0 hth
      obtain ⟨hs2, hs3⟩ := Bool.and_eq_true_iff.mp hb1
      obtain ⟨xk, hxka, hxkb, hexk, hxkc⟩ := inB_ex (by decide) hs2
      subst hexk
      simp only [tn_nI hxkc] at hs3
      obtain ⟨yk, hyka, hykb, heyk, hykc⟩ := inB_ex (by decide) hs3
      subst heyk
      refine r_aload_n K dX7_cut_50 rfl ?_
      have hszx := V_size hV xk
      refine r_get K hin_X7_cut_7 0 (wM_g0 _ _ _ _) rfl 14 (by decide) (List.mem_of_getElem? (i := 2) rfl) rfl dX7_cut_51 ?_
      refine r_bipush K (nI 10) dX7_cut_54 (by decide) ?_
      refine r_iload_n K dX7_cut_56 rfl ?_
      refine r_imul K dX7_cut_57 ?_
      refine r_iload_n K dX7_cut_58 rfl ?_
      refine r_iadd K dX7_cut_59 ?_
      refine r_iald K 11 0 (wM_g11 _ _ _ _) rfl (by omega) (by decide) dX7_cut_60 ?_
      refine r_top (congrArg nI (flat_at _ (by omega))) ?_
      have hf4 := V_card hV xk yk (by omega)
      refine r_istore (lv' := [(0, .ref (b 0)), (1, .int (nI xk)), (2, .int (nI yk)), (3, .int (nI ((inB (nI xk) 0 ((S 3 0 : Nat) - 1)).toNat))), (4, .int (nI (S (30 + xk) yk)))]) K dX7_cut_61 (by decide) rfl ?_
      refine r_aload_n K dX7_cut_63 rfl ?_
      refine r_get K hin_X7_cut_7 0 (wM_g0 _ _ _ _) rfl 13 (by decide) (List.mem_of_getElem? (i := 1) rfl) rfl dX7_cut_64 ?_
      refine r_iload_n K dX7_cut_67 rfl ?_
      refine r_dup2 K dX7_cut_68 rfl rfl ?_
      refine r_iald K 10 0 (wM_g10 _ _ _ _) rfl (by omega) (by decide) dX7_cut_69 ?_
      have hf5 := V_size hV xk
      refine r_iconst K (nI 1) dX7_cut_70 (by decide) ?_
      refine r_isub K dX7_cut_71 (by omega) ?_
      refine r_iast K 10 0 (wM_g10 _ _ _ _) rfl (by omega) (by decide) dX7_cut_72 (wM_s10 _ _ _ _ _ _) ?_
      refine r_iload_n K dX7_cut_73 rfl ?_
      refine r_istore (lv' := [(0, .ref (b 0)), (1, .int (nI xk)), (2, .int (nI yk)), (3, .int (nI ((inB (nI xk) 0 ((S 3 0 : Nat) - 1)).toNat))), (4, .int (nI (S (30 + xk) yk))), (5, .int (nI yk))]) K dX7_cut_74 (by decide) rfl ?_
      have L6 : ∀ (z : Nat) (i g : Nat) (Sx : St), S 19 xk < g + z → (g = yk + i) → (g ≤ S 19 xk - 1) → (Sx = shl (up S 19 xk (S 19 xk - 1)) xk yk i) → (Sx 19 xk = S 19 xk - 1) → G 0 0 (wM b c Sx (up J 0 0 (thr (inB (nI xk) 0 ((S 3 0 : Nat) - 1) && inB (nI yk) 0 ((S 19 (tn (nI xk)) : Nat) - 1)) true true))) [(0, .ref (b 0)), (1, .int (nI xk)), (2, .int (nI yk)), (3, .int (nI ((inB (nI xk) 0 ((S 3 0 : Nat) - 1)).toNat))), (4, .int (nI (S (30 + xk) yk))), (5, .int (nI g))] 76 [] := by
        intro z
        induction z with
        | zero => intro i g Sx hz hg hgn hS hq; exact absurd hz (by omega)
        | succ z ih =>
          intro i g Sx hz hg hgn hS hq
          refine r_iload K dX7_cut_76 rfl ?_
          refine r_aload_n K dX7_cut_78 rfl ?_
          refine r_get K hin_X7_cut_7 0 (wM_g0 _ _ _ _) rfl 13 (by decide) (List.mem_of_getElem? (i := 1) rfl) rfl dX7_cut_79 ?_
          refine r_iload_n K dX7_cut_82 rfl ?_
          refine r_iald K 10 0 (wM_g10 _ _ _ _) rfl (by omega) (by decide) dX7_cut_83 ?_
          refine r_ic_ge K 119 dX7_cut_84 (by decide) (by omega) (by omega) (fun h7 => ?_) (fun h7 => ?_)
          ·
            refine r_iload K dX7_cut_119 rfl ?_
            exact hret 0 0 _ _ _ _ _ dX7_cut_121 ⟨up_same, fun _ => by rw [tn_nI hxkc, tn_nI hykc]⟩ (by rw [if_pos hth, tn_nI hxkc, tn_nI hykc, hS, show i = S 19 xk - 1 - yk by omega]) (Nat.le_of_ble_eq_true rfl) (Nat.le_of_ble_eq_true rfl)
          ·
            refine r_aload_n K dX7_cut_87 rfl ?_
            refine r_get K hin_X7_cut_7 0 (wM_g0 _ _ _ _) rfl 14 (by decide) (List.mem_of_getElem? (i := 2) rfl) rfl dX7_cut_88 ?_
            refine r_bipush K (nI 10) dX7_cut_91 (by decide) ?_
            refine r_iload_n K dX7_cut_93 rfl ?_
            refine r_imul K dX7_cut_94 ?_
            refine r_iload K dX7_cut_95 rfl ?_
            refine r_iadd K dX7_cut_97 ?_
            refine r_aload_n K dX7_cut_98 rfl ?_
            refine r_get K hin_X7_cut_7 0 (wM_g0 _ _ _ _) rfl 14 (by decide) (List.mem_of_getElem? (i := 2) rfl) rfl dX7_cut_99 ?_
            refine r_bipush K (nI 10) dX7_cut_102 (by decide) ?_
            refine r_iload_n K dX7_cut_104 rfl ?_
            refine r_imul K dX7_cut_105 ?_
            refine r_iload K dX7_cut_106 rfl ?_
            refine r_iadd K dX7_cut_108 ?_
            refine r_iconst K (nI 1) dX7_cut_109 (by decide) ?_
            refine r_iadd K dX7_cut_110 ?_
            refine r_top (congrArg nI (Nat.add_assoc _ _ _)) ?_
            refine r_iald K 11 0 (wM_g11 _ _ _ _) rfl (by omega) (by decide) dX7_cut_111 ?_
            refine r_top (congrArg nI (flat_at _ (by omega))) ?_
            refine r_iast K 11 0 (wM_g11 _ _ _ _) rfl (by omega) (by decide) dX7_cut_112 (wM_sflat _ _ _ _ (by omega) _) ?_
            refine r_iinc (lv' := [(0, .ref (b 0)), (1, .int (nI xk)), (2, .int (nI yk)), (3, .int (nI ((inB (nI xk) 0 ((S 3 0 : Nat) - 1)).toNat))), (4, .int (nI (S (30 + xk) yk))), (5, .int (nI (g + 1)))]) K dX7_cut_113 rfl (nI_1 _) (by decide) rfl ?_
            refine r_goto K 76 dX7_cut_116 (by decide) ?_
            exact ih (i + 1) (g + 1) _ (by omega) (by omega) (by omega) (by rw [hS, hg]; rfl) (by rw [up_ne (by omega)]; exact hq)
      exact L6 (S 19 xk + 1) 0 yk _ (by omega) rfl (by omega) rfl (by rw [up_same])
    ·
      refine r_iconst K (nI 0) dX7_cut_48 (by decide) ?_
      exact hret 0 0 _ _ _ _ _ dX7_cut_49 ⟨up_same, fun q => absurd q (of_decide_eq_false h1)⟩ (by rw [if_neg (of_decide_eq_false h1)]) (Nat.le_of_ble_eq_true rfl) (Nat.le_of_ble_eq_true rfl)
  refine r_aload_n K dX7_cut_0 rfl ?_
  refine r_iload_n K dX7_cut_1 rfl ?_
  refine r_callVs (rest := []) K (c_X7_isDeck l D b c S J hV (x)) 1 gX7_cut_X7_isDeck rfl (by decide +kernel) rfl (by decide) 0 (wM_g0 _ _ _ _) rfl rfl (Nat.le_of_ble_eq_true rfl) dX7_cut_2 rfl rfl ?_
  refine r_istore_n (lv' := [(0, .ref (b 0)), (1, .int x), (2, .int y), (3, .int (nI ((inB x 0 ((S 3 0 : Nat) - 1)).toNat)))]) K dX7_cut_5 (by decide) rfl ?_
  refine r_aload_n K dX7_cut_6 rfl ?_
  refine r_iload_n K dX7_cut_7 rfl ?_
  refine r_if_eqB K 39 dX7_cut_8 (by decide) (fun h8 => ?_) (fun h8 => ?_)
  ·
    refine r_iconst K (nI 0) dX7_cut_39 (by decide) ?_
    refine r_iconst K (nI 1) dX7_cut_40 (by decide) ?_
    refine r_iconst K (nI 1) dX7_cut_41 (by decide) ?_
    refine r_st (st' := [.int (nI 1), .int (nI 1), .int (nI ((inB x 0 ((S 3 0 : Nat) - 1) && inB y 0 ((S 19 (tn x) : Nat) - 1)).toNat)), .ref (b 0)]) (by simp [h8]) ?_
    exact HM42
  ·
    obtain ⟨xk, hxka, hxkb, hexk, hxkc⟩ := inB_ex (by decide) h8
    subst hexk
    refine r_iload_n K dX7_cut_11 rfl ?_
    refine r_iconst K (nI 0) dX7_cut_12 (by decide) ?_
    refine r_aload_n K dX7_cut_13 rfl ?_
    have hszx := V_size hV xk
    refine r_get K hin_X7_cut_7 0 (wM_g0 _ _ _ _) rfl 13 (by decide) (List.mem_of_getElem? (i := 1) rfl) rfl dX7_cut_14 ?_
    refine r_iload_n K dX7_cut_17 rfl ?_
    refine r_if_eqB K 25 dX7_cut_18 (by decide) (fun h9 => ?_) (fun h9 => ?_)
    ·
      rw [h8] at h9; exact absurd h9 (by decide)
    ·
      refine r_iload_n K dX7_cut_21 rfl ?_
      refine r_goto K 26 dX7_cut_22 (by decide) ?_
      refine r_iald K 10 0 (wM_g10 _ _ _ _) rfl (by omega) (by decide) dX7_cut_26 ?_
      have hf10 := V_size hV xk
      refine r_iconst K (nI 1) dX7_cut_27 (by decide) ?_
      refine r_isubR K dX7_cut_28 ?_
      refine r_callSs (rest := [.ref (b 0)]) K (c_X7_in l D b c S J (y) (nI 0) ((nI (S 19 xk) - nI 1))) 3 gX7_cut_X7_in rfl (by decide +kernel) rfl (by decide) rfl (Nat.le_of_ble_eq_true rfl) dX7_cut_29 rfl rfl ?_
      refine r_top (congrArg (fun b : Bool => nI b.toNat) (inI_n1 (by omega))) ?_
      refine r_if_eqB K 39 dX7_cut_32 (by decide) (fun h11 => ?_) (fun h11 => ?_)
      ·
        refine r_iconst K (nI 0) dX7_cut_39 (by decide) ?_
        refine r_iconst K (nI 1) dX7_cut_40 (by decide) ?_
        refine r_iconst K (nI 1) dX7_cut_41 (by decide) ?_
        refine r_st (st' := [.int (nI 1), .int (nI 1), .int (nI ((inB (nI xk) 0 ((S 3 0 : Nat) - 1) && inB y 0 ((S 19 (tn (nI xk)) : Nat) - 1)).toNat)), .ref (b 0)]) (by simp [h8, h9, h11, tn_nI hxkc]) ?_
        exact HM42
      ·
        refine r_iconst K (nI 1) dX7_cut_35 (by decide) ?_
        refine r_goto K 40 dX7_cut_36 (by decide) ?_
        refine r_iconst K (nI 1) dX7_cut_40 (by decide) ?_
        refine r_iconst K (nI 1) dX7_cut_41 (by decide) ?_
        refine r_st (st' := [.int (nI 1), .int (nI 1), .int (nI ((inB (nI xk) 0 ((S 3 0 : Nat) - 1) && inB y 0 ((S 19 (tn (nI xk)) : Nat) - 1)).toNat)), .ref (b 0)]) (by simp [h8, h9, h11, tn_nI hxkc]) ?_
        exact HM42

def rmX7_takeBack : Room := { frames := 2, cells := 0, slots := 0, locals := 43 }
theorem hin_X7_takeBack_7 : ∀ w ∈ wsX70, w ∈ wsX7_takeBack := fun _ h => List.mem_cons_of_mem _ (List.mem_append_right _ h)
set_option maxHeartbeats 4000000 in
set_option maxRecDepth 100000 in
theorem c_X7_takeBack (l : Launch) (D : va_G) (b : Nat → Nat) (c : Nat → ClassId) (S J : St) (hV : V S)  (x : Int32) : Ci l yX7_takeBack wsX7_takeBack rmX7_takeBack D (tyW c) [.ref (b 0), .int x] (wM b c S J) (fun r (J1 : St) => mPost (thr (inB x 0 ((S 4 0 : Nat) - 1)) (inB x 0 ((S 4 0 : Nat) - 1) && opB S (tn x)) (true)) (nI (S 21 (tn x))) r J1) (fun J1 => wM b c (if thr (inB x 0 ((S 4 0 : Nat) - 1)) (inB x 0 ((S 4 0 : Nat) - 1) && opB S (tn x)) (true) = 0 then up S 27 (tn x) 1 else S) J1) := by
  refine Ci.of (lv0 := [(0, .ref (b 0)), (1, .int x)]) (by decide +kernel) rfl (Nat.le_of_ble_eq_true rfl) rfl (fun G K hret => ?_)
  have hof := V_offers hV
  have HM26 : G 0 0 (wM b c S J) [(0, .ref (b 0)), (1, .int x), (2, .int (nI ((inB x 0 ((S 4 0 : Nat) - 1)).toNat)))] 26 [.int (nI 1), .int (nI ((inB x 0 ((S 4 0 : Nat) - 1) && opB S (tn x)).toNat)), .int (nI ((inB x 0 ((S 4 0 : Nat) - 1)).toNat)), .ref (b 0)] := by
    refine r_callVs (rest := []) K (c_X7_goes l D b c S J (inB x 0 ((S 4 0 : Nat) - 1)) (inB x 0 ((S 4 0 : Nat) - 1) && opB S (tn x)) true) 3 gX7_takeBack_X7_goes rfl (by decide +kernel) rfl (by decide) 0 (wM_g0 _ _ _ _) rfl rfl (Nat.le_of_ble_eq_true rfl) dX7_takeBack_26 rfl rfl ?_
    refine r_if_neB K 34 dX7_takeBack_29 (by decide) (fun h1 => ?_) (fun h1 => ?_)
    ·
      have hth := of_decide_eq_true h1
      obtain ⟨hb1, hb2, hb3⟩ := thr_eq0 hth
      obtain ⟨xk, hxka, hxkb, hexk, hxkc⟩ := inB_ex (by decide) hb1
      subst hexk
      obtain ⟨hs2, hs3⟩ := Bool.and_eq_true_iff.mp hb2
      simp only [tn_nI hxkc] at hs3
      refine r_aload_n K dX7_takeBack_34 rfl ?_
      refine r_get K hin_X7_takeBack_7 0 (wM_g0 _ _ _ _) rfl 20 (by decide) (List.mem_of_getElem? (i := 1) rfl) rfl dX7_takeBack_35 ?_
      refine r_iload_n K dX7_takeBack_38 rfl ?_
      refine r_iconst K (nI 1) dX7_takeBack_39 (by decide) ?_
      refine r_zast K 16 1 (wM_g16 _ _ _ _) rfl (by omega) (by decide) (by decide) dX7_takeBack_40 (wM_s16 _ _ _ _ _ _) ?_
      refine r_aload_n K dX7_takeBack_41 rfl ?_
      refine r_get K hin_X7_takeBack_7 0 (wM_g0 _ _ _ _) rfl 17 (by decide) (List.mem_of_getElem? (i := 2) rfl) rfl dX7_takeBack_42 ?_
      refine r_iload_n K dX7_takeBack_45 rfl ?_
      refine r_iald K 13 0 (wM_g13 _ _ _ _) rfl (by omega) (by decide) dX7_takeBack_46 ?_
      refine r_top (congrArg nI (congrFun (up_ne (by decide)) _)) ?_
      have hf4 := V_ocard hV xk
      exact hret 0 0 _ _ _ _ _ dX7_takeBack_47 ⟨up_same, fun _ => by rw [tn_nI hxkc]⟩ (by rw [if_pos hth, tn_nI hxkc]) (Nat.le_of_ble_eq_true rfl) (Nat.le_of_ble_eq_true rfl)
    ·
      refine r_iconst K (nI 0) dX7_takeBack_32 (by decide) ?_
      exact hret 0 0 _ _ _ _ _ dX7_takeBack_33 ⟨up_same, fun q => absurd q (of_decide_eq_false h1)⟩ (by rw [if_neg (of_decide_eq_false h1)]) (Nat.le_of_ble_eq_true rfl) (Nat.le_of_ble_eq_true rfl)
  refine r_aload_n K dX7_takeBack_0 rfl ?_
  refine r_iload_n K dX7_takeBack_1 rfl ?_
  refine r_callVs (rest := []) K (c_X7_isOffer l D b c S J hV (x)) 1 gX7_takeBack_X7_isOffer rfl (by decide +kernel) rfl (by decide) 0 (wM_g0 _ _ _ _) rfl rfl (Nat.le_of_ble_eq_true rfl) dX7_takeBack_2 rfl rfl ?_
  refine r_istore_n (lv' := [(0, .ref (b 0)), (1, .int x), (2, .int (nI ((inB x 0 ((S 4 0 : Nat) - 1)).toNat)))]) K dX7_takeBack_5 (by decide) rfl ?_
  refine r_aload_n K dX7_takeBack_6 rfl ?_
  refine r_iload_n K dX7_takeBack_7 rfl ?_
  refine r_iload_n K dX7_takeBack_8 rfl ?_
  refine r_if_eqB K 24 dX7_takeBack_9 (by decide) (fun h5 => ?_) (fun h5 => ?_)
  ·
    refine r_iconst K (nI 0) dX7_takeBack_24 (by decide) ?_
    refine r_iconst K (nI 1) dX7_takeBack_25 (by decide) ?_
    refine r_st (st' := [.int (nI 1), .int (nI ((inB x 0 ((S 4 0 : Nat) - 1) && opB S (tn x)).toNat)), .int (nI ((inB x 0 ((S 4 0 : Nat) - 1)).toNat)), .ref (b 0)]) (by simp [h5]) ?_
    exact HM26
  ·
    obtain ⟨xk, hxka, hxkb, hexk, hxkc⟩ := inB_ex (by decide) h5
    subst hexk
    refine r_aload_n K dX7_takeBack_12 rfl ?_
    refine r_iload_n K dX7_takeBack_13 rfl ?_
    refine r_callVs (rest := [.int (nI ((inB (nI xk) 0 ((S 4 0 : Nat) - 1)).toNat)), .ref (b 0)]) K (c_X7_opens l D b c S J hV xk (by omega)) 1 gX7_takeBack_X7_opens rfl (by decide +kernel) rfl (by decide) 0 (wM_g0 _ _ _ _) rfl rfl (Nat.le_of_ble_eq_true rfl) dX7_takeBack_14 rfl rfl ?_
    refine r_if_eqB K 24 dX7_takeBack_17 (by decide) (fun h6 => ?_) (fun h6 => ?_)
    ·
      refine r_iconst K (nI 0) dX7_takeBack_24 (by decide) ?_
      refine r_iconst K (nI 1) dX7_takeBack_25 (by decide) ?_
      refine r_st (st' := [.int (nI 1), .int (nI ((inB (nI xk) 0 ((S 4 0 : Nat) - 1) && opB S (tn (nI xk))).toNat)), .int (nI ((inB (nI xk) 0 ((S 4 0 : Nat) - 1)).toNat)), .ref (b 0)]) (by simp [h5, h6, tn_nI hxkc]) ?_
      exact HM26
    ·
      refine r_iconst K (nI 1) dX7_takeBack_20 (by decide) ?_
      refine r_goto K 25 dX7_takeBack_21 (by decide) ?_
      refine r_iconst K (nI 1) dX7_takeBack_25 (by decide) ?_
      refine r_st (st' := [.int (nI 1), .int (nI ((inB (nI xk) 0 ((S 4 0 : Nat) - 1) && opB S (tn (nI xk))).toNat)), .int (nI ((inB (nI xk) 0 ((S 4 0 : Nat) - 1)).toNat)), .ref (b 0)]) (by simp [h5, h6, tn_nI hxkc]) ?_
      exact HM26

def rmX7_printOf : Room := { frames := 2, cells := 0, slots := 0, locals := 43 }
theorem hin_X7_printOf_7 : ∀ w ∈ wsX70, w ∈ wsX7_printOf := fun _ h => List.mem_cons_of_mem _ (List.mem_append_right _ h)
set_option maxHeartbeats 4000000 in
set_option maxRecDepth 100000 in
theorem c_X7_printOf (l : Launch) (D : va_G) (b : Nat → Nat) (c : Nat → ClassId) (S J : St) (hV : V S)  (x : Int32) : Ci l yX7_printOf wsX7_printOf rmX7_printOf D (tyW c) [.ref (b 0), .int x] (wM b c S J) (fun r (J1 : St) => mPost (thr (inB x 0 ((S 2 0 : Nat) - 1)) (true) (true)) (nI (100 * S 15 (tn x) + S 16 (tn x))) r J1) (fun J1 => wM b c S J1) := by
  refine Ci.of (lv0 := [(0, .ref (b 0)), (1, .int x)]) (by decide +kernel) rfl (Nat.le_of_ble_eq_true rfl) rfl (fun G K hret => ?_)
  have hcd := V_cards hV
  have HM8 : G 0 0 (wM b c S J) [(0, .ref (b 0)), (1, .int x)] 8 [.int (nI 1), .int (nI 1), .int (nI ((inB x 0 ((S 2 0 : Nat) - 1)).toNat)), .ref (b 0)] := by
    refine r_callVs (rest := []) K (c_X7_goes l D b c S J (inB x 0 ((S 2 0 : Nat) - 1)) true true) 3 gX7_printOf_X7_goes rfl (by decide +kernel) rfl (by decide) 0 (wM_g0 _ _ _ _) rfl rfl (Nat.le_of_ble_eq_true rfl) dX7_printOf_8 rfl rfl ?_
    refine r_if_eqB K 33 dX7_printOf_11 (by decide) (fun h1 => ?_) (fun h1 => ?_)
    ·
      refine r_iconst K (nI 0) dX7_printOf_33 (by decide) ?_
      exact hret 0 0 _ _ _ _ _ dX7_printOf_34 ⟨up_same, fun q => absurd q (of_decide_eq_false h1)⟩ rfl (Nat.le_of_ble_eq_true rfl) (Nat.le_of_ble_eq_true rfl)
    ·
      have hth := of_decide_eq_true h1
      obtain ⟨hb1, hb2, hb3⟩ := thr_eq0 hth
      obtain ⟨xk, hxka, hxkb, hexk, hxkc⟩ := inB_ex (by decide) hb1
      subst hexk
      refine r_bipush K (nI 100) dX7_printOf_14 (by decide) ?_
      refine r_aload_n K dX7_printOf_16 rfl ?_
      refine r_get K hin_X7_printOf_7 0 (wM_g0 _ _ _ _) rfl 8 (by decide) (List.mem_of_getElem? (i := 1) rfl) rfl dX7_printOf_17 ?_
      refine r_iload_n K dX7_printOf_20 rfl ?_
      refine r_iald K 6 0 (wM_g6 _ _ _ _) rfl (by omega) (by decide) dX7_printOf_21 ?_
      have hf2 := V_kind hV xk
      refine r_imul K dX7_printOf_22 ?_
      refine r_aload_n K dX7_printOf_23 rfl ?_
      refine r_get K hin_X7_printOf_7 0 (wM_g0 _ _ _ _) rfl 9 (by decide) (List.mem_of_getElem? (i := 2) rfl) rfl dX7_printOf_24 ?_
      refine r_iload_n K dX7_printOf_27 rfl ?_
      refine r_iald K 7 0 (wM_g7 _ _ _ _) rfl (by omega) (by decide) dX7_printOf_28 ?_
      have hf3 := V_b hV 16 xk
      refine r_iadd K dX7_printOf_29 ?_
      refine r_goto K 34 dX7_printOf_30 (by decide) ?_
      exact hret 0 0 _ _ _ _ _ dX7_printOf_34 ⟨up_same, fun _ => by rw [tn_nI hxkc]⟩ rfl (Nat.le_of_ble_eq_true rfl) (Nat.le_of_ble_eq_true rfl)
  refine r_aload_n K dX7_printOf_0 rfl ?_
  refine r_aload_n K dX7_printOf_1 rfl ?_
  refine r_iload_n K dX7_printOf_2 rfl ?_
  refine r_callVs (rest := [.ref (b 0)]) K (c_X7_isCard l D b c S J hV (x)) 1 gX7_printOf_X7_isCard rfl (by decide +kernel) rfl (by decide) 0 (wM_g0 _ _ _ _) rfl rfl (Nat.le_of_ble_eq_true rfl) dX7_printOf_3 rfl rfl ?_
  refine r_iconst K (nI 1) dX7_printOf_6 (by decide) ?_
  refine r_iconst K (nI 1) dX7_printOf_7 (by decide) ?_
  exact HM8

def rmX7_collectorOf : Room := { frames := 2, cells := 0, slots := 0, locals := 43 }
theorem hin_X7_collectorOf_7 : ∀ w ∈ wsX70, w ∈ wsX7_collectorOf := fun _ h => List.mem_cons_of_mem _ (List.mem_append_right _ h)
set_option maxHeartbeats 4000000 in
set_option maxRecDepth 100000 in
theorem c_X7_collectorOf (l : Launch) (D : va_G) (b : Nat → Nat) (c : Nat → ClassId) (S J : St) (hV : V S)  (x : Int32) : Ci l yX7_collectorOf wsX7_collectorOf rmX7_collectorOf D (tyW c) [.ref (b 0), .int x] (wM b c S J) (fun r (J1 : St) => mPost (thr (inB x 0 ((S 2 0 : Nat) - 1)) (true) (true)) (nI (S 17 (tn x))) r J1) (fun J1 => wM b c S J1) := by
  refine Ci.of (lv0 := [(0, .ref (b 0)), (1, .int x)]) (by decide +kernel) rfl (Nat.le_of_ble_eq_true rfl) rfl (fun G K hret => ?_)
  have hcd := V_cards hV
  have HM8 : G 0 0 (wM b c S J) [(0, .ref (b 0)), (1, .int x)] 8 [.int (nI 1), .int (nI 1), .int (nI ((inB x 0 ((S 2 0 : Nat) - 1)).toNat)), .ref (b 0)] := by
    refine r_callVs (rest := []) K (c_X7_goes l D b c S J (inB x 0 ((S 2 0 : Nat) - 1)) true true) 3 gX7_collectorOf_X7_goes rfl (by decide +kernel) rfl (by decide) 0 (wM_g0 _ _ _ _) rfl rfl (Nat.le_of_ble_eq_true rfl) dX7_collectorOf_8 rfl rfl ?_
    refine r_if_eqB K 23 dX7_collectorOf_11 (by decide) (fun h1 => ?_) (fun h1 => ?_)
    ·
      refine r_iconst K (nI 0) dX7_collectorOf_23 (by decide) ?_
      exact hret 0 0 _ _ _ _ _ dX7_collectorOf_24 ⟨up_same, fun q => absurd q (of_decide_eq_false h1)⟩ rfl (Nat.le_of_ble_eq_true rfl) (Nat.le_of_ble_eq_true rfl)
    ·
      have hth := of_decide_eq_true h1
      obtain ⟨hb1, hb2, hb3⟩ := thr_eq0 hth
      obtain ⟨xk, hxka, hxkb, hexk, hxkc⟩ := inB_ex (by decide) hb1
      subst hexk
      refine r_aload_n K dX7_collectorOf_14 rfl ?_
      refine r_get K hin_X7_collectorOf_7 0 (wM_g0 _ _ _ _) rfl 10 (by decide) (List.mem_of_getElem? (i := 1) rfl) rfl dX7_collectorOf_15 ?_
      refine r_iload_n K dX7_collectorOf_18 rfl ?_
      refine r_iald K 8 0 (wM_g8 _ _ _ _) rfl (by omega) (by decide) dX7_collectorOf_19 ?_
      have hf2 := V_b hV 17 xk
      refine r_goto K 24 dX7_collectorOf_20 (by decide) ?_
      exact hret 0 0 _ _ _ _ _ dX7_collectorOf_24 ⟨up_same, fun _ => by rw [tn_nI hxkc]⟩ rfl (Nat.le_of_ble_eq_true rfl) (Nat.le_of_ble_eq_true rfl)
  refine r_aload_n K dX7_collectorOf_0 rfl ?_
  refine r_aload_n K dX7_collectorOf_1 rfl ?_
  refine r_iload_n K dX7_collectorOf_2 rfl ?_
  refine r_callVs (rest := [.ref (b 0)]) K (c_X7_isCard l D b c S J hV (x)) 1 gX7_collectorOf_X7_isCard rfl (by decide +kernel) rfl (by decide) 0 (wM_g0 _ _ _ _) rfl rfl (Nat.le_of_ble_eq_true rfl) dX7_collectorOf_3 rfl rfl ?_
  refine r_iconst K (nI 1) dX7_collectorOf_6 (by decide) ?_
  refine r_iconst K (nI 1) dX7_collectorOf_7 (by decide) ?_
  exact HM8

def rmX7_wins : Room := { frames := 2, cells := 0, slots := 0, locals := 42 }
theorem hin_X7_wins_7 : ∀ w ∈ wsX70, w ∈ wsX7_wins := fun _ h => List.mem_cons_of_mem _ (List.mem_append_right _ h)
set_option maxHeartbeats 4000000 in
set_option maxRecDepth 100000 in
theorem c_X7_wins (l : Launch) (D : va_G) (b : Nat → Nat) (c : Nat → ClassId) (S J : St) (hV : V S)  (x : Int32) : Ci l yX7_wins wsX7_wins rmX7_wins D (tyW c) [.ref (b 0), .int x] (wM b c S J) (fun r (J1 : St) => mPost (thr (inB x 0 15) (true) (true)) (nI (S 14 (tn x))) r J1) (fun J1 => wM b c S J1) := by
  refine Ci.of (lv0 := [(0, .ref (b 0)), (1, .int x)]) (by decide +kernel) rfl (Nat.le_of_ble_eq_true rfl) rfl (fun G K hret => ?_)
  have HM7 : G 0 0 (wM b c S J) [(0, .ref (b 0)), (1, .int x)] 7 [.int (nI 1), .int (nI 1), .int (nI ((inB x 0 15).toNat)), .ref (b 0)] := by
    refine r_callVs (rest := []) K (c_X7_goes l D b c S J (inB x 0 15) true true) 3 gX7_wins_X7_goes rfl (by decide +kernel) rfl (by decide) 0 (wM_g0 _ _ _ _) rfl rfl (Nat.le_of_ble_eq_true rfl) dX7_wins_7 rfl rfl ?_
    refine r_if_eqB K 22 dX7_wins_10 (by decide) (fun h1 => ?_) (fun h1 => ?_)
    ·
      refine r_iconst K (nI 0) dX7_wins_22 (by decide) ?_
      exact hret 0 0 _ _ _ _ _ dX7_wins_23 ⟨up_same, fun q => absurd q (of_decide_eq_false h1)⟩ rfl (Nat.le_of_ble_eq_true rfl) (Nat.le_of_ble_eq_true rfl)
    ·
      have hth := of_decide_eq_true h1
      obtain ⟨hb1, hb2, hb3⟩ := thr_eq0 hth
      obtain ⟨xk, hxka, hxkb, hexk, hxkc⟩ := inB_ex (by decide) hb1
      subst hexk
      refine r_aload_n K dX7_wins_13 rfl ?_
      refine r_get K hin_X7_wins_7 0 (wM_g0 _ _ _ _) rfl 4 (by decide) (List.mem_of_getElem? (i := 1) rfl) rfl dX7_wins_14 ?_
      refine r_iload_n K dX7_wins_17 rfl ?_
      refine r_iald K 5 0 (wM_g5 _ _ _ _) rfl (by omega) (by decide) dX7_wins_18 ?_
      have hf2 := V_b hV 14 xk
      refine r_goto K 23 dX7_wins_19 (by decide) ?_
      exact hret 0 0 _ _ _ _ _ dX7_wins_23 ⟨up_same, fun _ => by rw [tn_nI hxkc]⟩ rfl (Nat.le_of_ble_eq_true rfl) (Nat.le_of_ble_eq_true rfl)
  refine r_aload_n K dX7_wins_0 rfl ?_
  refine r_iload_n K dX7_wins_1 rfl ?_
  refine r_callSs (rest := [.ref (b 0)]) K (c_X7_isKind l D b c S J (x)) 1 gX7_wins_X7_isKind rfl (by decide +kernel) rfl (by decide) rfl (Nat.le_of_ble_eq_true rfl) dX7_wins_2 rfl rfl ?_
  refine r_iconst K (nI 1) dX7_wins_5 (by decide) ?_
  refine r_iconst K (nI 1) dX7_wins_6 (by decide) ?_
  exact HM7

def rmX7_price : Room := { frames := 2, cells := 0, slots := 0, locals := 42 }
theorem hin_X7_price_7 : ∀ w ∈ wsX70, w ∈ wsX7_price := fun _ h => List.mem_cons_of_mem _ (List.mem_append_right _ h)
set_option maxHeartbeats 4000000 in
set_option maxRecDepth 100000 in
theorem c_X7_price (l : Launch) (D : va_G) (b : Nat → Nat) (c : Nat → ClassId) (S J : St) (hV : V S)  (x : Int32) : Ci l yX7_price wsX7_price rmX7_price D (tyW c) [.ref (b 0), .int x] (wM b c S J) (fun r (J1 : St) => mPost (thr (inB x 0 15) (true) (true)) (nI (prc S (tn x))) r J1) (fun J1 => wM b c S J1) := by
  refine Ci.of (lv0 := [(0, .ref (b 0)), (1, .int x)]) (by decide +kernel) rfl (Nat.le_of_ble_eq_true rfl) rfl (fun G K hret => ?_)
  have HM7 : G 0 0 (wM b c S J) [(0, .ref (b 0)), (1, .int x)] 7 [.int (nI 1), .int (nI 1), .int (nI ((inB x 0 15).toNat)), .ref (b 0)] := by
    refine r_callVs (rest := []) K (c_X7_goes l D b c S J (inB x 0 15) true true) 3 gX7_price_X7_goes rfl (by decide +kernel) rfl (by decide) 0 (wM_g0 _ _ _ _) rfl rfl (Nat.le_of_ble_eq_true rfl) dX7_price_7 rfl rfl ?_
    refine r_if_eqB K 43 dX7_price_10 (by decide) (fun h1 => ?_) (fun h1 => ?_)
    ·
      refine r_iconst K (nI 0) dX7_price_43 (by decide) ?_
      exact hret 0 0 _ _ _ _ _ dX7_price_44 ⟨up_same, fun q => absurd q (of_decide_eq_false h1)⟩ rfl (Nat.le_of_ble_eq_true rfl) (Nat.le_of_ble_eq_true rfl)
    ·
      have hth := of_decide_eq_true h1
      obtain ⟨hb1, hb2, hb3⟩ := thr_eq0 hth
      obtain ⟨xk, hxka, hxkb, hexk, hxkc⟩ := inB_ex (by decide) hb1
      subst hexk
      refine r_aload_n K dX7_price_13 rfl ?_
      refine r_get K hin_X7_price_7 0 (wM_g0 _ _ _ _) rfl 3 (by decide) (List.mem_of_getElem? (i := 1) rfl) rfl dX7_price_14 ?_
      refine r_iload_n K dX7_price_17 rfl ?_
      refine r_iald K 4 0 (wM_g4 _ _ _ _) rfl (by omega) (by decide) dX7_price_18 ?_
      have hf2 := V_b hV 13 xk
      refine r_if_le K 43 dX7_price_19 (by decide) (by omega) (fun h3 => ?_) (fun h3 => ?_)
      ·
        refine r_iconst K (nI 0) dX7_price_43 (by decide) ?_
        exact hret 0 0 _ _ _ _ _ dX7_price_44 ⟨up_same, fun _ => by rw [tn_nI hxkc]; unfold prc; rw [if_pos (by omega)]⟩ rfl (Nat.le_of_ble_eq_true rfl) (Nat.le_of_ble_eq_true rfl)
      ·
        refine r_bipush K (nI 100) dX7_price_22 (by decide) ?_
        refine r_aload_n K dX7_price_24 rfl ?_
        refine r_get K hin_X7_price_7 0 (wM_g0 _ _ _ _) rfl 4 (by decide) (List.mem_of_getElem? (i := 2) rfl) rfl dX7_price_25 ?_
        refine r_iload_n K dX7_price_28 rfl ?_
        refine r_iald K 5 0 (wM_g5 _ _ _ _) rfl (by omega) (by decide) dX7_price_29 ?_
        have hf4 := V_b hV 14 xk
        refine r_iconst K (nI 1) dX7_price_30 (by decide) ?_
        refine r_iadd K dX7_price_31 ?_
        refine r_imul K dX7_price_32 ?_
        refine r_aload_n K dX7_price_33 rfl ?_
        refine r_get K hin_X7_price_7 0 (wM_g0 _ _ _ _) rfl 3 (by decide) (List.mem_of_getElem? (i := 1) rfl) rfl dX7_price_34 ?_
        refine r_iload_n K dX7_price_37 rfl ?_
        refine r_iald K 4 0 (wM_g4 _ _ _ _) rfl (by omega) (by decide) dX7_price_38 ?_
        refine r_idiv K dX7_price_39 (by omega) (by omega) (by omega) ?_
        refine r_goto K 44 dX7_price_40 (by decide) ?_
        exact hret 0 0 _ _ _ _ _ dX7_price_44 ⟨up_same, fun _ => by rw [tn_nI hxkc]; unfold prc; rw [if_neg (by omega), Nat.mul_comm]⟩ rfl (Nat.le_of_ble_eq_true rfl) (Nat.le_of_ble_eq_true rfl)
  refine r_aload_n K dX7_price_0 rfl ?_
  refine r_iload_n K dX7_price_1 rfl ?_
  refine r_callSs (rest := [.ref (b 0)]) K (c_X7_isKind l D b c S J (x)) 1 gX7_price_X7_isKind rfl (by decide +kernel) rfl (by decide) rfl (Nat.le_of_ble_eq_true rfl) dX7_price_2 rfl rfl ?_
  refine r_iconst K (nI 1) dX7_price_5 (by decide) ?_
  refine r_iconst K (nI 1) dX7_price_6 (by decide) ?_
  exact HM7

def rmX7_isAllowed : Room := { frames := 3, cells := 0, slots := 0, locals := 70 }
theorem hin_X7_isAllowed_7 : ∀ w ∈ wsX70, w ∈ wsX7_isAllowed := fun _ h => List.mem_cons_of_mem _ (List.mem_append_right _ h)
set_option maxHeartbeats 4000000 in
set_option maxRecDepth 100000 in
theorem c_X7_isAllowed (l : Launch) (D : va_G) (b : Nat → Nat) (c : Nat → ClassId) (S J : St) (hV : V S)  (x : Int32) : Ci l yX7_isAllowed wsX7_isAllowed rmX7_isAllowed D (tyW c) [.ref (b 0), .int x] (wM b c S J) (fun r (J1 : St) => mPost (thr (inB x 0 ((S 3 0 : Nat) - 1)) (true) (true)) (nI (alw S (tn x)).toNat) r J1) (fun J1 => wM b c S J1) := by
  refine Ci.ofZ (lv0 := [(0, .ref (b 0)), (1, .int x)]) (by decide +kernel) rfl (Nat.le_of_ble_eq_true rfl) rfl (fun G K hret => ?_)
  have hdk := V_decks hV
  have HM8 : G 0 0 (wM b c S J) [(0, .ref (b 0)), (1, .int x)] 8 [.int (nI 1), .int (nI 1), .int (nI ((inB x 0 ((S 3 0 : Nat) - 1)).toNat)), .ref (b 0)] := by
    refine r_callVs (rest := []) K (c_X7_goes l D b c S J (inB x 0 ((S 3 0 : Nat) - 1)) true true) 3 gX7_isAllowed_X7_goes rfl (by decide +kernel) rfl (by decide) 0 (wM_g0 _ _ _ _) rfl rfl (Nat.le_of_ble_eq_true rfl) dX7_isAllowed_8 rfl rfl ?_
    refine r_if_eqB K 26 dX7_isAllowed_11 (by decide) (fun h1 => ?_) (fun h1 => ?_)
    ·
      refine r_iconst K (nI 0) dX7_isAllowed_26 (by decide) ?_
      exact hret 0 0 _ _ _ _ _ dX7_isAllowed_27 (by decide) ⟨up_same, fun q => absurd q (of_decide_eq_false h1)⟩ rfl (Nat.le_of_ble_eq_true rfl) (Nat.le_of_ble_eq_true rfl)
    ·
      have hth := of_decide_eq_true h1
      obtain ⟨hb1, hb2, hb3⟩ := thr_eq0 hth
      obtain ⟨xk, hxka, hxkb, hexk, hxkc⟩ := inB_ex (by decide) hb1
      subst hexk
      refine r_aload_n K dX7_isAllowed_14 rfl ?_
      refine r_iload_n K dX7_isAllowed_15 rfl ?_
      refine r_callVs (rest := []) K (c_X7_allows l D b c S (up J 0 0 (thr (inB (nI xk) 0 ((S 3 0 : Nat) - 1)) true true)) hV xk (by omega)) 1 gX7_isAllowed_X7_allows rfl (by decide +kernel) rfl (by decide) 0 (wM_g0 _ _ _ _) rfl rfl (Nat.le_of_ble_eq_true rfl) dX7_isAllowed_16 rfl rfl ?_
      refine r_if_eqB K 26 dX7_isAllowed_19 (by decide) (fun h2 => ?_) (fun h2 => ?_)
      ·
        refine r_iconst K (nI 0) dX7_isAllowed_26 (by decide) ?_
        exact hret 0 0 _ _ _ _ _ dX7_isAllowed_27 (by decide) ⟨up_same, fun _ => by rw [tn_nI hxkc, h2]; rfl⟩ rfl (Nat.le_of_ble_eq_true rfl) (Nat.le_of_ble_eq_true rfl)
      ·
        refine r_iconst K (nI 1) dX7_isAllowed_22 (by decide) ?_
        refine r_goto K 27 dX7_isAllowed_23 (by decide) ?_
        exact hret 0 0 _ _ _ _ _ dX7_isAllowed_27 (by decide) ⟨up_same, fun _ => by rw [tn_nI hxkc, h2]; rfl⟩ rfl (Nat.le_of_ble_eq_true rfl) (Nat.le_of_ble_eq_true rfl)
  refine r_aload_n K dX7_isAllowed_0 rfl ?_
  refine r_aload_n K dX7_isAllowed_1 rfl ?_
  refine r_iload_n K dX7_isAllowed_2 rfl ?_
  refine r_callVs (rest := [.ref (b 0)]) K (c_X7_isDeck l D b c S J hV (x)) 1 gX7_isAllowed_X7_isDeck rfl (by decide +kernel) rfl (by decide) 0 (wM_g0 _ _ _ _) rfl rfl (Nat.le_of_ble_eq_true rfl) dX7_isAllowed_3 rfl rfl ?_
  refine r_iconst K (nI 1) dX7_isAllowed_6 (by decide) ?_
  refine r_iconst K (nI 1) dX7_isAllowed_7 (by decide) ?_
  exact HM8

def rmX7_isOpen : Room := { frames := 2, cells := 0, slots := 0, locals := 43 }
theorem hin_X7_isOpen_7 : ∀ w ∈ wsX70, w ∈ wsX7_isOpen := fun _ h => List.mem_cons_of_mem _ (List.mem_append_right _ h)
set_option maxHeartbeats 4000000 in
set_option maxRecDepth 100000 in
theorem c_X7_isOpen (l : Launch) (D : va_G) (b : Nat → Nat) (c : Nat → ClassId) (S J : St) (hV : V S)  (x : Int32) : Ci l yX7_isOpen wsX7_isOpen rmX7_isOpen D (tyW c) [.ref (b 0), .int x] (wM b c S J) (fun r (J1 : St) => mPost (thr (inB x 0 ((S 4 0 : Nat) - 1)) (true) (true)) (nI (opB S (tn x)).toNat) r J1) (fun J1 => wM b c S J1) := by
  refine Ci.ofZ (lv0 := [(0, .ref (b 0)), (1, .int x)]) (by decide +kernel) rfl (Nat.le_of_ble_eq_true rfl) rfl (fun G K hret => ?_)
  have hof := V_offers hV
  have HM8 : G 0 0 (wM b c S J) [(0, .ref (b 0)), (1, .int x)] 8 [.int (nI 1), .int (nI 1), .int (nI ((inB x 0 ((S 4 0 : Nat) - 1)).toNat)), .ref (b 0)] := by
    refine r_callVs (rest := []) K (c_X7_goes l D b c S J (inB x 0 ((S 4 0 : Nat) - 1)) true true) 3 gX7_isOpen_X7_goes rfl (by decide +kernel) rfl (by decide) 0 (wM_g0 _ _ _ _) rfl rfl (Nat.le_of_ble_eq_true rfl) dX7_isOpen_8 rfl rfl ?_
    refine r_if_eqB K 26 dX7_isOpen_11 (by decide) (fun h1 => ?_) (fun h1 => ?_)
    ·
      refine r_iconst K (nI 0) dX7_isOpen_26 (by decide) ?_
      exact hret 0 0 _ _ _ _ _ dX7_isOpen_27 (by decide) ⟨up_same, fun q => absurd q (of_decide_eq_false h1)⟩ rfl (Nat.le_of_ble_eq_true rfl) (Nat.le_of_ble_eq_true rfl)
    ·
      have hth := of_decide_eq_true h1
      obtain ⟨hb1, hb2, hb3⟩ := thr_eq0 hth
      obtain ⟨xk, hxka, hxkb, hexk, hxkc⟩ := inB_ex (by decide) hb1
      subst hexk
      refine r_aload_n K dX7_isOpen_14 rfl ?_
      refine r_iload_n K dX7_isOpen_15 rfl ?_
      refine r_callVs (rest := []) K (c_X7_opens l D b c S (up J 0 0 (thr (inB (nI xk) 0 ((S 4 0 : Nat) - 1)) true true)) hV xk (by omega)) 1 gX7_isOpen_X7_opens rfl (by decide +kernel) rfl (by decide) 0 (wM_g0 _ _ _ _) rfl rfl (Nat.le_of_ble_eq_true rfl) dX7_isOpen_16 rfl rfl ?_
      refine r_if_eqB K 26 dX7_isOpen_19 (by decide) (fun h2 => ?_) (fun h2 => ?_)
      ·
        refine r_iconst K (nI 0) dX7_isOpen_26 (by decide) ?_
        exact hret 0 0 _ _ _ _ _ dX7_isOpen_27 (by decide) ⟨up_same, fun _ => by rw [tn_nI hxkc, h2]; rfl⟩ rfl (Nat.le_of_ble_eq_true rfl) (Nat.le_of_ble_eq_true rfl)
      ·
        refine r_iconst K (nI 1) dX7_isOpen_22 (by decide) ?_
        refine r_goto K 27 dX7_isOpen_23 (by decide) ?_
        exact hret 0 0 _ _ _ _ _ dX7_isOpen_27 (by decide) ⟨up_same, fun _ => by rw [tn_nI hxkc, h2]; rfl⟩ rfl (Nat.le_of_ble_eq_true rfl) (Nat.le_of_ble_eq_true rfl)
  refine r_aload_n K dX7_isOpen_0 rfl ?_
  refine r_aload_n K dX7_isOpen_1 rfl ?_
  refine r_iload_n K dX7_isOpen_2 rfl ?_
  refine r_callVs (rest := [.ref (b 0)]) K (c_X7_isOffer l D b c S J hV (x)) 1 gX7_isOpen_X7_isOffer rfl (by decide +kernel) rfl (by decide) 0 (wM_g0 _ _ _ _) rfl rfl (Nat.le_of_ble_eq_true rfl) dX7_isOpen_3 rfl rfl ?_
  refine r_iconst K (nI 1) dX7_isOpen_6 (by decide) ?_
  refine r_iconst K (nI 1) dX7_isOpen_7 (by decide) ?_
  exact HM8

def rmX7_cards : Room := { frames := 1, cells := 0, slots := 0, locals := 21 }
theorem hin_X7_cards_7 : ∀ w ∈ wsX70, w ∈ wsX7_cards := fun _ h => List.mem_cons_of_mem _ (List.mem_append_right _ h)
set_option maxHeartbeats 4000000 in
set_option maxRecDepth 100000 in
theorem c_X7_cards (l : Launch) (D : va_G) (b : Nat → Nat) (c : Nat → ClassId) (S J : St) (hV : V S) : Cs l yX7_cards wsX7_cards rmX7_cards D (tyW c) [.ref (b 0)] (wM b c S J) (nI (S 2 0)) (wM b c S (up J 0 0 0)) := by
  refine Ci.of (lv0 := [(0, .ref (b 0))]) (by decide +kernel) rfl (Nat.le_of_ble_eq_true rfl) rfl (fun G K hret => ?_)
  refine r_aload_n K dX7_cards_0 rfl ?_
  refine r_aload_n K dX7_cards_1 rfl ?_
  refine r_get K hin_X7_cards_7 0 (wM_g0 _ _ _ _) rfl 7 (by decide) (List.mem_of_getElem? (i := 1) rfl) rfl dX7_cards_2 ?_
  have hf1 := V_b hV 2 0
  refine r_callVs (rest := []) K (c_X7_told l D b c S J (nI (S 2 0))) 1 gX7_cards_X7_told rfl (by decide +kernel) rfl (by decide) 0 (wM_g0 _ _ _ _) rfl rfl (Nat.le_of_ble_eq_true rfl) dX7_cards_5 rfl rfl ?_
  exact hret 0 0 _ _ _ (nI (S 2 0)) () dX7_cards_8 rfl rfl (Nat.le_of_ble_eq_true rfl) (Nat.le_of_ble_eq_true rfl)
