def rmX6_print : Room := { frames := 7, cells := 3, slots := 18, locals := 110 }
theorem hin_X6_print_6 : ∀ w ∈ wsX60, w ∈ wsX6_print := fun _ h => List.mem_cons_of_mem _ (List.mem_append_left _ (List.mem_append_left _ (List.mem_append_left _ (List.mem_append_left _ (List.mem_append_right _ h)))))
theorem hin_X6_print_4 : ∀ w ∈ wsX40, w ∈ wsX6_print := fun _ h => List.mem_cons_of_mem _ (List.mem_append_left _ (List.mem_append_left _ (List.mem_append_left _ (List.mem_append_right _ h))))
theorem hin_X6_print_1 : ∀ w ∈ wsX10, w ∈ wsX6_print := fun _ h => List.mem_cons_of_mem _ (List.mem_append_left _ (List.mem_append_left _ (List.mem_append_right _ h)))
theorem hat_X6_print_ISE : ∀ w ∈ (vx_atS RX6 94 eISE nmRE).filter goodWord, w ∈ wsX6_print := fun _ h => List.mem_cons_of_mem _ (List.mem_append_left _ (List.mem_append_right _ h))
set_option maxHeartbeats 4000000 in
set_option maxRecDepth 100000 in
theorem c_X6_print (l : Launch) (D : va_G) (a : Nat → Nat) (c : Nat → ClassId) (S J : St) (hl0 : l.stackTraces = false) (hV : V S) (h13 : ∀ k, S 13 k < 999999) (x : Int32) (y : Int32) : Xi l yX6_print wsX6_print rmX6_print D (tyW c) [.ref (a 0), .int x, .int y] (wC a c S J) (pxN eIOB eISE eISE (thr (inB x 0 15 && inB y 0 5) (decide (S 2 0 < 80)) (true))) (fun r (_ : Unit) => thr (inB x 0 15 && inB y 0 5) (decide (S 2 0 < 80)) (true) = 0 ∧ r = nI (S 2 0)) (fun _ : Unit => wC a c (up (up (up (up (up S 13 (tn x) (S 13 (tn x) + 1)) 15 (S 2 0) (tn x)) 16 (S 2 0) (S 13 (tn x) + 1)) 17 (S 2 0) (tn y)) 2 0 (S 2 0 + 1)) J) := by
  refine Xi.of (lv0 := [(0, .ref (a 0)), (1, .int x), (2, .int y)]) hl0 (by decide +kernel) rfl (Nat.le_of_ble_eq_true rfl) rfl (fun G KX hret => ?_)
  have K := KX.ok
  have hcd := V_cards hV
  refine r_iload_n K dX6_print_0 rfl ?_
  refine r_xcallSv (rest := []) KX (c_X6_needKind l D a c S J hl0 x) (fun E h => px_1 (and_f1 h.1) h.2) 1 gX6_print_X6_needKind rfl (by decide +kernel) rfl (by decide) (by decide) rfl (Nat.le_of_ble_eq_true rfl) dX6_print_1 (fun _ hc1 => ?_)
  have h_x := hc1
  obtain ⟨xk, hxka, hxkb, rfl, hxkc⟩ := inB_ex (by decide) hc1
  refine r_iload_n K dX6_print_4 rfl ?_
  refine r_xcallSv (rest := []) KX (c_X6_needCollector l D a c S J hl0 y) (fun E h => px_1 (and_f2 h.1) h.2) 1 gX6_print_X6_needCollector rfl (by decide +kernel) rfl (by decide) (by decide) rfl (Nat.le_of_ble_eq_true rfl) dX6_print_5 (fun _ hc2 => ?_)
  have h_y := hc2
  obtain ⟨yk, hyka, hykb, rfl, hykc⟩ := inB_ex (by decide) hc2
  refine r_aload_n K dX6_print_8 rfl ?_
  refine r_get K hin_X6_print_6 0 (wC_g0 _ _ _ _) rfl 1 (by decide) (List.mem_of_getElem? (i := 3) rfl) rfl dX6_print_9 ?_
  refine r_get K hin_X6_print_4 2 (wC_g2 _ _ _ _) rfl 3 (by decide) (List.mem_of_getElem? (i := 4) rfl) rfl dX6_print_12 ?_
  have hf3 := V_b hV 2 0
  refine r_bipush K (nI 80) dX6_print_15 (by decide) ?_
  refine r_ic_lt K 30 dX6_print_17 (by decide) (by omega) (by decide) (fun h4 => ?_) (fun h4 => ?_)
  ·
    refine r_aload_n K dX6_print_30 rfl ?_
    refine r_get K hin_X6_print_6 0 (wC_g0 _ _ _ _) rfl 0 (by decide) (List.mem_of_getElem? (i := 5) rfl) rfl dX6_print_31 ?_
    refine r_get K hin_X6_print_1 1 (wC_g1 _ _ _ _) rfl 3 (by decide) (List.mem_of_getElem? (i := 6) rfl) rfl dX6_print_34 ?_
    refine r_iload_n K dX6_print_37 rfl ?_
    refine r_dup2 K dX6_print_38 rfl rfl ?_
    refine r_iald K 13 0 (wC_g13 _ _ _ _) rfl (by omega) (by decide) dX6_print_39 ?_
    have hf5 := V_b hV 13 xk
    refine r_iconst K (nI 1) dX6_print_40 (by decide) ?_
    refine r_iadd K dX6_print_41 ?_
    refine r_iast K 13 0 (wC_g13 _ _ _ _) rfl (by omega) (by decide) dX6_print_42 (wC_s13 _ _ _ _ _ _) ?_
    refine r_aload_n K dX6_print_43 rfl ?_
    refine r_get K hin_X6_print_6 0 (wC_g0 _ _ _ _) rfl 1 (by decide) (List.mem_of_getElem? (i := 3) rfl) rfl dX6_print_44 ?_
    refine r_iload_n K dX6_print_47 rfl ?_
    refine r_aload_n K dX6_print_48 rfl ?_
    refine r_get K hin_X6_print_6 0 (wC_g0 _ _ _ _) rfl 0 (by decide) (List.mem_of_getElem? (i := 5) rfl) rfl dX6_print_49 ?_
    refine r_get K hin_X6_print_1 1 (wC_g1 _ _ _ _) rfl 3 (by decide) (List.mem_of_getElem? (i := 6) rfl) rfl dX6_print_52 ?_
    refine r_iload_n K dX6_print_55 rfl ?_
    refine r_iald K 13 0 (wC_g13 _ _ _ _) rfl (by omega) (by decide) dX6_print_56 ?_
    refine r_top (congrArg nI up_same) ?_
    refine r_iload_n K dX6_print_57 rfl ?_
    refine r_callVs (rest := []) K (c_X4_append l D a c (up S 13 xk (S 13 xk + 1)) J (V_up13 hV (show S 13 xk + 1 < 1000000 by have := h13 xk; omega)) xk (S 13 xk + 1) yk (by rw [up_ne (by decide)]; omega)) 3 gX6_print_X4_append rfl (by decide +kernel) rfl (by decide) 2 (wC_g2 _ _ _ _) rfl rfl (Nat.le_of_ble_eq_true rfl) dX6_print_58 rfl rfl ?_
    exact hret 2 12 _ _ _ _ () dX6_print_61 ⟨thr_0 (and_t h_x h_y) (decide_eq_true (by omega)) rfl, rfl⟩ (by rw [tn_nI hxkc, tn_nI hykc]; rfl) (Nat.le_of_ble_eq_true rfl) (Nat.le_of_ble_eq_true rfl)
  ·
    exact r_throw (cls := eISE) (text := "all cards were printed") KX (by decide +kernel) (List.mem_of_getElem? (i := 1) rfl) (List.mem_of_getElem? (i := 2) rfl) (by decide +kernel) hat_X6_print_ISE hng_ISE hot_ISE dX6_print_20 dX6_print_23 dX6_print_24 dX6_print_26 dX6_print_29 (by decide) (px_2 (and_t h_x h_y) (decide_eq_false (by omega)) rfl)

def rmX6_deck : Room := { frames := 7, cells := 2, slots := 12, locals := 110 }
theorem hin_X6_deck_6 : ∀ w ∈ wsX60, w ∈ wsX6_deck := fun _ h => List.mem_cons_of_mem _ (List.mem_append_left _ (List.mem_append_left _ (List.mem_append_left _ (List.mem_append_right _ h))))
theorem hin_X6_deck_0 : ∀ w ∈ wsX00, w ∈ wsX6_deck := fun _ h => List.mem_cons_of_mem _ (List.mem_append_left _ (List.mem_append_left _ (List.mem_append_right _ h)))
theorem hat_X6_deck_ISE : ∀ w ∈ (vx_atS RX6 94 eISE nmRE).filter goodWord, w ∈ wsX6_deck := fun _ h => List.mem_cons_of_mem _ (List.mem_append_left _ (List.mem_append_right _ h))
set_option maxHeartbeats 4000000 in
set_option maxRecDepth 100000 in
theorem c_X6_deck (l : Launch) (D : va_G) (a : Nat → Nat) (c : Nat → ClassId) (S J : St) (hl0 : l.stackTraces = false) (hV : V S)  (x : Int32) : Xi l yX6_deck wsX6_deck rmX6_deck D (tyW c) [.ref (a 0), .int x] (wC a c S J) (pxN eIOB eISE eISE (thr (inB x 0 5) (decide (S 3 0 < 12)) (true))) (fun r (_ : Unit) => thr (inB x 0 5) (decide (S 3 0 < 12)) (true) = 0 ∧ r = nI (S 3 0)) (fun _ : Unit => wC a c (up (up S 18 (S 3 0) (tn x)) 3 0 (S 3 0 + 1)) J) := by
  refine Xi.of (lv0 := [(0, .ref (a 0)), (1, .int x)]) hl0 (by decide +kernel) rfl (Nat.le_of_ble_eq_true rfl) rfl (fun G KX hret => ?_)
  have K := KX.ok
  refine r_iload_n K dX6_deck_0 rfl ?_
  refine r_xcallSv (rest := []) KX (c_X6_needCollector l D a c S J hl0 x) (fun E h => px_1 h.1 h.2) 1 gX6_deck_X6_needCollector rfl (by decide +kernel) rfl (by decide) (by decide) rfl (Nat.le_of_ble_eq_true rfl) dX6_deck_1 (fun _ hc1 => ?_)
  have h_x := hc1
  obtain ⟨xk, hxka, hxkb, rfl, hxkc⟩ := inB_ex (by decide) hc1
  refine r_aload_n K dX6_deck_4 rfl ?_
  refine r_get K hin_X6_deck_6 0 (wC_g0 _ _ _ _) rfl 2 (by decide) (List.mem_of_getElem? (i := 3) rfl) rfl dX6_deck_5 ?_
  refine r_get K hin_X6_deck_0 3 (wC_g3 _ _ _ _) rfl 3 (by decide) (List.mem_of_getElem? (i := 4) rfl) rfl dX6_deck_8 ?_
  have hf2 := V_b hV 3 0
  refine r_bipush K (nI 12) dX6_deck_11 (by decide) ?_
  refine r_ic_lt K 26 dX6_deck_13 (by decide) (by omega) (by decide) (fun h3 => ?_) (fun h3 => ?_)
  ·
    refine r_aload_n K dX6_deck_26 rfl ?_
    refine r_get K hin_X6_deck_6 0 (wC_g0 _ _ _ _) rfl 2 (by decide) (List.mem_of_getElem? (i := 3) rfl) rfl dX6_deck_27 ?_
    refine r_iload_n K dX6_deck_30 rfl ?_
    refine r_callVs (rest := []) K (c_X0_append l D a c S J hV xk (by omega)) 1 gX6_deck_X0_append rfl (by decide +kernel) rfl (by decide) 3 (wC_g3 _ _ _ _) rfl rfl (Nat.le_of_ble_eq_true rfl) dX6_deck_31 rfl rfl ?_
    exact hret 1 6 _ _ _ _ () dX6_deck_34 ⟨thr_0 h_x (decide_eq_true (by omega)) rfl, rfl⟩ (by rw [tn_nI hxkc]) (Nat.le_of_ble_eq_true rfl) (Nat.le_of_ble_eq_true rfl)
  ·
    exact r_throw (cls := eISE) (text := "all decks were made") KX (by decide +kernel) (List.mem_of_getElem? (i := 1) rfl) (List.mem_of_getElem? (i := 2) rfl) (by decide +kernel) hat_X6_deck_ISE hng_ISE hot_ISE dX6_deck_16 dX6_deck_19 dX6_deck_20 dX6_deck_22 dX6_deck_25 (by decide) (px_2 h_x (decide_eq_false (by omega)) rfl)

def rmX6_add : Room := { frames := 7, cells := 3, slots := 18, locals := 111 }
theorem hin_X6_add_6 : ∀ w ∈ wsX60, w ∈ wsX6_add := fun _ h => List.mem_cons_of_mem _ (List.mem_append_left _ (List.mem_append_left _ (List.mem_append_left _ (List.mem_append_left _ (List.mem_append_left _ (List.mem_append_right _ h))))))
theorem hin_X6_add_4 : ∀ w ∈ wsX40, w ∈ wsX6_add := fun _ h => List.mem_cons_of_mem _ (List.mem_append_left _ (List.mem_append_left _ (List.mem_append_left _ (List.mem_append_left _ (List.mem_append_right _ h)))))
theorem hin_X6_add_0 : ∀ w ∈ wsX00, w ∈ wsX6_add := fun _ h => List.mem_cons_of_mem _ (List.mem_append_left _ (List.mem_append_left _ (List.mem_append_left _ (List.mem_append_right _ h))))
theorem hat_X6_add_ISE : ∀ w ∈ (vx_atS RX6 94 eISE nmRE).filter goodWord, w ∈ wsX6_add := fun _ h => List.mem_cons_of_mem _ (List.mem_append_left _ (List.mem_append_right _ h))
theorem hat_X6_add_IAE : ∀ w ∈ (vx_atS RX6 126 eIAE nmRE).filter goodWord, w ∈ wsX6_add := fun _ h => List.mem_cons_of_mem _ (List.mem_append_left _ (List.mem_append_left _ (List.mem_append_right _ h)))
set_option maxHeartbeats 4000000 in
set_option maxRecDepth 100000 in
theorem c_X6_add (l : Launch) (D : va_G) (a : Nat → Nat) (c : Nat → ClassId) (S J : St) (hl0 : l.stackTraces = false) (hV : V S)  (x : Int32) (y : Int32) : Xi l yX6_add wsX6_add rmX6_add D (tyW c) [.ref (a 0), .int x, .int y] (wC a c S J) (pxN eIOB eIAE eISE (thr (inB x 0 ((S 3 0 : Nat) - 1) && inB y 0 ((S 2 0 : Nat) - 1)) (decide (S 17 (tn y) = S 18 (tn x)) && !holdB S (tn x) (tn y)) (decide (S 19 (tn x) < 10)))) (fun r (_ : Unit) => thr (inB x 0 ((S 3 0 : Nat) - 1) && inB y 0 ((S 2 0 : Nat) - 1)) (decide (S 17 (tn y) = S 18 (tn x)) && !holdB S (tn x) (tn y)) (decide (S 19 (tn x) < 10)) = 0 ∧ r = nI (S 19 (tn x) + 1)) (fun _ : Unit => wC a c (up (up S (30 + tn x) (S 19 (tn x)) (tn y)) 19 (tn x) (S 19 (tn x) + 1)) J) := by
  refine Xi.of (lv0 := [(0, .ref (a 0)), (1, .int x), (2, .int y)]) hl0 (by decide +kernel) rfl (Nat.le_of_ble_eq_true rfl) rfl (fun G KX hret => ?_)
  have K := KX.ok
  have hdk := V_decks hV
  have hcd := V_cards hV
  refine r_aload_n K dX6_add_0 rfl ?_
  refine r_iload_n K dX6_add_1 rfl ?_
  refine r_xcallVv (rest := []) KX (c_X6_needDeck l D a c S J hl0 hV x) (fun E h => px_1 (and_f1 h.1) h.2) 1 gX6_add_X6_needDeck rfl (by decide +kernel) rfl (by decide) (by decide) 0 (wC_g0 _ _ _ _) rfl rfl (Nat.le_of_ble_eq_true rfl) dX6_add_2 (fun _ hc1 => ?_)
  have h_x := hc1
  obtain ⟨xk, hxka, hxkb, rfl, hxkc⟩ := inB_ex (by decide) hc1
  refine r_aload_n K dX6_add_5 rfl ?_
  refine r_iload_n K dX6_add_6 rfl ?_
  refine r_xcallVv (rest := []) KX (c_X6_needCard l D a c S J hl0 hV y) (fun E h => px_1 (and_f2 h.1) h.2) 1 gX6_add_X6_needCard rfl (by decide +kernel) rfl (by decide) (by decide) 0 (wC_g0 _ _ _ _) rfl rfl (Nat.le_of_ble_eq_true rfl) dX6_add_7 (fun _ hc2 => ?_)
  have h_y := hc2
  obtain ⟨yk, hyka, hykb, rfl, hykc⟩ := inB_ex (by decide) hc2
  refine r_aload_n K dX6_add_10 rfl ?_
  refine r_get K hin_X6_add_6 0 (wC_g0 _ _ _ _) rfl 1 (by decide) (List.mem_of_getElem? (i := 5) rfl) rfl dX6_add_11 ?_
  refine r_get K hin_X6_add_4 2 (wC_g2 _ _ _ _) rfl 2 (by decide) (List.mem_of_getElem? (i := 6) rfl) rfl dX6_add_14 ?_
  refine r_iload_n K dX6_add_17 rfl ?_
  refine r_iald K 17 0 (wC_g17 _ _ _ _) rfl (by omega) (by decide) dX6_add_18 ?_
  have hf3 := V_b hV 17 yk
  refine r_aload_n K dX6_add_19 rfl ?_
  refine r_get K hin_X6_add_6 0 (wC_g0 _ _ _ _) rfl 2 (by decide) (List.mem_of_getElem? (i := 7) rfl) rfl dX6_add_20 ?_
  refine r_get K hin_X6_add_0 3 (wC_g3 _ _ _ _) rfl 0 (by decide) (List.mem_of_getElem? (i := 8) rfl) rfl dX6_add_23 ?_
  refine r_iload_n K dX6_add_26 rfl ?_
  refine r_iald K 18 0 (wC_g18 _ _ _ _) rfl (by omega) (by decide) dX6_add_27 ?_
  have hf4 := V_b hV 18 xk
  refine r_ic_eq K 41 dX6_add_28 (by decide) (by omega) (by omega) (fun h5 => ?_) (fun h5 => ?_)
  ·
    refine r_aload_n K dX6_add_41 rfl ?_
    refine r_get K hin_X6_add_6 0 (wC_g0 _ _ _ _) rfl 2 (by decide) (List.mem_of_getElem? (i := 7) rfl) rfl dX6_add_42 ?_
    refine r_iload_n K dX6_add_45 rfl ?_
    refine r_iload_n K dX6_add_46 rfl ?_
    refine r_callVs (rest := []) K (c_X0_holds l D a c S J hV xk yk (by omega) (by omega)) 2 gX6_add_X0_holds rfl (by decide +kernel) rfl (by decide) 3 (wC_g3 _ _ _ _) rfl rfl (Nat.le_of_ble_eq_true rfl) dX6_add_47 rfl rfl ?_
    refine r_if_eqB K 63 dX6_add_50 (by decide) (fun h6 => ?_) (fun h6 => ?_)
    ·
      refine r_aload_n K dX6_add_63 rfl ?_
      refine r_get K hin_X6_add_6 0 (wC_g0 _ _ _ _) rfl 2 (by decide) (List.mem_of_getElem? (i := 7) rfl) rfl dX6_add_64 ?_
      refine r_get K hin_X6_add_0 3 (wC_g3 _ _ _ _) rfl 1 (by decide) (List.mem_of_getElem? (i := 9) rfl) rfl dX6_add_67 ?_
      refine r_iload_n K dX6_add_70 rfl ?_
      refine r_iald K 19 0 (wC_g19 _ _ _ _) rfl (by omega) (by decide) dX6_add_71 ?_
      have hf7 := V_size hV xk
      refine r_bipush K (nI 10) dX6_add_72 (by decide) ?_
      refine r_ic_lt K 87 dX6_add_74 (by decide) (by omega) (by decide) (fun h8 => ?_) (fun h8 => ?_)
      ·
        refine r_aload_n K dX6_add_87 rfl ?_
        refine r_get K hin_X6_add_6 0 (wC_g0 _ _ _ _) rfl 2 (by decide) (List.mem_of_getElem? (i := 7) rfl) rfl dX6_add_88 ?_
        refine r_iload_n K dX6_add_91 rfl ?_
        refine r_iload_n K dX6_add_92 rfl ?_
        refine r_callVs (rest := []) K (c_X0_putBehind l D a c S J hV xk yk (by omega) (by omega)) 2 gX6_add_X0_putBehind rfl (by decide +kernel) rfl (by decide) 3 (wC_g3 _ _ _ _) rfl rfl (Nat.le_of_ble_eq_true rfl) dX6_add_93 rfl rfl ?_
        exact hret 2 12 _ _ _ _ () dX6_add_96 ⟨(by rw [tn_nI hxkc, tn_nI hykc]; exact thr_0 (and_t h_x h_y) (and_t (decide_eq_true h5) (by rw [h6]; rfl)) (decide_eq_true (by omega))), by rw [tn_nI hxkc]⟩ (by rw [tn_nI hxkc, tn_nI hykc]) (Nat.le_of_ble_eq_true rfl) (Nat.le_of_ble_eq_true rfl)
      ·
        exact r_throw (cls := eISE) (text := "the deck is full") KX (by decide +kernel) (List.mem_of_getElem? (i := 3) rfl) (List.mem_of_getElem? (i := 4) rfl) (by decide +kernel) hat_X6_add_ISE hng_ISE hot_ISE dX6_add_77 dX6_add_80 dX6_add_81 dX6_add_83 dX6_add_86 (by decide) (by rw [tn_nI hxkc, tn_nI hykc]; exact px_3 (and_t h_x h_y) (and_t (decide_eq_true h5) (by rw [h6]; rfl)) (decide_eq_false (by omega)) rfl)
    ·
      exact r_throw (cls := eIAE) (text := "the card is in the deck") KX (by decide +kernel) (List.mem_of_getElem? (i := 1) rfl) (List.mem_of_getElem? (i := 2) rfl) (by decide +kernel) hat_X6_add_IAE hng_IAE hot_IAE dX6_add_53 dX6_add_56 dX6_add_57 dX6_add_59 dX6_add_62 (by decide) (by rw [tn_nI hxkc, tn_nI hykc]; exact px_2 (and_t h_x h_y) (and_f2 (by rw [h6]; rfl)) rfl)
  ·
    exact r_throw (cls := eIAE) (text := "the owner does not have the card") KX (by decide +kernel) (List.mem_of_getElem? (i := 1) rfl) (List.mem_of_getElem? (i := 2) rfl) (by decide +kernel) hat_X6_add_IAE hng_IAE hot_IAE dX6_add_31 dX6_add_34 dX6_add_35 dX6_add_37 dX6_add_40 (by decide) (by rw [tn_nI hxkc, tn_nI hykc]; exact px_2 (and_t h_x h_y) (and_f1 (decide_eq_false h5)) rfl)

def rmX6_cut : Room := { frames := 7, cells := 2, slots := 12, locals := 112 }
theorem hin_X6_cut_6 : ∀ w ∈ wsX60, w ∈ wsX6_cut := fun _ h => List.mem_cons_of_mem _ (List.mem_append_left _ (List.mem_append_left _ (List.mem_append_right _ h)))
theorem hin_X6_cut_0 : ∀ w ∈ wsX00, w ∈ wsX6_cut := fun _ h => List.mem_cons_of_mem _ (List.mem_append_left _ (List.mem_append_right _ h))
set_option maxHeartbeats 4000000 in
set_option maxRecDepth 100000 in
theorem c_X6_cut (l : Launch) (D : va_G) (a : Nat → Nat) (c : Nat → ClassId) (S J : St) (hl0 : l.stackTraces = false) (hV : V S)  (x : Int32) (y : Int32) : Xi l yX6_cut wsX6_cut rmX6_cut D (tyW c) [.ref (a 0), .int x, .int y] (wC a c S J) (pxN eIOB eIOB eIOB (thr (inB x 0 ((S 3 0 : Nat) - 1) && inB y 0 ((S 19 (tn x) : Nat) - 1)) (true) (true))) (fun r (_ : Unit) => thr (inB x 0 ((S 3 0 : Nat) - 1) && inB y 0 ((S 19 (tn x) : Nat) - 1)) (true) (true) = 0 ∧ r = nI (S (30 + tn x) (tn y))) (fun _ : Unit => wC a c (shl (up S 19 (tn x) (S 19 (tn x) - 1)) (tn x) (tn y) (S 19 (tn x) - 1 - tn y)) J) := by
  refine Xi.of (lv0 := [(0, .ref (a 0)), (1, .int x), (2, .int y)]) hl0 (by decide +kernel) rfl (Nat.le_of_ble_eq_true rfl) rfl (fun G KX hret => ?_)
  have K := KX.ok
  have hdk := V_decks hV
  refine r_aload_n K dX6_cut_0 rfl ?_
  refine r_iload_n K dX6_cut_1 rfl ?_
  refine r_xcallVv (rest := []) KX (c_X6_needDeck l D a c S J hl0 hV x) (fun E h => px_1 (and_f1 h.1) h.2) 1 gX6_cut_X6_needDeck rfl (by decide +kernel) rfl (by decide) (by decide) 0 (wC_g0 _ _ _ _) rfl rfl (Nat.le_of_ble_eq_true rfl) dX6_cut_2 (fun _ hc1 => ?_)
  have h_x := hc1
  obtain ⟨xk, hxka, hxkb, rfl, hxkc⟩ := inB_ex (by decide) hc1
  refine r_aload_n K dX6_cut_5 rfl ?_
  refine r_iload_n K dX6_cut_6 rfl ?_
  refine r_iload_n K dX6_cut_7 rfl ?_
  refine r_xcallVv (rest := []) KX (c_X6_needPlace l D a c S J hl0 hV xk (by omega) y) (fun E h => (by rw [tn_nI hxkc]; exact px_1 (and_f2 h.1) h.2)) 2 gX6_cut_X6_needPlace rfl (by decide +kernel) rfl (by decide) (by decide) 0 (wC_g0 _ _ _ _) rfl rfl (Nat.le_of_ble_eq_true rfl) dX6_cut_8 (fun _ hc2 => ?_)
  have h_y := hc2
  obtain ⟨yk, hyka, hykb, rfl, hykc⟩ := inB_ex (by decide) hc2
  refine r_aload_n K dX6_cut_11 rfl ?_
  refine r_get K hin_X6_cut_6 0 (wC_g0 _ _ _ _) rfl 2 (by decide) (List.mem_of_getElem? (i := 1) rfl) rfl dX6_cut_12 ?_
  refine r_iload_n K dX6_cut_15 rfl ?_
  refine r_iload_n K dX6_cut_16 rfl ?_
  refine r_callVs (rest := []) K (c_X0_takeOut l D a c S J hV xk yk (by omega) (by omega)) 2 gX6_cut_X0_takeOut rfl (by decide +kernel) rfl (by decide) 3 (wC_g3 _ _ _ _) rfl rfl (Nat.le_of_ble_eq_true rfl) dX6_cut_17 rfl rfl ?_
  exact hret 2 12 _ _ _ _ () dX6_cut_20 ⟨(by rw [tn_nI hxkc]; exact thr_0 (and_t h_x h_y) rfl rfl), by rw [tn_nI hxkc, tn_nI hykc]⟩ (by rw [tn_nI hxkc, tn_nI hykc]) (Nat.le_of_ble_eq_true rfl) (Nat.le_of_ble_eq_true rfl)

def rmX6_offer : Room := { frames := 7, cells := 3, slots := 18, locals := 111 }
theorem hin_X6_offer_6 : ∀ w ∈ wsX60, w ∈ wsX6_offer := fun _ h => List.mem_cons_of_mem _ (List.mem_append_left _ (List.mem_append_left _ (List.mem_append_left _ (List.mem_append_left _ (List.mem_append_left _ (List.mem_append_right _ h))))))
theorem hin_X6_offer_4 : ∀ w ∈ wsX40, w ∈ wsX6_offer := fun _ h => List.mem_cons_of_mem _ (List.mem_append_left _ (List.mem_append_left _ (List.mem_append_left _ (List.mem_append_left _ (List.mem_append_right _ h)))))
theorem hin_X6_offer_2 : ∀ w ∈ wsX20, w ∈ wsX6_offer := fun _ h => List.mem_cons_of_mem _ (List.mem_append_left _ (List.mem_append_left _ (List.mem_append_left _ (List.mem_append_right _ h))))
theorem hat_X6_offer_ISE : ∀ w ∈ (vx_atS RX6 94 eISE nmRE).filter goodWord, w ∈ wsX6_offer := fun _ h => List.mem_cons_of_mem _ (List.mem_append_left _ (List.mem_append_right _ h))
theorem hat_X6_offer_IAE : ∀ w ∈ (vx_atS RX6 126 eIAE nmRE).filter goodWord, w ∈ wsX6_offer := fun _ h => List.mem_cons_of_mem _ (List.mem_append_left _ (List.mem_append_left _ (List.mem_append_right _ h)))
set_option maxHeartbeats 4000000 in
set_option maxRecDepth 100000 in
theorem c_X6_offer (l : Launch) (D : va_G) (a : Nat → Nat) (c : Nat → ClassId) (S J : St) (hl0 : l.stackTraces = false) (hV : V S)  (x : Int32) (y : Int32) : Xi l yX6_offer wsX6_offer rmX6_offer D (tyW c) [.ref (a 0), .int x, .int y] (wC a c S J) (pxN eIOB eIAE eISE (thr (inB x 0 ((S 2 0 : Nat) - 1) && inB y 0 15) (decide (S 15 (tn x) ≠ tn y)) (!liveB S (tn x) && decide (S 4 0 < 40)))) (fun r (_ : Unit) => thr (inB x 0 ((S 2 0 : Nat) - 1) && inB y 0 15) (decide (S 15 (tn x) ≠ tn y)) (!liveB S (tn x) && decide (S 4 0 < 40)) = 0 ∧ r = nI (S 4 0)) (fun _ : Unit => wC a c (up (up (up (up (up (up S 21 (S 4 0) (tn x)) 22 (S 4 0) (S 15 (tn x))) 23 (S 4 0) (tn y)) 24 (S 4 0) (S 17 (tn x))) 25 (S 4 0) 1) 4 0 (S 4 0 + 1)) J) := by
  refine Xi.of (lv0 := [(0, .ref (a 0)), (1, .int x), (2, .int y)]) hl0 (by decide +kernel) rfl (Nat.le_of_ble_eq_true rfl) rfl (fun G KX hret => ?_)
  have K := KX.ok
  have hcd := V_cards hV
  have hof := V_offers hV
  refine r_aload_n K dX6_offer_0 rfl ?_
  refine r_iload_n K dX6_offer_1 rfl ?_
  refine r_xcallVv (rest := []) KX (c_X6_needCard l D a c S J hl0 hV x) (fun E h => px_1 (and_f1 h.1) h.2) 1 gX6_offer_X6_needCard rfl (by decide +kernel) rfl (by decide) (by decide) 0 (wC_g0 _ _ _ _) rfl rfl (Nat.le_of_ble_eq_true rfl) dX6_offer_2 (fun _ hc1 => ?_)
  have h_x := hc1
  obtain ⟨xk, hxka, hxkb, rfl, hxkc⟩ := inB_ex (by decide) hc1
  refine r_iload_n K dX6_offer_5 rfl ?_
  refine r_xcallSv (rest := []) KX (c_X6_needKind l D a c S J hl0 y) (fun E h => px_1 (and_f2 h.1) h.2) 1 gX6_offer_X6_needKind rfl (by decide +kernel) rfl (by decide) (by decide) rfl (Nat.le_of_ble_eq_true rfl) dX6_offer_6 (fun _ hc2 => ?_)
  have h_y := hc2
  obtain ⟨yk, hyka, hykb, rfl, hykc⟩ := inB_ex (by decide) hc2
  refine r_aload_n K dX6_offer_9 rfl ?_
  refine r_get K hin_X6_offer_6 0 (wC_g0 _ _ _ _) rfl 1 (by decide) (List.mem_of_getElem? (i := 5) rfl) rfl dX6_offer_10 ?_
  refine r_get K hin_X6_offer_4 2 (wC_g2 _ _ _ _) rfl 0 (by decide) (List.mem_of_getElem? (i := 6) rfl) rfl dX6_offer_13 ?_
  refine r_iload_n K dX6_offer_16 rfl ?_
  refine r_iald K 15 0 (wC_g15 _ _ _ _) rfl (by omega) (by decide) dX6_offer_17 ?_
  have hf3 := V_kind hV xk
  refine r_iload_n K dX6_offer_18 rfl ?_
  refine r_ic_ne K 32 dX6_offer_19 (by decide) (by omega) (by omega) (fun h4 => ?_) (fun h4 => ?_)
  ·
    refine r_aload_n K dX6_offer_32 rfl ?_
    refine r_get K hin_X6_offer_6 0 (wC_g0 _ _ _ _) rfl 3 (by decide) (List.mem_of_getElem? (i := 7) rfl) rfl dX6_offer_33 ?_
    refine r_iload_n K dX6_offer_36 rfl ?_
    refine r_callVs (rest := []) K (c_X2_hasLive l D a c S J hV xk (by omega)) 1 gX6_offer_X2_hasLive rfl (by decide +kernel) rfl (by decide) 4 (wC_g4 _ _ _ _) rfl rfl (Nat.le_of_ble_eq_true rfl) dX6_offer_37 rfl rfl ?_
    refine r_if_eqB K 53 dX6_offer_40 (by decide) (fun h5 => ?_) (fun h5 => ?_)
    ·
      refine r_aload_n K dX6_offer_53 rfl ?_
      refine r_get K hin_X6_offer_6 0 (wC_g0 _ _ _ _) rfl 3 (by decide) (List.mem_of_getElem? (i := 7) rfl) rfl dX6_offer_54 ?_
      refine r_get K hin_X6_offer_2 4 (wC_g4 _ _ _ _) rfl 6 (by decide) (List.mem_of_getElem? (i := 8) rfl) rfl dX6_offer_57 ?_
      have hf6 := V_b hV 4 0
      refine r_bipush K (nI 40) dX6_offer_60 (by decide) ?_
      refine r_ic_lt K 75 dX6_offer_62 (by decide) (by omega) (by decide) (fun h7 => ?_) (fun h7 => ?_)
      ·
        refine r_aload_n K dX6_offer_75 rfl ?_
        refine r_get K hin_X6_offer_6 0 (wC_g0 _ _ _ _) rfl 3 (by decide) (List.mem_of_getElem? (i := 7) rfl) rfl dX6_offer_76 ?_
        refine r_iload_n K dX6_offer_79 rfl ?_
        refine r_iload_n K dX6_offer_80 rfl ?_
        refine r_aload_n K dX6_offer_81 rfl ?_
        refine r_get K hin_X6_offer_6 0 (wC_g0 _ _ _ _) rfl 1 (by decide) (List.mem_of_getElem? (i := 5) rfl) rfl dX6_offer_82 ?_
        refine r_callVs (rest := []) K (c_X2_append l D a c S J hV xk yk (by omega) (by omega)) 3 gX6_offer_X2_append rfl (by decide +kernel) rfl (by decide) 4 (wC_g4 _ _ _ _) rfl rfl (Nat.le_of_ble_eq_true rfl) dX6_offer_85 rfl rfl ?_
        exact hret 2 12 _ _ _ _ () dX6_offer_88 ⟨(by rw [tn_nI hxkc, tn_nI hykc]; exact thr_0 (and_t h_x h_y) (decide_eq_true h4) (and_t (by rw [h5]; rfl) (decide_eq_true (by omega)))), rfl⟩ (by rw [tn_nI hxkc, tn_nI hykc]) (Nat.le_of_ble_eq_true rfl) (Nat.le_of_ble_eq_true rfl)
      ·
        exact r_throw (cls := eISE) (text := "all offers were made") KX (by decide +kernel) (List.mem_of_getElem? (i := 3) rfl) (List.mem_of_getElem? (i := 4) rfl) (by decide +kernel) hat_X6_offer_ISE hng_ISE hot_ISE dX6_offer_65 dX6_offer_68 dX6_offer_69 dX6_offer_71 dX6_offer_74 (by decide) (by rw [tn_nI hxkc, tn_nI hykc]; exact px_3 (and_t h_x h_y) (decide_eq_true h4) (and_f2 (decide_eq_false (by omega))) rfl)
    ·
      exact r_throw (cls := eISE) (text := "an open offer has the card") KX (by decide +kernel) (List.mem_of_getElem? (i := 3) rfl) (List.mem_of_getElem? (i := 4) rfl) (by decide +kernel) hat_X6_offer_ISE hng_ISE hot_ISE dX6_offer_43 dX6_offer_46 dX6_offer_47 dX6_offer_49 dX6_offer_52 (by decide) (by rw [tn_nI hxkc, tn_nI hykc]; exact px_3 (and_t h_x h_y) (decide_eq_true h4) (and_f1 (by rw [h5]; rfl)) rfl)
  ·
    exact r_throw (cls := eIAE) (text := "the card is of the kind that is wanted") KX (by decide +kernel) (List.mem_of_getElem? (i := 1) rfl) (List.mem_of_getElem? (i := 2) rfl) (by decide +kernel) hat_X6_offer_IAE hng_IAE hot_IAE dX6_offer_22 dX6_offer_25 dX6_offer_26 dX6_offer_28 dX6_offer_31 (by decide) (by rw [tn_nI hxkc, tn_nI hykc]; exact px_2 (and_t h_x h_y) (decide_eq_false (fun q => q h4)) rfl)

def rmX6_takeBack : Room := { frames := 7, cells := 2, slots := 12, locals := 111 }
theorem hin_X6_takeBack_6 : ∀ w ∈ wsX60, w ∈ wsX6_takeBack := fun _ h => List.mem_cons_of_mem _ (List.mem_append_left _ (List.mem_append_left _ (List.mem_append_left _ (List.mem_append_right _ h))))
theorem hin_X6_takeBack_2 : ∀ w ∈ wsX20, w ∈ wsX6_takeBack := fun _ h => List.mem_cons_of_mem _ (List.mem_append_left _ (List.mem_append_left _ (List.mem_append_right _ h)))
theorem hat_X6_takeBack_ISE : ∀ w ∈ (vx_atS RX6 94 eISE nmRE).filter goodWord, w ∈ wsX6_takeBack := fun _ h => List.mem_cons_of_mem _ (List.mem_append_left _ (List.mem_append_right _ h))
set_option maxHeartbeats 4000000 in
set_option maxRecDepth 100000 in
theorem c_X6_takeBack (l : Launch) (D : va_G) (a : Nat → Nat) (c : Nat → ClassId) (S J : St) (hl0 : l.stackTraces = false) (hV : V S)  (x : Int32) : Xi l yX6_takeBack wsX6_takeBack rmX6_takeBack D (tyW c) [.ref (a 0), .int x] (wC a c S J) (pxN eIOB eISE eISE (thr (inB x 0 ((S 4 0 : Nat) - 1)) (decide (S 25 (tn x) ≠ 0)) (true))) (fun r (_ : Unit) => thr (inB x 0 ((S 4 0 : Nat) - 1)) (decide (S 25 (tn x) ≠ 0)) (true) = 0 ∧ r = nI (S 21 (tn x))) (fun _ : Unit => wC a c (up S 25 (tn x) 0) J) := by
  refine Xi.of (lv0 := [(0, .ref (a 0)), (1, .int x)]) hl0 (by decide +kernel) rfl (Nat.le_of_ble_eq_true rfl) rfl (fun G KX hret => ?_)
  have K := KX.ok
  have hof := V_offers hV
  refine r_aload_n K dX6_takeBack_0 rfl ?_
  refine r_iload_n K dX6_takeBack_1 rfl ?_
  refine r_xcallVv (rest := []) KX (c_X6_needOffer l D a c S J hl0 hV x) (fun E h => px_1 h.1 h.2) 1 gX6_takeBack_X6_needOffer rfl (by decide +kernel) rfl (by decide) (by decide) 0 (wC_g0 _ _ _ _) rfl rfl (Nat.le_of_ble_eq_true rfl) dX6_takeBack_2 (fun _ hc1 => ?_)
  have h_x := hc1
  obtain ⟨xk, hxka, hxkb, rfl, hxkc⟩ := inB_ex (by decide) hc1
  refine r_aload_n K dX6_takeBack_5 rfl ?_
  refine r_get K hin_X6_takeBack_6 0 (wC_g0 _ _ _ _) rfl 3 (by decide) (List.mem_of_getElem? (i := 3) rfl) rfl dX6_takeBack_6 ?_
  refine r_get K hin_X6_takeBack_2 4 (wC_g4 _ _ _ _) rfl 4 (by decide) (List.mem_of_getElem? (i := 4) rfl) rfl dX6_takeBack_9 ?_
  refine r_iload_n K dX6_takeBack_12 rfl ?_
  refine r_zald K 25 1 (wC_g25 _ _ _ _) rfl (by omega) (by decide) dX6_takeBack_13 ?_
  have hf2 := V_b hV 25 xk
  refine r_if_ne K 27 dX6_takeBack_14 (by decide) (by omega) (fun h3 => ?_) (fun h3 => ?_)
  ·
    refine r_aload_n K dX6_takeBack_27 rfl ?_
    refine r_get K hin_X6_takeBack_6 0 (wC_g0 _ _ _ _) rfl 3 (by decide) (List.mem_of_getElem? (i := 3) rfl) rfl dX6_takeBack_28 ?_
    refine r_get K hin_X6_takeBack_2 4 (wC_g4 _ _ _ _) rfl 4 (by decide) (List.mem_of_getElem? (i := 4) rfl) rfl dX6_takeBack_31 ?_
    refine r_iload_n K dX6_takeBack_34 rfl ?_
    refine r_iconst K (nI 0) dX6_takeBack_35 (by decide) ?_
    refine r_zast K 25 1 (wC_g25 _ _ _ _) rfl (by omega) (by decide) (by decide) dX6_takeBack_36 (wC_s25 _ _ _ _ _ _) ?_
    refine r_aload_n K dX6_takeBack_37 rfl ?_
    refine r_get K hin_X6_takeBack_6 0 (wC_g0 _ _ _ _) rfl 3 (by decide) (List.mem_of_getElem? (i := 3) rfl) rfl dX6_takeBack_38 ?_
    refine r_get K hin_X6_takeBack_2 4 (wC_g4 _ _ _ _) rfl 0 (by decide) (List.mem_of_getElem? (i := 5) rfl) rfl dX6_takeBack_41 ?_
    refine r_iload_n K dX6_takeBack_44 rfl ?_
    refine r_iald K 21 0 (wC_g21 _ _ _ _) rfl (by omega) (by decide) dX6_takeBack_45 ?_
    refine r_top (congrArg nI (congrFun (up_ne (by decide)) _)) ?_
    have hf4 := V_ocard hV xk
    exact hret 1 6 _ _ _ _ () dX6_takeBack_46 ⟨(by rw [tn_nI hxkc]; exact thr_0 h_x (decide_eq_true h3) rfl), by rw [tn_nI hxkc]⟩ (by rw [tn_nI hxkc]) (Nat.le_of_ble_eq_true rfl) (Nat.le_of_ble_eq_true rfl)
  ·
    exact r_throw (cls := eISE) (text := "the offer is not open") KX (by decide +kernel) (List.mem_of_getElem? (i := 1) rfl) (List.mem_of_getElem? (i := 2) rfl) (by decide +kernel) hat_X6_takeBack_ISE hng_ISE hot_ISE dX6_takeBack_17 dX6_takeBack_20 dX6_takeBack_21 dX6_takeBack_23 dX6_takeBack_26 (by decide) (by rw [tn_nI hxkc]; exact px_2 h_x (decide_eq_false (fun q => q h3)) rfl)

def rmX6_cards : Room := { frames := 0, cells := 0, slots := 0, locals := 0 }
theorem hin_X6_cards_6 : ∀ w ∈ wsX60, w ∈ wsX6_cards := fun _ h => List.mem_cons_of_mem _ (List.mem_append_left _ (List.mem_append_right _ h))
theorem hin_X6_cards_4 : ∀ w ∈ wsX40, w ∈ wsX6_cards := fun _ h => List.mem_cons_of_mem _ (List.mem_append_right _ h)
set_option maxHeartbeats 4000000 in
set_option maxRecDepth 100000 in
theorem c_X6_cards (l : Launch) (D : va_G) (a : Nat → Nat) (c : Nat → ClassId) (S J : St) (hV : V S) : Cs l yX6_cards wsX6_cards rmX6_cards D (tyW c) [.ref (a 0)] (wC a c S J) (nI (S 2 0)) (wC a c S J) := by
  refine Ci.of (lv0 := [(0, .ref (a 0))]) (by decide +kernel) rfl (Nat.le_of_ble_eq_true rfl) rfl (fun G K hret => ?_)
  refine r_aload_n K dX6_cards_0 rfl ?_
  refine r_get K hin_X6_cards_6 0 (wC_g0 _ _ _ _) rfl 1 (by decide) (List.mem_of_getElem? (i := 1) rfl) rfl dX6_cards_1 ?_
  refine r_get K hin_X6_cards_4 2 (wC_g2 _ _ _ _) rfl 3 (by decide) (List.mem_of_getElem? (i := 2) rfl) rfl dX6_cards_4 ?_
  have hf1 := V_b hV 2 0
  exact hret 0 0 _ _ _ (nI (S 2 0)) () dX6_cards_7 rfl rfl (Nat.le_of_ble_eq_true rfl) (Nat.le_of_ble_eq_true rfl)

def rmX6_printOf : Room := { frames := 7, cells := 1, slots := 6, locals := 111 }
theorem hin_X6_printOf_6 : ∀ w ∈ wsX60, w ∈ wsX6_printOf := fun _ h => List.mem_cons_of_mem _ (List.mem_append_left _ (List.mem_append_left _ (List.mem_append_right _ h)))
theorem hin_X6_printOf_4 : ∀ w ∈ wsX40, w ∈ wsX6_printOf := fun _ h => List.mem_cons_of_mem _ (List.mem_append_left _ (List.mem_append_right _ h))
set_option maxHeartbeats 4000000 in
set_option maxRecDepth 100000 in
theorem c_X6_printOf (l : Launch) (D : va_G) (a : Nat → Nat) (c : Nat → ClassId) (S J : St) (hl0 : l.stackTraces = false) (hV : V S)  (x : Int32) : Xi l yX6_printOf wsX6_printOf rmX6_printOf D (tyW c) [.ref (a 0), .int x] (wC a c S J) (pxN eIOB eIOB eIOB (thr (inB x 0 ((S 2 0 : Nat) - 1)) (true) (true))) (fun r (_ : Unit) => thr (inB x 0 ((S 2 0 : Nat) - 1)) (true) (true) = 0 ∧ r = nI (100 * S 15 (tn x) + S 16 (tn x))) (fun _ : Unit => wC a c (S) J) := by
  refine Xi.of (lv0 := [(0, .ref (a 0)), (1, .int x)]) hl0 (by decide +kernel) rfl (Nat.le_of_ble_eq_true rfl) rfl (fun G KX hret => ?_)
  have K := KX.ok
  have hcd := V_cards hV
  refine r_aload_n K dX6_printOf_0 rfl ?_
  refine r_iload_n K dX6_printOf_1 rfl ?_
  refine r_xcallVv (rest := []) KX (c_X6_needCard l D a c S J hl0 hV x) (fun E h => px_1 h.1 h.2) 1 gX6_printOf_X6_needCard rfl (by decide +kernel) rfl (by decide) (by decide) 0 (wC_g0 _ _ _ _) rfl rfl (Nat.le_of_ble_eq_true rfl) dX6_printOf_2 (fun _ hc1 => ?_)
  have h_x := hc1
  obtain ⟨xk, hxka, hxkb, rfl, hxkc⟩ := inB_ex (by decide) hc1
  refine r_bipush K (nI 100) dX6_printOf_5 (by decide) ?_
  refine r_aload_n K dX6_printOf_7 rfl ?_
  refine r_get K hin_X6_printOf_6 0 (wC_g0 _ _ _ _) rfl 1 (by decide) (List.mem_of_getElem? (i := 1) rfl) rfl dX6_printOf_8 ?_
  refine r_get K hin_X6_printOf_4 2 (wC_g2 _ _ _ _) rfl 0 (by decide) (List.mem_of_getElem? (i := 2) rfl) rfl dX6_printOf_11 ?_
  refine r_iload_n K dX6_printOf_14 rfl ?_
  refine r_iald K 15 0 (wC_g15 _ _ _ _) rfl (by omega) (by decide) dX6_printOf_15 ?_
  have hf2 := V_kind hV xk
  refine r_imul K dX6_printOf_16 ?_
  refine r_aload_n K dX6_printOf_17 rfl ?_
  refine r_get K hin_X6_printOf_6 0 (wC_g0 _ _ _ _) rfl 1 (by decide) (List.mem_of_getElem? (i := 1) rfl) rfl dX6_printOf_18 ?_
  refine r_get K hin_X6_printOf_4 2 (wC_g2 _ _ _ _) rfl 1 (by decide) (List.mem_of_getElem? (i := 3) rfl) rfl dX6_printOf_21 ?_
  refine r_iload_n K dX6_printOf_24 rfl ?_
  refine r_iald K 16 0 (wC_g16 _ _ _ _) rfl (by omega) (by decide) dX6_printOf_25 ?_
  have hf3 := V_b hV 16 xk
  refine r_iadd K dX6_printOf_26 ?_
  exact hret 1 6 _ _ _ _ () dX6_printOf_27 ⟨thr_0 h_x rfl rfl, by rw [tn_nI hxkc]⟩ rfl (Nat.le_of_ble_eq_true rfl) (Nat.le_of_ble_eq_true rfl)

def rmX6_collectorOf : Room := { frames := 7, cells := 1, slots := 6, locals := 111 }
theorem hin_X6_collectorOf_6 : ∀ w ∈ wsX60, w ∈ wsX6_collectorOf := fun _ h => List.mem_cons_of_mem _ (List.mem_append_left _ (List.mem_append_left _ (List.mem_append_right _ h)))
theorem hin_X6_collectorOf_4 : ∀ w ∈ wsX40, w ∈ wsX6_collectorOf := fun _ h => List.mem_cons_of_mem _ (List.mem_append_left _ (List.mem_append_right _ h))
set_option maxHeartbeats 4000000 in
set_option maxRecDepth 100000 in
theorem c_X6_collectorOf (l : Launch) (D : va_G) (a : Nat → Nat) (c : Nat → ClassId) (S J : St) (hl0 : l.stackTraces = false) (hV : V S)  (x : Int32) : Xi l yX6_collectorOf wsX6_collectorOf rmX6_collectorOf D (tyW c) [.ref (a 0), .int x] (wC a c S J) (pxN eIOB eIOB eIOB (thr (inB x 0 ((S 2 0 : Nat) - 1)) (true) (true))) (fun r (_ : Unit) => thr (inB x 0 ((S 2 0 : Nat) - 1)) (true) (true) = 0 ∧ r = nI (S 17 (tn x))) (fun _ : Unit => wC a c (S) J) := by
  refine Xi.of (lv0 := [(0, .ref (a 0)), (1, .int x)]) hl0 (by decide +kernel) rfl (Nat.le_of_ble_eq_true rfl) rfl (fun G KX hret => ?_)
  have K := KX.ok
  have hcd := V_cards hV
  refine r_aload_n K dX6_collectorOf_0 rfl ?_
  refine r_iload_n K dX6_collectorOf_1 rfl ?_
  refine r_xcallVv (rest := []) KX (c_X6_needCard l D a c S J hl0 hV x) (fun E h => px_1 h.1 h.2) 1 gX6_collectorOf_X6_needCard rfl (by decide +kernel) rfl (by decide) (by decide) 0 (wC_g0 _ _ _ _) rfl rfl (Nat.le_of_ble_eq_true rfl) dX6_collectorOf_2 (fun _ hc1 => ?_)
  have h_x := hc1
  obtain ⟨xk, hxka, hxkb, rfl, hxkc⟩ := inB_ex (by decide) hc1
  refine r_aload_n K dX6_collectorOf_5 rfl ?_
  refine r_get K hin_X6_collectorOf_6 0 (wC_g0 _ _ _ _) rfl 1 (by decide) (List.mem_of_getElem? (i := 1) rfl) rfl dX6_collectorOf_6 ?_
  refine r_get K hin_X6_collectorOf_4 2 (wC_g2 _ _ _ _) rfl 2 (by decide) (List.mem_of_getElem? (i := 2) rfl) rfl dX6_collectorOf_9 ?_
  refine r_iload_n K dX6_collectorOf_12 rfl ?_
  refine r_iald K 17 0 (wC_g17 _ _ _ _) rfl (by omega) (by decide) dX6_collectorOf_13 ?_
  have hf2 := V_b hV 17 xk
  exact hret 1 6 _ _ _ _ () dX6_collectorOf_14 ⟨thr_0 h_x rfl rfl, by rw [tn_nI hxkc]⟩ rfl (Nat.le_of_ble_eq_true rfl) (Nat.le_of_ble_eq_true rfl)

def rmX6_has : Room := { frames := 7, cells := 2, slots := 12, locals := 110 }
theorem hin_X6_has_6 : ∀ w ∈ wsX60, w ∈ wsX6_has := fun _ h => List.mem_cons_of_mem _ (List.mem_append_left _ (List.mem_append_left _ (List.mem_append_right _ h)))
theorem hin_X6_has_4 : ∀ w ∈ wsX40, w ∈ wsX6_has := fun _ h => List.mem_cons_of_mem _ (List.mem_append_left _ (List.mem_append_right _ h))
set_option maxHeartbeats 4000000 in
set_option maxRecDepth 100000 in
theorem c_X6_has (l : Launch) (D : va_G) (a : Nat → Nat) (c : Nat → ClassId) (S J : St) (hl0 : l.stackTraces = false) (hV : V S)  (x : Int32) (y : Int32) : Xi l yX6_has wsX6_has rmX6_has D (tyW c) [.ref (a 0), .int x, .int y] (wC a c S J) (pxN eIOB eIOB eIOB (thr (inB x 0 5 && inB y 0 15) (true) (true))) (fun r (_ : Unit) => thr (inB x 0 5 && inB y 0 15) (true) (true) = 0 ∧ r = nI (hasN S (tn x) (tn y))) (fun _ : Unit => wC a c (S) J) := by
  refine Xi.of (lv0 := [(0, .ref (a 0)), (1, .int x), (2, .int y)]) hl0 (by decide +kernel) rfl (Nat.le_of_ble_eq_true rfl) rfl (fun G KX hret => ?_)
  have K := KX.ok
  refine r_iload_n K dX6_has_0 rfl ?_
  refine r_xcallSv (rest := []) KX (c_X6_needCollector l D a c S J hl0 x) (fun E h => px_1 (and_f1 h.1) h.2) 1 gX6_has_X6_needCollector rfl (by decide +kernel) rfl (by decide) (by decide) rfl (Nat.le_of_ble_eq_true rfl) dX6_has_1 (fun _ hc1 => ?_)
  have h_x := hc1
  obtain ⟨xk, hxka, hxkb, rfl, hxkc⟩ := inB_ex (by decide) hc1
  refine r_iload_n K dX6_has_4 rfl ?_
  refine r_xcallSv (rest := []) KX (c_X6_needKind l D a c S J hl0 y) (fun E h => px_1 (and_f2 h.1) h.2) 1 gX6_has_X6_needKind rfl (by decide +kernel) rfl (by decide) (by decide) rfl (Nat.le_of_ble_eq_true rfl) dX6_has_5 (fun _ hc2 => ?_)
  have h_y := hc2
  obtain ⟨yk, hyka, hykb, rfl, hykc⟩ := inB_ex (by decide) hc2
  refine r_aload_n K dX6_has_8 rfl ?_
  refine r_get K hin_X6_has_6 0 (wC_g0 _ _ _ _) rfl 1 (by decide) (List.mem_of_getElem? (i := 1) rfl) rfl dX6_has_9 ?_
  refine r_iload_n K dX6_has_12 rfl ?_
  refine r_iload_n K dX6_has_13 rfl ?_
  refine r_callVs (rest := []) K (c_X4_countOf l D a c S J hV xk yk (by omega) (by omega)) 2 gX6_has_X4_countOf rfl (by decide +kernel) rfl (by decide) 2 (wC_g2 _ _ _ _) rfl rfl (Nat.le_of_ble_eq_true rfl) dX6_has_14 rfl rfl ?_
  exact hret 2 12 _ _ _ _ () dX6_has_17 ⟨thr_0 (and_t h_x h_y) rfl rfl, by rw [tn_nI hxkc, tn_nI hykc]⟩ rfl (Nat.le_of_ble_eq_true rfl) (Nat.le_of_ble_eq_true rfl)

def rmX6_wins : Room := { frames := 7, cells := 1, slots := 6, locals := 110 }
theorem hin_X6_wins_6 : ∀ w ∈ wsX60, w ∈ wsX6_wins := fun _ h => List.mem_cons_of_mem _ (List.mem_append_left _ (List.mem_append_left _ (List.mem_append_right _ h)))
theorem hin_X6_wins_1 : ∀ w ∈ wsX10, w ∈ wsX6_wins := fun _ h => List.mem_cons_of_mem _ (List.mem_append_left _ (List.mem_append_right _ h))
set_option maxHeartbeats 4000000 in
set_option maxRecDepth 100000 in
theorem c_X6_wins (l : Launch) (D : va_G) (a : Nat → Nat) (c : Nat → ClassId) (S J : St) (hl0 : l.stackTraces = false) (hV : V S)  (x : Int32) : Xi l yX6_wins wsX6_wins rmX6_wins D (tyW c) [.ref (a 0), .int x] (wC a c S J) (pxN eIOB eIOB eIOB (thr (inB x 0 15) (true) (true))) (fun r (_ : Unit) => thr (inB x 0 15) (true) (true) = 0 ∧ r = nI (S 14 (tn x))) (fun _ : Unit => wC a c (S) J) := by
  refine Xi.of (lv0 := [(0, .ref (a 0)), (1, .int x)]) hl0 (by decide +kernel) rfl (Nat.le_of_ble_eq_true rfl) rfl (fun G KX hret => ?_)
  have K := KX.ok
  refine r_iload_n K dX6_wins_0 rfl ?_
  refine r_xcallSv (rest := []) KX (c_X6_needKind l D a c S J hl0 x) (fun E h => px_1 h.1 h.2) 1 gX6_wins_X6_needKind rfl (by decide +kernel) rfl (by decide) (by decide) rfl (Nat.le_of_ble_eq_true rfl) dX6_wins_1 (fun _ hc1 => ?_)
  have h_x := hc1
  obtain ⟨xk, hxka, hxkb, rfl, hxkc⟩ := inB_ex (by decide) hc1
  refine r_aload_n K dX6_wins_4 rfl ?_
  refine r_get K hin_X6_wins_6 0 (wC_g0 _ _ _ _) rfl 0 (by decide) (List.mem_of_getElem? (i := 1) rfl) rfl dX6_wins_5 ?_
  refine r_get K hin_X6_wins_1 1 (wC_g1 _ _ _ _) rfl 4 (by decide) (List.mem_of_getElem? (i := 2) rfl) rfl dX6_wins_8 ?_
  refine r_iload_n K dX6_wins_11 rfl ?_
  refine r_iald K 14 0 (wC_g14 _ _ _ _) rfl (by omega) (by decide) dX6_wins_12 ?_
  have hf2 := V_b hV 14 xk
  exact hret 1 6 _ _ _ _ () dX6_wins_13 ⟨thr_0 h_x rfl rfl, by rw [tn_nI hxkc]⟩ rfl (Nat.le_of_ble_eq_true rfl) (Nat.le_of_ble_eq_true rfl)

def rmX6_price : Room := { frames := 7, cells := 1, slots := 6, locals := 110 }
theorem hin_X6_price_6 : ∀ w ∈ wsX60, w ∈ wsX6_price := fun _ h => List.mem_cons_of_mem _ (List.mem_append_left _ (List.mem_append_left _ (List.mem_append_right _ h)))
theorem hin_X6_price_1 : ∀ w ∈ wsX10, w ∈ wsX6_price := fun _ h => List.mem_cons_of_mem _ (List.mem_append_left _ (List.mem_append_right _ h))
set_option maxHeartbeats 4000000 in
set_option maxRecDepth 100000 in
theorem c_X6_price (l : Launch) (D : va_G) (a : Nat → Nat) (c : Nat → ClassId) (S J : St) (hl0 : l.stackTraces = false) (hV : V S)  (x : Int32) : Xi l yX6_price wsX6_price rmX6_price D (tyW c) [.ref (a 0), .int x] (wC a c S J) (pxN eIOB eIOB eIOB (thr (inB x 0 15) (true) (true))) (fun r (_ : Unit) => thr (inB x 0 15) (true) (true) = 0 ∧ r = nI (prc S (tn x))) (fun _ : Unit => wC a c (S) J) := by
  refine Xi.of (lv0 := [(0, .ref (a 0)), (1, .int x)]) hl0 (by decide +kernel) rfl (Nat.le_of_ble_eq_true rfl) rfl (fun G KX hret => ?_)
  have K := KX.ok
  refine r_iload_n K dX6_price_0 rfl ?_
  refine r_xcallSv (rest := []) KX (c_X6_needKind l D a c S J hl0 x) (fun E h => px_1 h.1 h.2) 1 gX6_price_X6_needKind rfl (by decide +kernel) rfl (by decide) (by decide) rfl (Nat.le_of_ble_eq_true rfl) dX6_price_1 (fun _ hc1 => ?_)
  have h_x := hc1
  obtain ⟨xk, hxka, hxkb, rfl, hxkc⟩ := inB_ex (by decide) hc1
  refine r_aload_n K dX6_price_4 rfl ?_
  refine r_get K hin_X6_price_6 0 (wC_g0 _ _ _ _) rfl 0 (by decide) (List.mem_of_getElem? (i := 1) rfl) rfl dX6_price_5 ?_
  refine r_get K hin_X6_price_1 1 (wC_g1 _ _ _ _) rfl 3 (by decide) (List.mem_of_getElem? (i := 2) rfl) rfl dX6_price_8 ?_
  refine r_iload_n K dX6_price_11 rfl ?_
  refine r_iald K 13 0 (wC_g13 _ _ _ _) rfl (by omega) (by decide) dX6_price_12 ?_
  have hf2 := V_b hV 13 xk
  refine r_istore_n (lv' := [(0, .ref (a 0)), (1, .int (nI xk)), (2, .int (nI (S 13 xk)))]) K dX6_price_13 (by decide) rfl ?_
  refine r_iload_n K dX6_price_14 rfl ?_
  refine r_if_gt K 20 dX6_price_15 (by decide) (by omega) (fun h3 => ?_) (fun h3 => ?_)
  ·
    refine r_aload_n K dX6_price_20 rfl ?_
    refine r_get K hin_X6_price_6 0 (wC_g0 _ _ _ _) rfl 0 (by decide) (List.mem_of_getElem? (i := 1) rfl) rfl dX6_price_21 ?_
    refine r_get K hin_X6_price_1 1 (wC_g1 _ _ _ _) rfl 4 (by decide) (List.mem_of_getElem? (i := 3) rfl) rfl dX6_price_24 ?_
    refine r_iload_n K dX6_price_27 rfl ?_
    refine r_iald K 14 0 (wC_g14 _ _ _ _) rfl (by omega) (by decide) dX6_price_28 ?_
    have hf4 := V_b hV 14 xk
    refine r_iconst K (nI 1) dX6_price_29 (by decide) ?_
    refine r_iadd K dX6_price_30 ?_
    refine r_bipush K (nI 100) dX6_price_31 (by decide) ?_
    refine r_imul K dX6_price_33 ?_
    refine r_iload_n K dX6_price_34 rfl ?_
    refine r_idiv K dX6_price_35 (by omega) (by omega) (by omega) ?_
    exact hret 1 6 _ _ _ _ () dX6_price_36 ⟨thr_0 h_x rfl rfl, by rw [tn_nI hxkc]; unfold prc; rw [if_neg (by omega)]⟩ rfl (Nat.le_of_ble_eq_true rfl) (Nat.le_of_ble_eq_true rfl)
  ·
    refine r_iconst K (nI 0) dX6_price_18 (by decide) ?_
    exact hret 1 6 _ _ _ _ () dX6_price_19 ⟨thr_0 h_x rfl rfl, by rw [tn_nI hxkc]; unfold prc; rw [if_pos (by omega)]⟩ rfl (Nat.le_of_ble_eq_true rfl) (Nat.le_of_ble_eq_true rfl)

def rmX6_isAllowed : Room := { frames := 7, cells := 1, slots := 6, locals := 111 }
theorem hin_X6_isAllowed_6 : ∀ w ∈ wsX60, w ∈ wsX6_isAllowed := fun _ h => List.mem_cons_of_mem _ (List.mem_append_left _ (List.mem_append_left _ (List.mem_append_left _ (List.mem_append_left _ (List.mem_append_right _ h)))))
theorem hin_X6_isAllowed_0 : ∀ w ∈ wsX00, w ∈ wsX6_isAllowed := fun _ h => List.mem_cons_of_mem _ (List.mem_append_left _ (List.mem_append_left _ (List.mem_append_left _ (List.mem_append_right _ h))))
theorem hin_X6_isAllowed_4 : ∀ w ∈ wsX40, w ∈ wsX6_isAllowed := fun _ h => List.mem_cons_of_mem _ (List.mem_append_left _ (List.mem_append_left _ (List.mem_append_right _ h)))
theorem hin_X6_isAllowed_1 : ∀ w ∈ wsX10, w ∈ wsX6_isAllowed := fun _ h => List.mem_cons_of_mem _ (List.mem_append_left _ (List.mem_append_right _ h))
set_option maxHeartbeats 4000000 in
set_option maxRecDepth 100000 in
theorem c_X6_isAllowed (l : Launch) (D : va_G) (a : Nat → Nat) (c : Nat → ClassId) (S J : St) (hl0 : l.stackTraces = false) (hV : V S)  (x : Int32) : Xi l yX6_isAllowed wsX6_isAllowed rmX6_isAllowed D (tyW c) [.ref (a 0), .int x] (wC a c S J) (pxN eIOB eIOB eIOB (thr (inB x 0 ((S 3 0 : Nat) - 1)) (true) (true))) (fun r (_ : Unit) => thr (inB x 0 ((S 3 0 : Nat) - 1)) (true) (true) = 0 ∧ r = nI (alw S (tn x)).toNat) (fun _ : Unit => wC a c (S) J) := by
  refine Xi.ofZ (lv0 := [(0, .ref (a 0)), (1, .int x)]) hl0 (by decide +kernel) rfl (Nat.le_of_ble_eq_true rfl) rfl (fun G KX hret => ?_)
  have K := KX.ok
  have hdk := V_decks hV
  refine r_aload_n K dX6_isAllowed_0 rfl ?_
  refine r_iload_n K dX6_isAllowed_1 rfl ?_
  refine r_xcallVv (rest := []) KX (c_X6_needDeck l D a c S J hl0 hV x) (fun E h => px_1 h.1 h.2) 1 gX6_isAllowed_X6_needDeck rfl (by decide +kernel) rfl (by decide) (by decide) 0 (wC_g0 _ _ _ _) rfl rfl (Nat.le_of_ble_eq_true rfl) dX6_isAllowed_2 (fun _ hc1 => ?_)
  have h_x := hc1
  obtain ⟨xk, hxka, hxkb, rfl, hxkc⟩ := inB_ex (by decide) hc1
  refine r_aload_n K dX6_isAllowed_5 rfl ?_
  refine r_get K hin_X6_isAllowed_6 0 (wC_g0 _ _ _ _) rfl 2 (by decide) (List.mem_of_getElem? (i := 1) rfl) rfl dX6_isAllowed_6 ?_
  refine r_iload_n K dX6_isAllowed_9 rfl ?_
  refine r_aload_n K dX6_isAllowed_10 rfl ?_
  refine r_get K hin_X6_isAllowed_6 0 (wC_g0 _ _ _ _) rfl 0 (by decide) (List.mem_of_getElem? (i := 2) rfl) rfl dX6_isAllowed_11 ?_
  refine r_aload_n K dX6_isAllowed_14 rfl ?_
  refine r_get K hin_X6_isAllowed_6 0 (wC_g0 _ _ _ _) rfl 1 (by decide) (List.mem_of_getElem? (i := 3) rfl) rfl dX6_isAllowed_15 ?_
  refine r_callVs (rest := []) K (c_X0_fitsFormat l D a c S J hV xk (by omega)) 3 gX6_isAllowed_X0_fitsFormat rfl (by decide +kernel) rfl (by decide) 3 (wC_g3 _ _ _ _) rfl rfl (Nat.le_of_ble_eq_true rfl) dX6_isAllowed_18 rfl rfl ?_
  exact hret 1 6 _ _ _ _ () dX6_isAllowed_21 (toNat_lt2 _) ⟨thr_0 h_x rfl rfl, by rw [tn_nI hxkc]⟩ rfl (Nat.le_of_ble_eq_true rfl) (Nat.le_of_ble_eq_true rfl)

def rmX6_isOpen : Room := { frames := 7, cells := 1, slots := 6, locals := 111 }
theorem hin_X6_isOpen_6 : ∀ w ∈ wsX60, w ∈ wsX6_isOpen := fun _ h => List.mem_cons_of_mem _ (List.mem_append_left _ (List.mem_append_left _ (List.mem_append_right _ h)))
theorem hin_X6_isOpen_2 : ∀ w ∈ wsX20, w ∈ wsX6_isOpen := fun _ h => List.mem_cons_of_mem _ (List.mem_append_left _ (List.mem_append_right _ h))
set_option maxHeartbeats 4000000 in
set_option maxRecDepth 100000 in
theorem c_X6_isOpen (l : Launch) (D : va_G) (a : Nat → Nat) (c : Nat → ClassId) (S J : St) (hl0 : l.stackTraces = false) (hV : V S) (h25 : ∀ k, S 25 k < 2) (x : Int32) : Xi l yX6_isOpen wsX6_isOpen rmX6_isOpen D (tyW c) [.ref (a 0), .int x] (wC a c S J) (pxN eIOB eIOB eIOB (thr (inB x 0 ((S 4 0 : Nat) - 1)) (true) (true))) (fun r (_ : Unit) => thr (inB x 0 ((S 4 0 : Nat) - 1)) (true) (true) = 0 ∧ r = nI (S 25 (tn x))) (fun _ : Unit => wC a c (S) J) := by
  refine Xi.ofZ (lv0 := [(0, .ref (a 0)), (1, .int x)]) hl0 (by decide +kernel) rfl (Nat.le_of_ble_eq_true rfl) rfl (fun G KX hret => ?_)
  have K := KX.ok
  have hof := V_offers hV
  refine r_aload_n K dX6_isOpen_0 rfl ?_
  refine r_iload_n K dX6_isOpen_1 rfl ?_
  refine r_xcallVv (rest := []) KX (c_X6_needOffer l D a c S J hl0 hV x) (fun E h => px_1 h.1 h.2) 1 gX6_isOpen_X6_needOffer rfl (by decide +kernel) rfl (by decide) (by decide) 0 (wC_g0 _ _ _ _) rfl rfl (Nat.le_of_ble_eq_true rfl) dX6_isOpen_2 (fun _ hc1 => ?_)
  have h_x := hc1
  obtain ⟨xk, hxka, hxkb, rfl, hxkc⟩ := inB_ex (by decide) hc1
  refine r_aload_n K dX6_isOpen_5 rfl ?_
  refine r_get K hin_X6_isOpen_6 0 (wC_g0 _ _ _ _) rfl 3 (by decide) (List.mem_of_getElem? (i := 1) rfl) rfl dX6_isOpen_6 ?_
  refine r_get K hin_X6_isOpen_2 4 (wC_g4 _ _ _ _) rfl 4 (by decide) (List.mem_of_getElem? (i := 2) rfl) rfl dX6_isOpen_9 ?_
  refine r_iload_n K dX6_isOpen_12 rfl ?_
  refine r_zald K 25 1 (wC_g25 _ _ _ _) rfl (by omega) (by decide) dX6_isOpen_13 ?_
  have hf2 := V_b hV 25 xk
  have h25x := h25 xk
  exact hret 1 6 _ _ _ _ () dX6_isOpen_14 (by omega) ⟨thr_0 h_x rfl rfl, by rw [tn_nI hxkc]⟩ rfl (Nat.le_of_ble_eq_true rfl) (Nat.le_of_ble_eq_true rfl)

def rmX6_shuffled : Room := { frames := 7, cells := 3, slots := 18, locals := 112 }
theorem hin_X6_shuffled_6 : ∀ w ∈ wsX60, w ∈ wsX6_shuffled := fun _ h => List.mem_cons_of_mem _ (List.mem_append_left _ (List.mem_append_left _ (List.mem_append_left _ (List.mem_append_left _ (List.mem_append_right _ h)))))
theorem hin_X6_shuffled_3 : ∀ w ∈ wsX30, w ∈ wsX6_shuffled := fun _ h => List.mem_cons_of_mem _ (List.mem_append_left _ (List.mem_append_left _ (List.mem_append_left _ (List.mem_append_right _ h))))
theorem hin_X6_shuffled_0 : ∀ w ∈ wsX00, w ∈ wsX6_shuffled := fun _ h => List.mem_cons_of_mem _ (List.mem_append_left _ (List.mem_append_left _ (List.mem_append_right _ h)))
set_option maxHeartbeats 4000000 in
set_option maxRecDepth 100000 in
theorem c_X6_shuffled (l : Launch) (D : va_G) (a : Nat → Nat) (c : Nat → ClassId) (S J : St) (hl0 : l.stackTraces = false) (hV : V S)  (x : Int32) (y : Int32) (z : Int32) : Xi l yX6_shuffled wsX6_shuffled rmX6_shuffled D (tyW c) [.ref (a 0), .int x, .int y, .int z] (wC a c S J) (pxN eIOB eIAE eIAE (thr (inB x 0 ((S 3 0 : Nat) - 1) && inB z 0 ((S 19 (tn x) : Nat) - 1)) (sdB y) (true))) (fun r (J1 : St) => thr (inB x 0 ((S 3 0 : Nat) - 1) && inB z 0 ((S 19 (tn x) : Nat) - 1)) (sdB y) (true) = 0 ∧ r = nI (shuf S (tn x) (tn y) (tn z))) (fun J1 : St => wC a c (S) J1) := by
  refine Xi.of (lv0 := [(0, .ref (a 0)), (1, .int x), (2, .int y), (3, .int z)]) hl0 (by decide +kernel) rfl (Nat.le_of_ble_eq_true rfl) rfl (fun G KX hret => ?_)
  have K := KX.ok
  have hdk := V_decks hV
  refine r_aload_n K dX6_shuffled_0 rfl ?_
  refine r_iload_n K dX6_shuffled_1 rfl ?_
  refine r_xcallVv (rest := []) KX (c_X6_needDeck l D a c S J hl0 hV x) (fun E h => px_1 (and_f1 h.1) h.2) 1 gX6_shuffled_X6_needDeck rfl (by decide +kernel) rfl (by decide) (by decide) 0 (wC_g0 _ _ _ _) rfl rfl (Nat.le_of_ble_eq_true rfl) dX6_shuffled_2 (fun _ hc1 => ?_)
  have h_x := hc1
  obtain ⟨xk, hxka, hxkb, rfl, hxkc⟩ := inB_ex (by decide) hc1
  refine r_aload_n K dX6_shuffled_5 rfl ?_
  refine r_iload_n K dX6_shuffled_6 rfl ?_
  refine r_iload_n K dX6_shuffled_7 rfl ?_
  refine r_xcallVv (rest := []) KX (c_X6_needPlace l D a c S J hl0 hV xk (by omega) z) (fun E h => (by rw [tn_nI hxkc]; exact px_1 (and_f2 h.1) h.2)) 2 gX6_shuffled_X6_needPlace rfl (by decide +kernel) rfl (by decide) (by decide) 0 (wC_g0 _ _ _ _) rfl rfl (Nat.le_of_ble_eq_true rfl) dX6_shuffled_8 (fun _ hc2 => ?_)
  have h_z := hc2
  obtain ⟨zk, hzka, hzkb, rfl, hzkc⟩ := inB_ex (by decide) hc2
  refine r_iload_n K dX6_shuffled_11 rfl ?_
  refine r_xcallSv (rest := []) KX (c_X6_needSeed l D a c S J hl0 y) (fun E h => (by rw [tn_nI hxkc]; exact px_2 (and_t h_x h_z) h.1 h.2)) 1 gX6_shuffled_X6_needSeed rfl (by decide +kernel) rfl (by decide) (by decide) rfl (Nat.le_of_ble_eq_true rfl) dX6_shuffled_12 (fun _ hc3 => ?_)
  have h_y := hc3
  obtain ⟨yk, hykc, rfl⟩ := sdB_ex hc3
  refine r_aload_n K dX6_shuffled_15 rfl ?_
  refine r_get K hin_X6_shuffled_6 0 (wC_g0 _ _ _ _) rfl 4 (by decide) (List.mem_of_getElem? (i := 1) rfl) rfl dX6_shuffled_16 ?_
  refine r_aload_n K dX6_shuffled_19 rfl ?_
  refine r_get K hin_X6_shuffled_6 0 (wC_g0 _ _ _ _) rfl 2 (by decide) (List.mem_of_getElem? (i := 2) rfl) rfl dX6_shuffled_20 ?_
  refine r_iload_n K dX6_shuffled_23 rfl ?_
  refine r_iload_n K dX6_shuffled_24 rfl ?_
  refine r_callVv (rest := []) K (c_X3_shuffle_5 l D a c S J hV xk yk (by omega) (by omega) hykc) 3 gX6_shuffled_X3_shuffle rfl (by decide +kernel) rfl (by decide) 5 (wC_g5 _ _ _ _) rfl rfl (Nat.le_of_ble_eq_true rfl) dX6_shuffled_25 (fun J1 hp => ?_)
  obtain ⟨ho, hr⟩ := hp
  have hszx := V_size hV xk
  refine r_aload_n K dX6_shuffled_28 rfl ?_
  refine r_get K hin_X6_shuffled_6 0 (wC_g0 _ _ _ _) rfl 4 (by decide) (List.mem_of_getElem? (i := 1) rfl) rfl dX6_shuffled_29 ?_
  refine r_get K hin_X6_shuffled_3 5 (wC_g5 _ _ _ _) rfl 0 (by decide) (List.mem_of_getElem? (i := 3) rfl) rfl dX6_shuffled_32 ?_
  refine r_iload_n K dX6_shuffled_35 rfl ?_
  refine r_iald K 27 0 (wC_g27 _ _ _ _) rfl (by omega) (by decide) dX6_shuffled_36 ?_
  exact hret 3 18 _ _ _ _ J1 dX6_shuffled_37 ⟨(by rw [tn_nI hxkc]; exact thr_0 (and_t h_x h_z) h_y rfl), by rw [tn_nI hxkc, tn_nI hykc, tn_nI hzkc]; exact congrArg nI (hr zk (by omega))⟩ rfl (Nat.le_of_ble_eq_true rfl) (Nat.le_of_ble_eq_true rfl)

def rmX6_ring : Room := { frames := 10, cells := 1, slots := 6, locals := 322 }
theorem hin_X6_ring_6 : ∀ w ∈ wsX60, w ∈ wsX6_ring := fun _ h => List.mem_cons_of_mem _ (List.mem_append_left _ (List.mem_append_left _ (List.mem_append_right _ h)))
theorem hin_X6_ring_2 : ∀ w ∈ wsX20, w ∈ wsX6_ring := fun _ h => List.mem_cons_of_mem _ (List.mem_append_left _ (List.mem_append_right _ h))
theorem hat_X6_ring_IOB : ∀ w ∈ (vx_atS RX6 240 eIOB nmRE).filter goodWord, w ∈ wsX6_ring := fun _ h => List.mem_cons_of_mem _ (List.mem_append_right _ h)
set_option maxHeartbeats 4000000 in
set_option maxRecDepth 100000 in
theorem c_X6_ring (l : Launch) (D : va_G) (a : Nat → Nat) (c : Nat → ClassId) (S J : St) (hl0 : l.stackTraces = false) (hV : V S)  (x : Int32) : Xi l yX6_ring wsX6_ring rmX6_ring D (tyW c) [.ref (a 0), .int x] (wC a c S J) (pxN eIOB eIOB eIOB (thr (sdB x) (true) (true))) (fun r (J1 : St) => thr (sdB x) (true) (true) = 0 ∧ r = rgN S (tn x)) (fun J1 : St => wC a c (S) J1) := by
  refine Xi.of (lv0 := [(0, .ref (a 0)), (1, .int x)]) hl0 (by decide +kernel) rfl (Nat.le_of_ble_eq_true rfl) rfl (fun G KX hret => ?_)
  have K := KX.ok
  have hof := V_offers hV
  refine r_iload_n K dX6_ring_0 rfl ?_
  refine r_if_geR K 14 dX6_ring_1 (by decide) (fun h1 => ?_) (fun h1 => ?_)
  ·
    have h_x : sdB x = true := sdB_t (Int32.not_lt.mpr h1)
    obtain ⟨xk, hxkc, rfl⟩ := sdB_ex h_x
    refine r_iload_n K dX6_ring_14 rfl ?_
    refine r_aload_n K dX6_ring_15 rfl ?_
    refine r_get K hin_X6_ring_6 0 (wC_g0 _ _ _ _) rfl 3 (by decide) (List.mem_of_getElem? (i := 3) rfl) rfl dX6_ring_16 ?_
    refine r_callV (rest := [.int (nI xk)]) K (c_X2_findRing l D a c S J hV) 0 gX6_ring_X2_findRing rfl (by decide +kernel) rfl (by decide) 4 (wC_g4 _ _ _ _) rfl rfl (Nat.le_of_ble_eq_true rfl) dX6_ring_19 (fun r J1 hp => ?_)
    obtain ⟨hr, ho, hl1⟩ := hp
    subst hr
    have hag := agr_lst hl1
    have hgl := frl_bd S
    have hll := lstO_len (frl S)
    have hl4 := frl_len S
    refine r_ic_ge K 37 dX6_ring_22 (by decide) (by omega) (by omega) (fun h2 => ?_) (fun h2 => ?_)
    ·
      refine r_iconst K (-1) dX6_ring_37 (by decide) ?_
      exact hret 0 0 _ _ _ _ J1 dX6_ring_38 ⟨thr_0 h_x rfl rfl, by rw [tn_nI hxkc]; unfold rgN; rw [if_neg (by omega)]⟩ rfl (Nat.le_of_ble_eq_true rfl) (Nat.le_of_ble_eq_true rfl)
    ·
      refine r_aload_n K dX6_ring_25 rfl ?_
      refine r_get K hin_X6_ring_6 0 (wC_g0 _ _ _ _) rfl 3 (by decide) (List.mem_of_getElem? (i := 3) rfl) rfl dX6_ring_26 ?_
      refine r_get K hin_X6_ring_2 4 (wC_g4 _ _ _ _) rfl 5 (by decide) (List.mem_of_getElem? (i := 4) rfl) rfl dX6_ring_29 ?_
      refine r_iload_n K dX6_ring_32 rfl ?_
      refine r_iald K 26 0 (wC_g26 _ _ _ _) rfl (by omega) (by decide) dX6_ring_33 ?_
      refine r_top (congrArg nI (hag xk (by omega))) ?_
      have hg3 := hgl xk (by omega)
      refine r_goto K 38 dX6_ring_34 (by decide) ?_
      exact hret 0 0 _ _ _ _ J1 dX6_ring_38 ⟨thr_0 h_x rfl rfl, by rw [tn_nI hxkc]; unfold rgN; rw [if_pos (by omega)]⟩ rfl (Nat.le_of_ble_eq_true rfl) (Nat.le_of_ble_eq_true rfl)
  ·
    exact r_throw (cls := eIOB) (text := "no such place") KX (by decide +kernel) (List.mem_of_getElem? (i := 1) rfl) (List.mem_of_getElem? (i := 2) rfl) (by decide +kernel) hat_X6_ring_IOB hng_IOB hot_IOB dX6_ring_4 dX6_ring_7 dX6_ring_8 dX6_ring_10 dX6_ring_13 (by decide) (px_1 (sdB_f (Int32.not_le.mp h1)) rfl)

def rmX6_trade : Room := { frames := 10, cells := 0, slots := 0, locals := 322 }
theorem hin_X6_trade_6 : ∀ w ∈ wsX60, w ∈ wsX6_trade := fun _ h => List.mem_cons_of_mem _ (List.mem_append_left _ (List.mem_append_left _ (List.mem_append_right _ h)))
theorem hin_X6_trade_2 : ∀ w ∈ wsX20, w ∈ wsX6_trade := fun _ h => List.mem_cons_of_mem _ (List.mem_append_left _ (List.mem_append_right _ h))
theorem hin_X6_trade_4 : ∀ w ∈ wsX40, w ∈ wsX6_trade := fun _ h => List.mem_cons_of_mem _ (List.mem_append_right _ h)
set_option maxHeartbeats 4000000 in
set_option maxRecDepth 100000 in
theorem c_X6_trade (l : Launch) (D : va_G) (a : Nat → Nat) (c : Nat → ClassId) (S J : St) (hV : V S) : Ci l yX6_trade wsX6_trade rmX6_trade D (tyW c) [.ref (a 0)] (wC a c S J) (fun r (J1 : St) => r = nI (lenO (frl S))) (fun J1 => wC a c (trC S (lstO (frl S)) (lenO (frl S))) J1) := by
  refine Ci.of (lv0 := [(0, .ref (a 0))]) (by decide +kernel) rfl (Nat.le_of_ble_eq_true rfl) rfl (fun G K hret => ?_)
  have hof := V_offers hV
  refine r_aload_n K dX6_trade_0 rfl ?_
  refine r_get K hin_X6_trade_6 0 (wC_g0 _ _ _ _) rfl 3 (by decide) (List.mem_of_getElem? (i := 1) rfl) rfl dX6_trade_1 ?_
  refine r_callV (rest := []) K (c_X2_findRing l D a c S J hV) 0 gX6_trade_X2_findRing rfl (by decide +kernel) rfl (by decide) 4 (wC_g4 _ _ _ _) rfl rfl (Nat.le_of_ble_eq_true rfl) dX6_trade_4 (fun r J1 hp => ?_)
  obtain ⟨hr, ho, hl1⟩ := hp
  subst hr
  have hag := agr_lst hl1
  have hgl := frl_bd S
  have hll := lstO_len (frl S)
  have hl4 := frl_len S
  refine r_istore_n (lv' := [(0, .ref (a 0)), (1, .int (nI (lenO (frl S))))]) K dX6_trade_7 (by decide) rfl ?_
  refine r_iconst K (nI 0) dX6_trade_8 (by decide) ?_
  refine r_istore_n (lv' := [(0, .ref (a 0)), (1, .int (nI (lenO (frl S)))), (2, .int (nI 0))]) K dX6_trade_9 (by decide) rfl ?_
  have L1 : ∀ (z : Nat) (i : Nat) (Sx : St), lenO (frl S) < i + z → (i ≤ lenO (frl S)) → (Sx = trC S (lstO (frl S)) i) → (Sx 21 = S 21) → (Sx 24 = S 24) → G 0 0 (wC a c Sx J1) [(0, .ref (a 0)), (1, .int (nI (lenO (frl S)))), (2, .int (nI i))] 10 [] := by
    intro z
    induction z with
    | zero => intro i Sx hz hi hS h21 h24; exact absurd hz (by omega)
    | succ z ih =>
      intro i Sx hz hi hS h21 h24
      refine r_iload_n K dX6_trade_10 rfl ?_
      refine r_iload_n K dX6_trade_11 rfl ?_
      refine r_ic_ge K 92 dX6_trade_12 (by decide) (by omega) (by omega) (fun h2 => ?_) (fun h2 => ?_)
      ·
        refine r_iload_n K dX6_trade_92 rfl ?_
        exact hret 0 0 _ _ _ _ J1 dX6_trade_93 rfl (by rw [hS, show i = lenO (frl S) by omega]) (Nat.le_of_ble_eq_true rfl) (Nat.le_of_ble_eq_true rfl)
      ·
        refine r_aload_n K dX6_trade_15 rfl ?_
        refine r_get K hin_X6_trade_6 0 (wC_g0 _ _ _ _) rfl 3 (by decide) (List.mem_of_getElem? (i := 1) rfl) rfl dX6_trade_16 ?_
        refine r_get K hin_X6_trade_2 4 (wC_g4 _ _ _ _) rfl 5 (by decide) (List.mem_of_getElem? (i := 2) rfl) rfl dX6_trade_19 ?_
        refine r_iload_n K dX6_trade_22 rfl ?_
        refine r_iald K 26 0 (wC_g26 _ _ _ _) rfl (by omega) (by decide) dX6_trade_23 ?_
        refine r_top (congrArg nI (hag i (by omega))) ?_
        have hg3 := hgl i (by omega)
        refine r_istore_n (lv' := [(0, .ref (a 0)), (1, .int (nI (lenO (frl S)))), (2, .int (nI i)), (3, .int (nI (g0 (lstO (frl S)) i)))]) K dX6_trade_24 (by decide) rfl ?_
        refine r_aload_n K dX6_trade_25 rfl ?_
        refine r_get K hin_X6_trade_6 0 (wC_g0 _ _ _ _) rfl 3 (by decide) (List.mem_of_getElem? (i := 1) rfl) rfl dX6_trade_26 ?_
        refine r_get K hin_X6_trade_2 4 (wC_g4 _ _ _ _) rfl 5 (by decide) (List.mem_of_getElem? (i := 2) rfl) rfl dX6_trade_29 ?_
        refine r_iload_n K dX6_trade_32 rfl ?_
        refine r_iconst K (nI 1) dX6_trade_33 (by decide) ?_
        refine r_iadd K dX6_trade_34 ?_
        refine r_iload_n K dX6_trade_35 rfl ?_
        refine r_ic_ge K 45 dX6_trade_36 (by decide) (by omega) (by omega) (fun h4 => ?_) (fun h4 => ?_)
        ·
          refine r_iconst K (nI 0) dX6_trade_45 (by decide) ?_
          refine r_iald K 26 0 (wC_g26 _ _ _ _) rfl (by omega) (by decide) dX6_trade_46 ?_
          refine r_top (congrArg nI (hag 0 (by omega))) ?_
          have hg5 := hgl 0 (by omega)
          refine r_istore (lv' := [(0, .ref (a 0)), (1, .int (nI (lenO (frl S)))), (2, .int (nI i)), (3, .int (nI (g0 (lstO (frl S)) i))), (4, .int (nI (g0 (lstO (frl S)) 0)))]) K dX6_trade_47 (by decide) rfl ?_
          refine r_aload_n K dX6_trade_49 rfl ?_
          refine r_get K hin_X6_trade_6 0 (wC_g0 _ _ _ _) rfl 1 (by decide) (List.mem_of_getElem? (i := 3) rfl) rfl dX6_trade_50 ?_
          refine r_get K hin_X6_trade_4 2 (wC_g2 _ _ _ _) rfl 2 (by decide) (List.mem_of_getElem? (i := 4) rfl) rfl dX6_trade_53 ?_
          refine r_aload_n K dX6_trade_56 rfl ?_
          refine r_get K hin_X6_trade_6 0 (wC_g0 _ _ _ _) rfl 3 (by decide) (List.mem_of_getElem? (i := 1) rfl) rfl dX6_trade_57 ?_
          refine r_get K hin_X6_trade_2 4 (wC_g4 _ _ _ _) rfl 0 (by decide) (List.mem_of_getElem? (i := 5) rfl) rfl dX6_trade_60 ?_
          refine r_iload_n K dX6_trade_63 rfl ?_
          refine r_iald K 21 0 (wC_g21 _ _ _ _) rfl (by omega) (by decide) dX6_trade_64 ?_
          refine r_top (congrArg nI (congrFun h21 _)) ?_
          have hf6 := V_ocard hV (g0 (lstO (frl S)) i)
          refine r_aload_n K dX6_trade_65 rfl ?_
          refine r_get K hin_X6_trade_6 0 (wC_g0 _ _ _ _) rfl 3 (by decide) (List.mem_of_getElem? (i := 1) rfl) rfl dX6_trade_66 ?_
          refine r_get K hin_X6_trade_2 4 (wC_g4 _ _ _ _) rfl 3 (by decide) (List.mem_of_getElem? (i := 6) rfl) rfl dX6_trade_69 ?_
          refine r_iload K dX6_trade_72 rfl ?_
          refine r_iald K 24 0 (wC_g24 _ _ _ _) rfl (by omega) (by decide) dX6_trade_74 ?_
          refine r_top (congrArg nI (congrFun h24 _)) ?_
          have hf7 := V_b hV 24 (g0 (lstO (frl S)) 0)
          refine r_iast K 17 0 (wC_g17 _ _ _ _) rfl (by omega) (by decide) dX6_trade_75 (wC_s17 _ _ _ _ _ _) ?_
          refine r_aload_n K dX6_trade_76 rfl ?_
          refine r_get K hin_X6_trade_6 0 (wC_g0 _ _ _ _) rfl 3 (by decide) (List.mem_of_getElem? (i := 1) rfl) rfl dX6_trade_77 ?_
          refine r_get K hin_X6_trade_2 4 (wC_g4 _ _ _ _) rfl 4 (by decide) (List.mem_of_getElem? (i := 7) rfl) rfl dX6_trade_80 ?_
          refine r_iload_n K dX6_trade_83 rfl ?_
          refine r_iconst K (nI 0) dX6_trade_84 (by decide) ?_
          refine r_zast K 25 1 (wC_g25 _ _ _ _) rfl (by omega) (by decide) (by decide) dX6_trade_85 (wC_s25 _ _ _ _ _ _) ?_
          refine r_iinc (lv' := [(0, .ref (a 0)), (1, .int (nI (lenO (frl S)))), (2, .int (nI (i + 1))), (3, .int (nI (g0 (lstO (frl S)) i))), (4, .int (nI (g0 (lstO (frl S)) 0)))]) K dX6_trade_86 rfl (nI_1 _) (by decide) rfl ?_
          refine r_goto K 10 dX6_trade_89 (by decide) ?_
          refine r_pick [0, 1, 2] K rfl ?_
          exact ih (i + 1) _ (by omega) (by omega) (by rw [trC_s, ← hS, (show nxp (lstO (frl S)) i = 0 from if_neg (by omega))]) ((up_ne (by decide)).trans ((up_ne (by decide)).trans h21)) ((up_ne (by decide)).trans ((up_ne (by decide)).trans h24))
        ·
          refine r_iload_n K dX6_trade_39 rfl ?_
          refine r_iconst K (nI 1) dX6_trade_40 (by decide) ?_
          refine r_iadd K dX6_trade_41 ?_
          refine r_goto K 46 dX6_trade_42 (by decide) ?_
          refine r_iald K 26 0 (wC_g26 _ _ _ _) rfl (by omega) (by decide) dX6_trade_46 ?_
          refine r_top (congrArg nI (hag (i + 1) (by omega))) ?_
          have hg8 := hgl (i + 1) (by omega)
          refine r_istore (lv' := [(0, .ref (a 0)), (1, .int (nI (lenO (frl S)))), (2, .int (nI i)), (3, .int (nI (g0 (lstO (frl S)) i))), (4, .int (nI (g0 (lstO (frl S)) (i + 1))))]) K dX6_trade_47 (by decide) rfl ?_
          refine r_aload_n K dX6_trade_49 rfl ?_
          refine r_get K hin_X6_trade_6 0 (wC_g0 _ _ _ _) rfl 1 (by decide) (List.mem_of_getElem? (i := 3) rfl) rfl dX6_trade_50 ?_
          refine r_get K hin_X6_trade_4 2 (wC_g2 _ _ _ _) rfl 2 (by decide) (List.mem_of_getElem? (i := 4) rfl) rfl dX6_trade_53 ?_
          refine r_aload_n K dX6_trade_56 rfl ?_
          refine r_get K hin_X6_trade_6 0 (wC_g0 _ _ _ _) rfl 3 (by decide) (List.mem_of_getElem? (i := 1) rfl) rfl dX6_trade_57 ?_
          refine r_get K hin_X6_trade_2 4 (wC_g4 _ _ _ _) rfl 0 (by decide) (List.mem_of_getElem? (i := 5) rfl) rfl dX6_trade_60 ?_
          refine r_iload_n K dX6_trade_63 rfl ?_
          refine r_iald K 21 0 (wC_g21 _ _ _ _) rfl (by omega) (by decide) dX6_trade_64 ?_
          refine r_top (congrArg nI (congrFun h21 _)) ?_
          have hf9 := V_ocard hV (g0 (lstO (frl S)) i)
          refine r_aload_n K dX6_trade_65 rfl ?_
          refine r_get K hin_X6_trade_6 0 (wC_g0 _ _ _ _) rfl 3 (by decide) (List.mem_of_getElem? (i := 1) rfl) rfl dX6_trade_66 ?_
          refine r_get K hin_X6_trade_2 4 (wC_g4 _ _ _ _) rfl 3 (by decide) (List.mem_of_getElem? (i := 6) rfl) rfl dX6_trade_69 ?_
          refine r_iload K dX6_trade_72 rfl ?_
          refine r_iald K 24 0 (wC_g24 _ _ _ _) rfl (by omega) (by decide) dX6_trade_74 ?_
          refine r_top (congrArg nI (congrFun h24 _)) ?_
          have hf10 := V_b hV 24 (g0 (lstO (frl S)) (i + 1))
          refine r_iast K 17 0 (wC_g17 _ _ _ _) rfl (by omega) (by decide) dX6_trade_75 (wC_s17 _ _ _ _ _ _) ?_
          refine r_aload_n K dX6_trade_76 rfl ?_
          refine r_get K hin_X6_trade_6 0 (wC_g0 _ _ _ _) rfl 3 (by decide) (List.mem_of_getElem? (i := 1) rfl) rfl dX6_trade_77 ?_
          refine r_get K hin_X6_trade_2 4 (wC_g4 _ _ _ _) rfl 4 (by decide) (List.mem_of_getElem? (i := 7) rfl) rfl dX6_trade_80 ?_
          refine r_iload_n K dX6_trade_83 rfl ?_
          refine r_iconst K (nI 0) dX6_trade_84 (by decide) ?_
          refine r_zast K 25 1 (wC_g25 _ _ _ _) rfl (by omega) (by decide) (by decide) dX6_trade_85 (wC_s25 _ _ _ _ _ _) ?_
          refine r_iinc (lv' := [(0, .ref (a 0)), (1, .int (nI (lenO (frl S)))), (2, .int (nI (i + 1))), (3, .int (nI (g0 (lstO (frl S)) i))), (4, .int (nI (g0 (lstO (frl S)) (i + 1))))]) K dX6_trade_86 rfl (nI_1 _) (by decide) rfl ?_
          refine r_goto K 10 dX6_trade_89 (by decide) ?_
          refine r_pick [0, 1, 2] K rfl ?_
          exact ih (i + 1) _ (by omega) (by omega) (by rw [trC_s, ← hS, (show nxp (lstO (frl S)) i = i + 1 from if_pos (by omega))]) ((up_ne (by decide)).trans ((up_ne (by decide)).trans h21)) ((up_ne (by decide)).trans ((up_ne (by decide)).trans h24))
  exact L1 (lenO (frl S) + 1) 0 S (by omega) (by omega) rfl rfl rfl
