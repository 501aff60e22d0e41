def rmX6_needAllowed : Room := { frames := 6, cells := 1, slots := 6, locals := 90 }
theorem hin_X6_needAllowed_6 : ∀ w ∈ wsX60, w ∈ wsX6_needAllowed := fun _ h => List.mem_cons_of_mem _ (List.mem_append_left _ (List.mem_append_left _ (List.mem_append_left _ (List.mem_append_left _ (List.mem_append_right _ h)))))
theorem hin_X6_needAllowed_0 : ∀ w ∈ wsX00, w ∈ wsX6_needAllowed := fun _ h => List.mem_cons_of_mem _ (List.mem_append_left _ (List.mem_append_left _ (List.mem_append_left _ (List.mem_append_right _ h))))
theorem hin_X6_needAllowed_4 : ∀ w ∈ wsX40, w ∈ wsX6_needAllowed := fun _ h => List.mem_cons_of_mem _ (List.mem_append_left _ (List.mem_append_left _ (List.mem_append_right _ h)))
theorem hin_X6_needAllowed_1 : ∀ w ∈ wsX10, w ∈ wsX6_needAllowed := fun _ h => List.mem_cons_of_mem _ (List.mem_append_left _ (List.mem_append_right _ h))
theorem hat_X6_needAllowed_ISE : ∀ w ∈ (vx_atS RX6 94 eISE nmRE).filter goodWord, w ∈ wsX6_needAllowed := fun _ h => List.mem_cons_of_mem _ (List.mem_append_right _ h)
set_option maxHeartbeats 4000000 in
set_option maxRecDepth 100000 in
theorem c_X6_needAllowed (l : Launch) (D : va_G) (a : Nat → Nat) (c : Nat → ClassId) (S J : St) (hl0 : l.stackTraces = false) (hV : V S) (d : Nat) (hd : d < 12) : Xv l yX6_needAllowed wsX6_needAllowed rmX6_needAllowed D (tyW c) [.ref (a 0), .int (nI d)] (wC a c S J) (pxB (alw S d) eISE) (fun _ : Unit => alw S d = true) (fun _ : Unit => wC a c S J) := by
  refine Xv.of (lv0 := [(0, .ref (a 0)), (1, .int (nI d))]) hl0 (by decide +kernel) rfl (Nat.le_of_ble_eq_true rfl) rfl (fun G KX hret => ?_)
  have K := KX.ok
  refine r_aload_n K dX6_needAllowed_0 rfl ?_
  refine r_get K hin_X6_needAllowed_6 0 (wC_g0 _ _ _ _) rfl 2 (by decide) (List.mem_of_getElem? (i := 3) rfl) rfl dX6_needAllowed_1 ?_
  refine r_iload_n K dX6_needAllowed_4 rfl ?_
  refine r_aload_n K dX6_needAllowed_5 rfl ?_
  refine r_get K hin_X6_needAllowed_6 0 (wC_g0 _ _ _ _) rfl 0 (by decide) (List.mem_of_getElem? (i := 4) rfl) rfl dX6_needAllowed_6 ?_
  refine r_aload_n K dX6_needAllowed_9 rfl ?_
  refine r_get K hin_X6_needAllowed_6 0 (wC_g0 _ _ _ _) rfl 1 (by decide) (List.mem_of_getElem? (i := 5) rfl) rfl dX6_needAllowed_10 ?_
  refine r_callVs (rest := []) K (c_X0_fitsFormat l D a c S J hV d (by omega)) 3 gX6_needAllowed_X0_fitsFormat rfl (by decide +kernel) rfl (by decide) 3 (wC_g3 _ _ _ _) rfl rfl (Nat.le_of_ble_eq_true rfl) dX6_needAllowed_13 rfl rfl ?_
  refine r_if_neB K 30 dX6_needAllowed_16 (by decide) (fun h1 => ?_) (fun h1 => ?_)
  ·
    exact hret 0 0 _ _ _ () dX6_needAllowed_30 h1 rfl (Nat.le_of_ble_eq_true rfl) (Nat.le_of_ble_eq_true rfl)
  ·
    exact r_throwW (cls := eISE) (text := "the deck is not allowed") KX (by decide +kernel) (List.mem_of_getElem? (i := 1) rfl) (List.mem_of_getElem? (i := 2) rfl) (by decide +kernel) hat_X6_needAllowed_ISE hng_ISE hot_ISE dX6_needAllowed_19 dX6_needAllowed_22 dX6_needAllowed_23 dX6_needAllowed_26 dX6_needAllowed_29 (by decide) ⟨h1, rfl⟩

def rmX6_setKind : Room := { frames := 7, cells := 3, slots := 18, locals := 112 }
theorem hin_X6_setKind_6 : ∀ w ∈ wsX60, w ∈ wsX6_setKind := fun _ h => List.mem_cons_of_mem _ (List.mem_append_left _ (List.mem_append_left _ (List.mem_append_left _ (List.mem_append_right _ h))))
theorem hin_X6_setKind_1 : ∀ w ∈ wsX10, w ∈ wsX6_setKind := fun _ h => List.mem_cons_of_mem _ (List.mem_append_left _ (List.mem_append_left _ (List.mem_append_right _ h)))
set_option maxHeartbeats 4000000 in
set_option maxRecDepth 100000 in
theorem c_X6_setKind (l : Launch) (D : va_G) (a : Nat → Nat) (c : Nat → ClassId) (S J : St) (hl0 : l.stackTraces = false) (hV : V S)  (x : Int32) (y : Int32) (z : Int32) : Xi l yX6_setKind wsX6_setKind rmX6_setKind D (tyW c) [.ref (a 0), .int x, .int y, .int z] (wC a c S J) (pxN eIOB eIAE eIAE (thr (inB x 0 15) (inB y 0 9 && inB z 0 3) (true))) (fun r (_ : Unit) => thr (inB x 0 15) (inB y 0 9 && inB z 0 3) (true) = 0 ∧ r = nI (S 10 (tn x))) (fun _ : Unit => wC a c (up (up S 10 (tn x) (tn y)) 11 (tn x) (tn z)) J) := by
  refine Xi.of (lv0 := [(0, .ref (a 0)), (1, .int x), (2, .int y), (3, .int z)]) hl0 (by decide +kernel) rfl (Nat.le_of_ble_eq_true rfl) rfl (fun G KX hret => ?_)
  have K := KX.ok
  refine r_iload_n K dX6_setKind_0 rfl ?_
  refine r_xcallSv (rest := []) KX (c_X6_needKind l D a c S J hl0 x) (fun E h => px_1 h.1 h.2) 1 gX6_setKind_X6_needKind rfl (by decide +kernel) rfl (by decide) (by decide) rfl (Nat.le_of_ble_eq_true rfl) dX6_setKind_1 (fun _ hc1 => ?_)
  have h_x := hc1
  obtain ⟨xk, hxka, hxkb, rfl, hxkc⟩ := inB_ex (by decide) hc1
  refine r_iload_n K dX6_setKind_4 rfl ?_
  refine r_iconst K (nI 0) dX6_setKind_5 (by decide) ?_
  refine r_bipush K (nI 9) dX6_setKind_6 (by decide) ?_
  refine r_xcallSv (rest := []) KX (c_X6_needRange l D a c S J hl0 y 0 9 (by decide) (by decide)) (fun E h => px_2 h_x (and_f1 h.1) h.2) 3 gX6_setKind_X6_needRange rfl (by decide +kernel) rfl (by decide) (by decide) rfl (Nat.le_of_ble_eq_true rfl) dX6_setKind_8 (fun _ hc2 => ?_)
  have h_y := hc2
  obtain ⟨yk, hyka, hykb, rfl, hykc⟩ := inB_ex (by decide) hc2
  refine r_iload_n K dX6_setKind_11 rfl ?_
  refine r_iconst K (nI 0) dX6_setKind_12 (by decide) ?_
  refine r_iconst K (nI 3) dX6_setKind_13 (by decide) ?_
  refine r_xcallSv (rest := []) KX (c_X6_needRange l D a c S J hl0 z 0 3 (by decide) (by decide)) (fun E h => px_2 h_x (and_f2 h.1) h.2) 3 gX6_setKind_X6_needRange rfl (by decide +kernel) rfl (by decide) (by decide) rfl (Nat.le_of_ble_eq_true rfl) dX6_setKind_14 (fun _ hc3 => ?_)
  have h_z := hc3
  obtain ⟨zk, hzka, hzkb, rfl, hzkc⟩ := inB_ex (by decide) hc3
  refine r_aload_n K dX6_setKind_17 rfl ?_
  refine r_get K hin_X6_setKind_6 0 (wC_g0 _ _ _ _) rfl 0 (by decide) (List.mem_of_getElem? (i := 1) rfl) rfl dX6_setKind_18 ?_
  refine r_get K hin_X6_setKind_1 1 (wC_g1 _ _ _ _) rfl 0 (by decide) (List.mem_of_getElem? (i := 2) rfl) rfl dX6_setKind_21 ?_
  refine r_iload_n K dX6_setKind_24 rfl ?_
  refine r_iald K 10 0 (wC_g10 _ _ _ _) rfl (by omega) (by decide) dX6_setKind_25 ?_
  have hf4 := V_b hV 10 xk
  refine r_istore (lv' := [(0, .ref (a 0)), (1, .int (nI xk)), (2, .int (nI yk)), (3, .int (nI zk)), (4, .int (nI (S 10 xk)))]) K dX6_setKind_26 (by decide) rfl ?_
  refine r_aload_n K dX6_setKind_28 rfl ?_
  refine r_get K hin_X6_setKind_6 0 (wC_g0 _ _ _ _) rfl 0 (by decide) (List.mem_of_getElem? (i := 1) rfl) rfl dX6_setKind_29 ?_
  refine r_get K hin_X6_setKind_1 1 (wC_g1 _ _ _ _) rfl 0 (by decide) (List.mem_of_getElem? (i := 2) rfl) rfl dX6_setKind_32 ?_
  refine r_iload_n K dX6_setKind_35 rfl ?_
  refine r_iload_n K dX6_setKind_36 rfl ?_
  refine r_iast K 10 0 (wC_g10 _ _ _ _) rfl (by omega) (by decide) dX6_setKind_37 (wC_s10 _ _ _ _ _ _) ?_
  refine r_aload_n K dX6_setKind_38 rfl ?_
  refine r_get K hin_X6_setKind_6 0 (wC_g0 _ _ _ _) rfl 0 (by decide) (List.mem_of_getElem? (i := 1) rfl) rfl dX6_setKind_39 ?_
  refine r_get K hin_X6_setKind_1 1 (wC_g1 _ _ _ _) rfl 1 (by decide) (List.mem_of_getElem? (i := 3) rfl) rfl dX6_setKind_42 ?_
  refine r_iload_n K dX6_setKind_45 rfl ?_
  refine r_iload_n K dX6_setKind_46 rfl ?_
  refine r_iast K 11 0 (wC_g11 _ _ _ _) rfl (by omega) (by decide) dX6_setKind_47 (wC_s11 _ _ _ _ _ _) ?_
  refine r_iload K dX6_setKind_48 rfl ?_
  exact hret 3 18 _ _ _ _ () dX6_setKind_50 ⟨thr_0 h_x (and_t h_y h_z) rfl, by rw [tn_nI hxkc]⟩ (by rw [tn_nI hxkc, tn_nI hykc, tn_nI hzkc]) (Nat.le_of_ble_eq_true rfl) (Nat.le_of_ble_eq_true rfl)

def rmX6_setFormat : Room := { frames := 7, cells := 2, slots := 12, locals := 112 }
theorem hin_X6_setFormat_6 : ∀ w ∈ wsX60, w ∈ wsX6_setFormat := fun _ h => List.mem_cons_of_mem _ (List.mem_append_left _ (List.mem_append_left _ (List.mem_append_left _ (List.mem_append_left _ (List.mem_append_right _ h)))))
theorem hin_X6_setFormat_0 : ∀ w ∈ wsX00, w ∈ wsX6_setFormat := fun _ h => List.mem_cons_of_mem _ (List.mem_append_left _ (List.mem_append_left _ (List.mem_append_left _ (List.mem_append_right _ h))))
theorem hin_X6_setFormat_4 : ∀ w ∈ wsX40, w ∈ wsX6_setFormat := fun _ h => List.mem_cons_of_mem _ (List.mem_append_left _ (List.mem_append_left _ (List.mem_append_right _ h)))
theorem hin_X6_setFormat_1 : ∀ w ∈ wsX10, w ∈ wsX6_setFormat := fun _ h => List.mem_cons_of_mem _ (List.mem_append_left _ (List.mem_append_right _ h))
set_option maxHeartbeats 4000000 in
set_option maxRecDepth 100000 in
theorem c_X6_setFormat (l : Launch) (D : va_G) (a : Nat → Nat) (c : Nat → ClassId) (S J : St) (hl0 : l.stackTraces = false) (hV : V S)  (x : Int32) (y : Int32) : Xi l yX6_setFormat wsX6_setFormat rmX6_setFormat D (tyW c) [.ref (a 0), .int x, .int y] (wC a c S J) (pxN eIAE eIAE eIAE (thr (inB x 4 10 && inB y 1 4) (true) (true))) (fun r (_ : Unit) => thr (inB x 4 10 && inB y 1 4) (true) (true) = 0 ∧ r = nI (nAlw (up (up S 3 1 (tn x)) 3 2 (tn y)))) (fun _ : Unit => wC a c (up (up S 3 1 (tn x)) 3 2 (tn y)) J) := by
  refine Xi.of (lv0 := [(0, .ref (a 0)), (1, .int x), (2, .int y)]) hl0 (by decide +kernel) rfl (Nat.le_of_ble_eq_true rfl) rfl (fun G KX hret => ?_)
  have K := KX.ok
  refine r_iload_n K dX6_setFormat_0 rfl ?_
  refine r_iconst K (nI 4) dX6_setFormat_1 (by decide) ?_
  refine r_bipush K (nI 10) dX6_setFormat_2 (by decide) ?_
  refine r_xcallSv (rest := []) KX (c_X6_needRange l D a c S J hl0 x 4 10 (by decide) (by decide)) (fun E h => px_1 (and_f1 h.1) h.2) 3 gX6_setFormat_X6_needRange rfl (by decide +kernel) rfl (by decide) (by decide) rfl (Nat.le_of_ble_eq_true rfl) dX6_setFormat_4 (fun _ hc1 => ?_)
  have h_x := hc1
  obtain ⟨xk, hxka, hxkb, rfl, hxkc⟩ := inB_ex (by decide) hc1
  refine r_iload_n K dX6_setFormat_7 rfl ?_
  refine r_iconst K (nI 1) dX6_setFormat_8 (by decide) ?_
  refine r_iconst K (nI 4) dX6_setFormat_9 (by decide) ?_
  refine r_xcallSv (rest := []) KX (c_X6_needRange l D a c S J hl0 y 1 4 (by decide) (by decide)) (fun E h => px_1 (and_f2 h.1) h.2) 3 gX6_setFormat_X6_needRange rfl (by decide +kernel) rfl (by decide) (by decide) rfl (Nat.le_of_ble_eq_true rfl) dX6_setFormat_10 (fun _ hc2 => ?_)
  have h_y := hc2
  obtain ⟨yk, hyka, hykb, rfl, hykc⟩ := inB_ex (by decide) hc2
  refine r_aload_n K dX6_setFormat_13 rfl ?_
  refine r_get K hin_X6_setFormat_6 0 (wC_g0 _ _ _ _) rfl 2 (by decide) (List.mem_of_getElem? (i := 1) rfl) rfl dX6_setFormat_14 ?_
  refine r_iload_n K dX6_setFormat_17 rfl ?_
  refine r_put K hin_X6_setFormat_0 tyX0 tyX0_ok nmX0 3 (wC_g3 _ _ _ _) rfl 4 (by decide) (List.mem_of_getElem? (i := 2) rfl) rfl rfl rfl (Nat.le_of_ble_eq_true rfl) dX6_setFormat_18 (wC_s3_4 _ _ _ _ _) ?_
  refine r_aload_n K dX6_setFormat_21 rfl ?_
  refine r_get K hin_X6_setFormat_6 0 (wC_g0 _ _ _ _) rfl 2 (by decide) (List.mem_of_getElem? (i := 1) rfl) rfl dX6_setFormat_22 ?_
  refine r_iload_n K dX6_setFormat_25 rfl ?_
  refine r_put K hin_X6_setFormat_0 tyX0 tyX0_ok nmX0 3 (wC_g3 _ _ _ _) rfl 5 (by decide) (List.mem_of_getElem? (i := 3) rfl) rfl rfl rfl (Nat.le_of_ble_eq_true rfl) dX6_setFormat_26 (wC_s3_5 _ _ _ _ _) ?_
  refine r_aload_n K dX6_setFormat_29 rfl ?_
  refine r_get K hin_X6_setFormat_6 0 (wC_g0 _ _ _ _) rfl 2 (by decide) (List.mem_of_getElem? (i := 1) rfl) rfl dX6_setFormat_30 ?_
  refine r_aload_n K dX6_setFormat_33 rfl ?_
  refine r_get K hin_X6_setFormat_6 0 (wC_g0 _ _ _ _) rfl 0 (by decide) (List.mem_of_getElem? (i := 4) rfl) rfl dX6_setFormat_34 ?_
  refine r_aload_n K dX6_setFormat_37 rfl ?_
  refine r_get K hin_X6_setFormat_6 0 (wC_g0 _ _ _ _) rfl 1 (by decide) (List.mem_of_getElem? (i := 5) rfl) rfl dX6_setFormat_38 ?_
  refine r_callVs (rest := []) K (c_X0_countFitting l D a c (up (up S 3 1 xk) 3 2 yk) J (V_fmt hV (by omega) (by omega) (by omega))) 2 gX6_setFormat_X0_countFitting rfl (by decide +kernel) rfl (by decide) 3 (wC_g3 _ _ _ _) rfl rfl (Nat.le_of_ble_eq_true rfl) dX6_setFormat_41 rfl rfl ?_
  exact hret 2 12 _ _ _ _ () dX6_setFormat_44 ⟨thr_0 (and_t h_x h_y) rfl rfl, by rw [tn_nI hxkc, tn_nI hykc]⟩ (by rw [tn_nI hxkc, tn_nI hykc]) (Nat.le_of_ble_eq_true rfl) (Nat.le_of_ble_eq_true rfl)

def rmX6_ban : Room := { frames := 7, cells := 1, slots := 6, locals := 110 }
theorem hin_X6_ban_6 : ∀ w ∈ wsX60, w ∈ wsX6_ban := fun _ h => List.mem_cons_of_mem _ (List.mem_append_left _ (List.mem_append_left _ (List.mem_append_left _ (List.mem_append_left _ (List.mem_append_right _ h)))))
theorem hin_X6_ban_1 : ∀ w ∈ wsX10, w ∈ wsX6_ban := fun _ h => List.mem_cons_of_mem _ (List.mem_append_left _ (List.mem_append_left _ (List.mem_append_left _ (List.mem_append_right _ h))))
theorem hin_X6_ban_0 : ∀ w ∈ wsX00, w ∈ wsX6_ban := fun _ h => List.mem_cons_of_mem _ (List.mem_append_left _ (List.mem_append_left _ (List.mem_append_right _ h)))
theorem hin_X6_ban_4 : ∀ w ∈ wsX40, w ∈ wsX6_ban := fun _ h => List.mem_cons_of_mem _ (List.mem_append_left _ (List.mem_append_right _ h))
set_option maxHeartbeats 4000000 in
set_option maxRecDepth 100000 in
theorem c_X6_ban (l : Launch) (D : va_G) (a : Nat → Nat) (c : Nat → ClassId) (S J : St) (hl0 : l.stackTraces = false) (hV : V S)  (x : Int32) (z : Bool) : Xi l yX6_ban wsX6_ban rmX6_ban D (tyW c) [.ref (a 0), .int x, .int (nI ((z).toNat))] (wC a c S J) (pxN eIOB eIOB eIOB (thr (inB x 0 15) (true) (true))) (fun r (_ : Unit) => thr (inB x 0 15) (true) (true) = 0 ∧ r = nI (nAlw (up S 12 (tn x) z.toNat))) (fun _ : Unit => wC a c (up S 12 (tn x) z.toNat) J) := by
  refine Xi.of (lv0 := [(0, .ref (a 0)), (1, .int x), (2, .int (nI ((z).toNat)))]) hl0 (by decide +kernel) rfl (Nat.le_of_ble_eq_true rfl) rfl (fun G KX hret => ?_)
  have K := KX.ok
  have hz2 := toNat_lt2 z
  refine r_iload_n K dX6_ban_0 rfl ?_
  refine r_xcallSv (rest := []) KX (c_X6_needKind l D a c S J hl0 x) (fun E h => px_1 h.1 h.2) 1 gX6_ban_X6_needKind rfl (by decide +kernel) rfl (by decide) (by decide) rfl (Nat.le_of_ble_eq_true rfl) dX6_ban_1 (fun _ hc1 => ?_)
  have h_x := hc1
  obtain ⟨xk, hxka, hxkb, rfl, hxkc⟩ := inB_ex (by decide) hc1
  refine r_aload_n K dX6_ban_4 rfl ?_
  refine r_get K hin_X6_ban_6 0 (wC_g0 _ _ _ _) rfl 0 (by decide) (List.mem_of_getElem? (i := 1) rfl) rfl dX6_ban_5 ?_
  refine r_get K hin_X6_ban_1 1 (wC_g1 _ _ _ _) rfl 2 (by decide) (List.mem_of_getElem? (i := 2) rfl) rfl dX6_ban_8 ?_
  refine r_iload_n K dX6_ban_11 rfl ?_
  refine r_iload_n K dX6_ban_12 rfl ?_
  refine r_zast K 12 1 (wC_g12 _ _ _ _) rfl (by omega) (by decide) (by omega) dX6_ban_13 (wC_s12 _ _ _ _ _ _) ?_
  refine r_aload_n K dX6_ban_14 rfl ?_
  refine r_get K hin_X6_ban_6 0 (wC_g0 _ _ _ _) rfl 2 (by decide) (List.mem_of_getElem? (i := 3) rfl) rfl dX6_ban_15 ?_
  refine r_aload_n K dX6_ban_18 rfl ?_
  refine r_get K hin_X6_ban_6 0 (wC_g0 _ _ _ _) rfl 0 (by decide) (List.mem_of_getElem? (i := 1) rfl) rfl dX6_ban_19 ?_
  refine r_aload_n K dX6_ban_22 rfl ?_
  refine r_get K hin_X6_ban_6 0 (wC_g0 _ _ _ _) rfl 1 (by decide) (List.mem_of_getElem? (i := 4) rfl) rfl dX6_ban_23 ?_
  refine r_callVs (rest := []) K (c_X0_countFitting l D a c (up S 12 xk ((z).toNat)) J (V_up12 hV (toNat_lt2 z))) 2 gX6_ban_X0_countFitting rfl (by decide +kernel) rfl (by decide) 3 (wC_g3 _ _ _ _) rfl rfl (Nat.le_of_ble_eq_true rfl) dX6_ban_26 rfl rfl ?_
  exact hret 1 6 _ _ _ _ () dX6_ban_29 ⟨thr_0 h_x rfl rfl, by rw [tn_nI hxkc]⟩ (by rw [tn_nI hxkc]) (Nat.le_of_ble_eq_true rfl) (Nat.le_of_ble_eq_true rfl)
