def rmL_setKind : Room := { frames := 8, cells := 3, slots := 18, locals := 136 }
set_option maxHeartbeats 4000000 in
set_option maxRecDepth 100000 in
theorem c_L_setKind (l : Launch) (D : va_G) (a : Nat → Nat) (c : Nat → ClassId) (S : St) (hl0 : l.stackTraces = false) (hV : V S) (x : Int32) (y : Int32) (z : Int32) : Lw l yL_setKind wsL_setKind rmL_setKind D c a [.ref (a 0), .int x, .int y, .int z] S (wr (thr (inB x 0 15) (inB y 0 9 && inB z 0 3) (true)) (-1000001) (-1000002) (-1000002) (nI (S 10 (tn x)))) (if thr (inB x 0 15) (inB y 0 9 && inB z 0 3) (true) = 0 then (up (up S 10 (tn x) (tn y)) 11 (tn x) (tn z)) else S) := by
  intro J
  refine Li.of (lv0 := [(0, .ref (a 0)), (1, .int x), (2, .int y), (3, .int z)]) (by decide +kernel) rfl (Nat.le_of_ble_eq_true rfl) rfl (fun G KH hret => ?_)
  have K := KH.ok
  refine r_aload_n K dL_setKind_0 rfl ?_
  refine r_iload_n K dL_setKind_1 rfl ?_
  refine r_iload_n K dL_setKind_2 rfl ?_
  refine r_iload_n K dL_setKind_3 rfl ?_
  refine r_w (List.append_nil _).symm ?_
  refine r_xcallL (rest := []) (z := []) KH (c_X6_setKind l D a c S J hl0 hV x y z) 3 gL_setKind_X6_setKind rfl (by decide +kernel) rfl (by decide) 0 (wC_g0 _ _ _ _) rfl rfl (Nat.le_of_ble_eq_true rfl) dL_setKind_4 ?_ ?_
  ·
    rintro E ⟨ht0, hE⟩
    have hle : thr (inB x 0 15) (inB y 0 9 && inB z 0 3) (true) ≤ 2 := thr_le2 _ _
    rcases (show thr (inB x 0 15) (inB y 0 9 && inB z 0 3) (true) = 1 ∨ thr (inB x 0 15) (inB y 0 9 && inB z 0 3) (true) = 2 by omega) with ht | ht
    ·
      rw [ht] at hE
      obtain rfl : E = eIOB := hE
      refine ⟨8, catch_here (by decide) (by decide) (List.mem_of_getElem? (i := 1) rfl) (by decide), fun q9 => ?_⟩
      refine r_astore (lv' := [(0, .ref (a 0)), (1, .int x), (2, .int y), (3, .int z), (4, .ref q9)]) K dL_setKind_8 (by decide) rfl ?_
      refine r_ldc K (v := -1000001) (List.mem_of_getElem? (i := 3) rfl) dL_setKind_10 ?_
      exact hret _ _ _ _ _ _ J dL_setKind_12 (by rw [ht]; rfl) (by rw [List.append_nil, if_neg ht0]) (Nat.le_of_ble_eq_true rfl) (Nat.le_of_ble_eq_true rfl)
    ·
      rw [ht] at hE
      obtain rfl : E = eIAE := hE
      refine ⟨13, catch_next (nm := eIOB) (by decide) (List.mem_of_getElem? (i := 1) rfl) (by decide) (by decide) (catch_here (by decide) (by decide) (List.mem_of_getElem? (i := 2) rfl) (by decide)), fun q9 => ?_⟩
      refine r_astore (lv' := [(0, .ref (a 0)), (1, .int x), (2, .int y), (3, .int z), (4, .ref q9)]) K dL_setKind_13 (by decide) rfl ?_
      refine r_ldc K (v := -1000002) (List.mem_of_getElem? (i := 4) rfl) dL_setKind_15 ?_
      exact hret _ _ _ _ _ _ J dL_setKind_17 (by rw [ht]; rfl) (by rw [List.append_nil, if_neg ht0]) (Nat.le_of_ble_eq_true rfl) (Nat.le_of_ble_eq_true rfl)
  ·
    rintro r _ ⟨ht0, rfl⟩
    exact hret _ _ _ _ _ _ J dL_setKind_7 (by rw [ht0]; rfl) (by rw [List.append_nil, if_pos ht0]) (Nat.le_of_ble_eq_true rfl) (Nat.le_of_ble_eq_true rfl)

def rmL_setFormat : Room := { frames := 8, cells := 2, slots := 12, locals := 134 }
set_option maxHeartbeats 4000000 in
set_option maxRecDepth 100000 in
theorem c_L_setFormat (l : Launch) (D : va_G) (a : Nat → Nat) (c : Nat → ClassId) (S : St) (hl0 : l.stackTraces = false) (hV : V S) (x : Int32) (y : Int32) : Lw l yL_setFormat wsL_setFormat rmL_setFormat D c a [.ref (a 0), .int x, .int y] S (wr (thr (inB x 4 10 && inB y 1 4) (true) (true)) (-1000002) (-1000002) (-1000002) (nI (nAlw (up (up S 3 1 (tn x)) 3 2 (tn y))))) (if thr (inB x 4 10 && inB y 1 4) (true) (true) = 0 then (up (up S 3 1 (tn x)) 3 2 (tn y)) else S) := by
  intro J
  refine Li.of (lv0 := [(0, .ref (a 0)), (1, .int x), (2, .int y)]) (by decide +kernel) rfl (Nat.le_of_ble_eq_true rfl) rfl (fun G KH hret => ?_)
  have K := KH.ok
  refine r_aload_n K dL_setFormat_0 rfl ?_
  refine r_iload_n K dL_setFormat_1 rfl ?_
  refine r_iload_n K dL_setFormat_2 rfl ?_
  refine r_w (List.append_nil _).symm ?_
  refine r_xcallL (rest := []) (z := []) KH (c_X6_setFormat l D a c S J hl0 hV x y) 2 gL_setFormat_X6_setFormat rfl (by decide +kernel) rfl (by decide) 0 (wC_g0 _ _ _ _) rfl rfl (Nat.le_of_ble_eq_true rfl) dL_setFormat_3 ?_ ?_
  ·
    rintro E ⟨ht0, hE⟩
    have hle : thr (inB x 4 10 && inB y 1 4) (true) (true) ≤ 1 := thr_le1 _
    rcases (show thr (inB x 4 10 && inB y 1 4) (true) (true) = 1 by omega) with ht
    ·
      rw [ht] at hE
      obtain rfl : E = eIAE := hE
      refine ⟨7, catch_here (by decide) (by decide) (List.mem_of_getElem? (i := 1) rfl) (by decide), fun q9 => ?_⟩
      refine r_astore_n (lv' := [(0, .ref (a 0)), (1, .int x), (2, .int y), (3, .ref q9)]) K dL_setFormat_7 (by decide) rfl ?_
      refine r_ldc K (v := -1000002) (List.mem_of_getElem? (i := 2) rfl) dL_setFormat_8 ?_
      exact hret _ _ _ _ _ _ J dL_setFormat_10 (by rw [ht]; rfl) (by rw [List.append_nil, if_neg ht0]) (Nat.le_of_ble_eq_true rfl) (Nat.le_of_ble_eq_true rfl)
  ·
    rintro r _ ⟨ht0, rfl⟩
    exact hret _ _ _ _ _ _ J dL_setFormat_6 (by rw [ht0]; rfl) (by rw [List.append_nil, if_pos ht0]) (Nat.le_of_ble_eq_true rfl) (Nat.le_of_ble_eq_true rfl)

def rmL_ban : Room := { frames := 8, cells := 1, slots := 6, locals := 132 }
set_option maxHeartbeats 4000000 in
set_option maxRecDepth 100000 in
theorem c_L_ban (l : Launch) (D : va_G) (a : Nat → Nat) (c : Nat → ClassId) (S : St) (hl0 : l.stackTraces = false) (hV : V S) (x : Int32) (z : Bool) : Lw l yL_ban wsL_ban rmL_ban D c a [.ref (a 0), .int x, .int (nI ((z).toNat))] S (wr (thr (inB x 0 15) (true) (true)) (-1000001) (-1000001) (-1000001) (nI (nAlw (up S 12 (tn x) z.toNat)))) (if thr (inB x 0 15) (true) (true) = 0 then (up S 12 (tn x) z.toNat) else S) := by
  intro J
  refine Li.of (lv0 := [(0, .ref (a 0)), (1, .int x), (2, .int (nI ((z).toNat)))]) (by decide +kernel) rfl (Nat.le_of_ble_eq_true rfl) rfl (fun G KH hret => ?_)
  have K := KH.ok
  refine r_aload_n K dL_ban_0 rfl ?_
  refine r_iload_n K dL_ban_1 rfl ?_
  refine r_iload_n K dL_ban_2 rfl ?_
  refine r_w (List.append_nil _).symm ?_
  refine r_xcallL (rest := []) (z := []) KH (c_X6_ban l D a c S J hl0 hV x z) 2 gL_ban_X6_ban rfl (by decide +kernel) rfl (by decide) 0 (wC_g0 _ _ _ _) rfl rfl (Nat.le_of_ble_eq_true rfl) dL_ban_3 ?_ ?_
  ·
    rintro E ⟨ht0, hE⟩
    have hle : thr (inB x 0 15) (true) (true) ≤ 1 := thr_le1 _
    rcases (show thr (inB x 0 15) (true) (true) = 1 by omega) with ht
    ·
      rw [ht] at hE
      obtain rfl : E = eIOB := hE
      refine ⟨7, catch_here (by decide) (by decide) (List.mem_of_getElem? (i := 1) rfl) (by decide), fun q9 => ?_⟩
      refine r_astore_n (lv' := [(0, .ref (a 0)), (1, .int x), (2, .int (nI ((z).toNat))), (3, .ref q9)]) K dL_ban_7 (by decide) rfl ?_
      refine r_ldc K (v := -1000001) (List.mem_of_getElem? (i := 2) rfl) dL_ban_8 ?_
      exact hret _ _ _ _ _ _ J dL_ban_10 (by rw [ht]; rfl) (by rw [List.append_nil, if_neg ht0]) (Nat.le_of_ble_eq_true rfl) (Nat.le_of_ble_eq_true rfl)
  ·
    rintro r _ ⟨ht0, rfl⟩
    exact hret _ _ _ _ _ _ J dL_ban_6 (by rw [ht0]; rfl) (by rw [List.append_nil, if_pos ht0]) (Nat.le_of_ble_eq_true rfl) (Nat.le_of_ble_eq_true rfl)

def rmL_print : Room := { frames := 8, cells := 3, slots := 18, locals := 132 }
set_option maxHeartbeats 4000000 in
set_option maxRecDepth 100000 in
theorem c_L_print (l : Launch) (D : va_G) (a : Nat → Nat) (c : Nat → ClassId) (S : St) (hl0 : l.stackTraces = false) (hV : V S) (h13 : ∀ k, S 13 k < 999999) (x : Int32) (y : Int32) : Lw l yL_print wsL_print rmL_print D c a [.ref (a 0), .int x, .int y] S (wr (thr (inB x 0 15 && inB y 0 5) (decide (S 2 0 < 80)) (true)) (-1000001) (-1000003) (-1000003) (nI (S 2 0))) (if thr (inB x 0 15 && inB y 0 5) (decide (S 2 0 < 80)) (true) = 0 then (up (up (up (up (up S 13 (tn x) (S 13 (tn x) + 1)) 15 (S 2 0) (tn x)) 16 (S 2 0) (S 13 (tn x) + 1)) 17 (S 2 0) (tn y)) 2 0 (S 2 0 + 1)) else S) := by
  intro J
  refine Li.of (lv0 := [(0, .ref (a 0)), (1, .int x), (2, .int y)]) (by decide +kernel) rfl (Nat.le_of_ble_eq_true rfl) rfl (fun G KH hret => ?_)
  have K := KH.ok
  refine r_aload_n K dL_print_0 rfl ?_
  refine r_iload_n K dL_print_1 rfl ?_
  refine r_iload_n K dL_print_2 rfl ?_
  refine r_w (List.append_nil _).symm ?_
  refine r_xcallL (rest := []) (z := []) KH (c_X6_print l D a c S J hl0 hV h13 x y) 2 gL_print_X6_print rfl (by decide +kernel) rfl (by decide) 0 (wC_g0 _ _ _ _) rfl rfl (Nat.le_of_ble_eq_true rfl) dL_print_3 ?_ ?_
  ·
    rintro E ⟨ht0, hE⟩
    have hle : thr (inB x 0 15 && inB y 0 5) (decide (S 2 0 < 80)) (true) ≤ 2 := thr_le2 _ _
    rcases (show thr (inB x 0 15 && inB y 0 5) (decide (S 2 0 < 80)) (true) = 1 ∨ thr (inB x 0 15 && inB y 0 5) (decide (S 2 0 < 80)) (true) = 2 by omega) with ht | ht
    ·
      rw [ht] at hE
      obtain rfl : E = eIOB := hE
      refine ⟨7, catch_here (by decide) (by decide) (List.mem_of_getElem? (i := 1) rfl) (by decide), fun q9 => ?_⟩
      refine r_astore_n (lv' := [(0, .ref (a 0)), (1, .int x), (2, .int y), (3, .ref q9)]) K dL_print_7 (by decide) rfl ?_
      refine r_ldc K (v := -1000001) (List.mem_of_getElem? (i := 3) rfl) dL_print_8 ?_
      exact hret _ _ _ _ _ _ J dL_print_10 (by rw [ht]; rfl) (by rw [List.append_nil, if_neg ht0]) (Nat.le_of_ble_eq_true rfl) (Nat.le_of_ble_eq_true rfl)
    ·
      rw [ht] at hE
      obtain rfl : E = eISE := hE
      refine ⟨11, catch_next (nm := eIOB) (by decide) (List.mem_of_getElem? (i := 1) rfl) (by decide) (by decide) (catch_here (by decide) (by decide) (List.mem_of_getElem? (i := 2) rfl) (by decide)), fun q9 => ?_⟩
      refine r_astore_n (lv' := [(0, .ref (a 0)), (1, .int x), (2, .int y), (3, .ref q9)]) K dL_print_11 (by decide) rfl ?_
      refine r_ldc K (v := -1000003) (List.mem_of_getElem? (i := 4) rfl) dL_print_12 ?_
      exact hret _ _ _ _ _ _ J dL_print_14 (by rw [ht]; rfl) (by rw [List.append_nil, if_neg ht0]) (Nat.le_of_ble_eq_true rfl) (Nat.le_of_ble_eq_true rfl)
  ·
    rintro r _ ⟨ht0, rfl⟩
    exact hret _ _ _ _ _ _ J dL_print_6 (by rw [ht0]; rfl) (by rw [List.append_nil, if_pos ht0]) (Nat.le_of_ble_eq_true rfl) (Nat.le_of_ble_eq_true rfl)

def rmL_deck : Room := { frames := 8, cells := 2, slots := 12, locals := 131 }
set_option maxHeartbeats 4000000 in
set_option maxRecDepth 100000 in
theorem c_L_deck (l : Launch) (D : va_G) (a : Nat → Nat) (c : Nat → ClassId) (S : St) (hl0 : l.stackTraces = false) (hV : V S) (x : Int32) : Lw l yL_deck wsL_deck rmL_deck D c a [.ref (a 0), .int x] S (wr (thr (inB x 0 5) (decide (S 3 0 < 12)) (true)) (-1000001) (-1000003) (-1000003) (nI (S 3 0))) (if thr (inB x 0 5) (decide (S 3 0 < 12)) (true) = 0 then (up (up S 18 (S 3 0) (tn x)) 3 0 (S 3 0 + 1)) else S) := by
  intro J
  refine Li.of (lv0 := [(0, .ref (a 0)), (1, .int x)]) (by decide +kernel) rfl (Nat.le_of_ble_eq_true rfl) rfl (fun G KH hret => ?_)
  have K := KH.ok
  refine r_aload_n K dL_deck_0 rfl ?_
  refine r_iload_n K dL_deck_1 rfl ?_
  refine r_w (List.append_nil _).symm ?_
  refine r_xcallL (rest := []) (z := []) KH (c_X6_deck l D a c S J hl0 hV x) 1 gL_deck_X6_deck rfl (by decide +kernel) rfl (by decide) 0 (wC_g0 _ _ _ _) rfl rfl (Nat.le_of_ble_eq_true rfl) dL_deck_2 ?_ ?_
  ·
    rintro E ⟨ht0, hE⟩
    have hle : thr (inB x 0 5) (decide (S 3 0 < 12)) (true) ≤ 2 := thr_le2 _ _
    rcases (show thr (inB x 0 5) (decide (S 3 0 < 12)) (true) = 1 ∨ thr (inB x 0 5) (decide (S 3 0 < 12)) (true) = 2 by omega) with ht | ht
    ·
      rw [ht] at hE
      obtain rfl : E = eIOB := hE
      refine ⟨6, catch_here (by decide) (by decide) (List.mem_of_getElem? (i := 1) rfl) (by decide), fun q9 => ?_⟩
      refine r_astore_n (lv' := [(0, .ref (a 0)), (1, .int x), (2, .ref q9)]) K dL_deck_6 (by decide) rfl ?_
      refine r_ldc K (v := -1000001) (List.mem_of_getElem? (i := 3) rfl) dL_deck_7 ?_
      exact hret _ _ _ _ _ _ J dL_deck_9 (by rw [ht]; rfl) (by rw [List.append_nil, if_neg ht0]) (Nat.le_of_ble_eq_true rfl) (Nat.le_of_ble_eq_true rfl)
    ·
      rw [ht] at hE
      obtain rfl : E = eISE := hE
      refine ⟨10, catch_next (nm := eIOB) (by decide) (List.mem_of_getElem? (i := 1) rfl) (by decide) (by decide) (catch_here (by decide) (by decide) (List.mem_of_getElem? (i := 2) rfl) (by decide)), fun q9 => ?_⟩
      refine r_astore_n (lv' := [(0, .ref (a 0)), (1, .int x), (2, .ref q9)]) K dL_deck_10 (by decide) rfl ?_
      refine r_ldc K (v := -1000003) (List.mem_of_getElem? (i := 4) rfl) dL_deck_11 ?_
      exact hret _ _ _ _ _ _ J dL_deck_13 (by rw [ht]; rfl) (by rw [List.append_nil, if_neg ht0]) (Nat.le_of_ble_eq_true rfl) (Nat.le_of_ble_eq_true rfl)
  ·
    rintro r _ ⟨ht0, rfl⟩
    exact hret _ _ _ _ _ _ J dL_deck_5 (by rw [ht0]; rfl) (by rw [List.append_nil, if_pos ht0]) (Nat.le_of_ble_eq_true rfl) (Nat.le_of_ble_eq_true rfl)

def rmL_add : Room := { frames := 8, cells := 3, slots := 18, locals := 133 }
set_option maxHeartbeats 4000000 in
set_option maxRecDepth 100000 in
theorem c_L_add (l : Launch) (D : va_G) (a : Nat → Nat) (c : Nat → ClassId) (S : St) (hl0 : l.stackTraces = false) (hV : V S) (x : Int32) (y : Int32) : Lw l yL_add wsL_add rmL_add D c a [.ref (a 0), .int x, .int y] S (wr (thr (inB x 0 ((S 3 0 : Nat) - 1) && inB y 0 ((S 2 0 : Nat) - 1)) (decide (S 17 (tn y) = S 18 (tn x)) && !holdB S (tn x) (tn y)) (decide (S 19 (tn x) < 10))) (-1000001) (-1000002) (-1000003) (nI (S 19 (tn x) + 1))) (if thr (inB x 0 ((S 3 0 : Nat) - 1) && inB y 0 ((S 2 0 : Nat) - 1)) (decide (S 17 (tn y) = S 18 (tn x)) && !holdB S (tn x) (tn y)) (decide (S 19 (tn x) < 10)) = 0 then (up (up S (30 + tn x) (S 19 (tn x)) (tn y)) 19 (tn x) (S 19 (tn x) + 1)) else S) := by
  intro J
  refine Li.of (lv0 := [(0, .ref (a 0)), (1, .int x), (2, .int y)]) (by decide +kernel) rfl (Nat.le_of_ble_eq_true rfl) rfl (fun G KH hret => ?_)
  have K := KH.ok
  refine r_aload_n K dL_add_0 rfl ?_
  refine r_iload_n K dL_add_1 rfl ?_
  refine r_iload_n K dL_add_2 rfl ?_
  refine r_w (List.append_nil _).symm ?_
  refine r_xcallL (rest := []) (z := []) KH (c_X6_add l D a c S J hl0 hV x y) 2 gL_add_X6_add rfl (by decide +kernel) rfl (by decide) 0 (wC_g0 _ _ _ _) rfl rfl (Nat.le_of_ble_eq_true rfl) dL_add_3 ?_ ?_
  ·
    rintro E ⟨ht0, hE⟩
    have hle : thr (inB x 0 ((S 3 0 : Nat) - 1) && inB y 0 ((S 2 0 : Nat) - 1)) (decide (S 17 (tn y) = S 18 (tn x)) && !holdB S (tn x) (tn y)) (decide (S 19 (tn x) < 10)) ≤ 3 := thr_le3 _ _ _
    rcases (show thr (inB x 0 ((S 3 0 : Nat) - 1) && inB y 0 ((S 2 0 : Nat) - 1)) (decide (S 17 (tn y) = S 18 (tn x)) && !holdB S (tn x) (tn y)) (decide (S 19 (tn x) < 10)) = 1 ∨ thr (inB x 0 ((S 3 0 : Nat) - 1) && inB y 0 ((S 2 0 : Nat) - 1)) (decide (S 17 (tn y) = S 18 (tn x)) && !holdB S (tn x) (tn y)) (decide (S 19 (tn x) < 10)) = 2 ∨ thr (inB x 0 ((S 3 0 : Nat) - 1) && inB y 0 ((S 2 0 : Nat) - 1)) (decide (S 17 (tn y) = S 18 (tn x)) && !holdB S (tn x) (tn y)) (decide (S 19 (tn x) < 10)) = 3 by omega) with ht | ht | ht
    ·
      rw [ht] at hE
      obtain rfl : E = eIOB := hE
      refine ⟨7, catch_here (by decide) (by decide) (List.mem_of_getElem? (i := 1) rfl) (by decide), fun q9 => ?_⟩
      refine r_astore_n (lv' := [(0, .ref (a 0)), (1, .int x), (2, .int y), (3, .ref q9)]) K dL_add_7 (by decide) rfl ?_
      refine r_ldc K (v := -1000001) (List.mem_of_getElem? (i := 4) rfl) dL_add_8 ?_
      exact hret _ _ _ _ _ _ J dL_add_10 (by rw [ht]; rfl) (by rw [List.append_nil, if_neg ht0]) (Nat.le_of_ble_eq_true rfl) (Nat.le_of_ble_eq_true rfl)
    ·
      rw [ht] at hE
      obtain rfl : E = eIAE := hE
      refine ⟨11, catch_next (nm := eIOB) (by decide) (List.mem_of_getElem? (i := 1) rfl) (by decide) (by decide) (catch_here (by decide) (by decide) (List.mem_of_getElem? (i := 2) rfl) (by decide)), fun q9 => ?_⟩
      refine r_astore_n (lv' := [(0, .ref (a 0)), (1, .int x), (2, .int y), (3, .ref q9)]) K dL_add_11 (by decide) rfl ?_
      refine r_ldc K (v := -1000002) (List.mem_of_getElem? (i := 5) rfl) dL_add_12 ?_
      exact hret _ _ _ _ _ _ J dL_add_14 (by rw [ht]; rfl) (by rw [List.append_nil, if_neg ht0]) (Nat.le_of_ble_eq_true rfl) (Nat.le_of_ble_eq_true rfl)
    ·
      rw [ht] at hE
      obtain rfl : E = eISE := hE
      refine ⟨15, catch_next (nm := eIOB) (by decide) (List.mem_of_getElem? (i := 1) rfl) (by decide) (by decide) (catch_next (nm := eIAE) (by decide) (List.mem_of_getElem? (i := 2) rfl) (by decide) (by decide) (catch_here (by decide) (by decide) (List.mem_of_getElem? (i := 3) rfl) (by decide))), fun q9 => ?_⟩
      refine r_astore_n (lv' := [(0, .ref (a 0)), (1, .int x), (2, .int y), (3, .ref q9)]) K dL_add_15 (by decide) rfl ?_
      refine r_ldc K (v := -1000003) (List.mem_of_getElem? (i := 6) rfl) dL_add_16 ?_
      exact hret _ _ _ _ _ _ J dL_add_18 (by rw [ht]; rfl) (by rw [List.append_nil, if_neg ht0]) (Nat.le_of_ble_eq_true rfl) (Nat.le_of_ble_eq_true rfl)
  ·
    rintro r _ ⟨ht0, rfl⟩
    exact hret _ _ _ _ _ _ J dL_add_6 (by rw [ht0]; rfl) (by rw [List.append_nil, if_pos ht0]) (Nat.le_of_ble_eq_true rfl) (Nat.le_of_ble_eq_true rfl)

def rmL_cut : Room := { frames := 8, cells := 2, slots := 12, locals := 134 }
set_option maxHeartbeats 4000000 in
set_option maxRecDepth 100000 in
theorem c_L_cut (l : Launch) (D : va_G) (a : Nat → Nat) (c : Nat → ClassId) (S : St) (hl0 : l.stackTraces = false) (hV : V S) (x : Int32) (y : Int32) : Lw l yL_cut wsL_cut rmL_cut D c a [.ref (a 0), .int x, .int y] S (wr (thr (inB x 0 ((S 3 0 : Nat) - 1) && inB y 0 ((S 19 (tn x) : Nat) - 1)) (true) (true)) (-1000001) (-1000001) (-1000001) (nI (S (30 + tn x) (tn y)))) (if thr (inB x 0 ((S 3 0 : Nat) - 1) && inB y 0 ((S 19 (tn x) : Nat) - 1)) (true) (true) = 0 then (shl (up S 19 (tn x) (S 19 (tn x) - 1)) (tn x) (tn y) (S 19 (tn x) - 1 - tn y)) else S) := by
  intro J
  refine Li.of (lv0 := [(0, .ref (a 0)), (1, .int x), (2, .int y)]) (by decide +kernel) rfl (Nat.le_of_ble_eq_true rfl) rfl (fun G KH hret => ?_)
  have K := KH.ok
  refine r_aload_n K dL_cut_0 rfl ?_
  refine r_iload_n K dL_cut_1 rfl ?_
  refine r_iload_n K dL_cut_2 rfl ?_
  refine r_w (List.append_nil _).symm ?_
  refine r_xcallL (rest := []) (z := []) KH (c_X6_cut l D a c S J hl0 hV x y) 2 gL_cut_X6_cut rfl (by decide +kernel) rfl (by decide) 0 (wC_g0 _ _ _ _) rfl rfl (Nat.le_of_ble_eq_true rfl) dL_cut_3 ?_ ?_
  ·
    rintro E ⟨ht0, hE⟩
    have hle : thr (inB x 0 ((S 3 0 : Nat) - 1) && inB y 0 ((S 19 (tn x) : Nat) - 1)) (true) (true) ≤ 1 := thr_le1 _
    rcases (show thr (inB x 0 ((S 3 0 : Nat) - 1) && inB y 0 ((S 19 (tn x) : Nat) - 1)) (true) (true) = 1 by omega) with ht
    ·
      rw [ht] at hE
      obtain rfl : E = eIOB := hE
      refine ⟨7, catch_here (by decide) (by decide) (List.mem_of_getElem? (i := 1) rfl) (by decide), fun q9 => ?_⟩
      refine r_astore_n (lv' := [(0, .ref (a 0)), (1, .int x), (2, .int y), (3, .ref q9)]) K dL_cut_7 (by decide) rfl ?_
      refine r_ldc K (v := -1000001) (List.mem_of_getElem? (i := 2) rfl) dL_cut_8 ?_
      exact hret _ _ _ _ _ _ J dL_cut_10 (by rw [ht]; rfl) (by rw [List.append_nil, if_neg ht0]) (Nat.le_of_ble_eq_true rfl) (Nat.le_of_ble_eq_true rfl)
  ·
    rintro r _ ⟨ht0, rfl⟩
    exact hret _ _ _ _ _ _ J dL_cut_6 (by rw [ht0]; rfl) (by rw [List.append_nil, if_pos ht0]) (Nat.le_of_ble_eq_true rfl) (Nat.le_of_ble_eq_true rfl)

def rmL_play : Room := { frames := 8, cells := 7, slots := 42, locals := 136 }
set_option maxHeartbeats 4000000 in
set_option maxRecDepth 100000 in
theorem c_L_play (l : Launch) (D : va_G) (a : Nat → Nat) (c : Nat → ClassId) (S : St) (hl0 : l.stackTraces = false) (hV : V S) (hw14 : ∀ k, S 14 k < 999999) (x : Int32) (y : Int32) (p : Int32) (q : Int32) : Lw l yL_play wsL_play rmL_play D c a [.ref (a 0), .int x, .int y, .int p, .int q] S (wr (thr (inB x 0 ((S 3 0 : Nat) - 1) && inB y 0 ((S 3 0 : Nat) - 1)) (sdB p && (sdB q && decide (S 18 (tn x) ≠ S 18 (tn y)))) (alw S (tn x) && alw S (tn y))) (-1000001) (-1000002) (-1000003) (nI (gmF S (tn x) (tn y) (tn p) (tn q)).1 - nI (gmF S (tn x) (tn y) (tn p) (tn q)).2.2.1)) (if thr (inB x 0 ((S 3 0 : Nat) - 1) && inB y 0 ((S 3 0 : Nat) - 1)) (sdB p && (sdB q && decide (S 18 (tn x) ≠ S 18 (tn y)))) (alw S (tn x) && alw S (tn y)) = 0 then (wonS S (tn x) (tn y) (gmF S (tn x) (tn y) (tn p) (tn q)).1 (gmF S (tn x) (tn y) (tn p) (tn q)).2.2.1) else S) := by
  intro J
  refine Li.of (lv0 := [(0, .ref (a 0)), (1, .int x), (2, .int y), (3, .int p), (4, .int q)]) (by decide +kernel) rfl (Nat.le_of_ble_eq_true rfl) rfl (fun G KH hret => ?_)
  have K := KH.ok
  refine r_aload_n K dL_play_0 rfl ?_
  refine r_iload_n K dL_play_1 rfl ?_
  refine r_iload_n K dL_play_2 rfl ?_
  refine r_iload_n K dL_play_3 rfl ?_
  refine r_iload K dL_play_4 rfl ?_
  refine r_w (List.append_nil _).symm ?_
  refine r_xcallL (rest := []) (z := []) KH (c_X6_play l D a c S J hl0 hV hw14 x y p q) 4 gL_play_X6_play rfl (by decide +kernel) rfl (by decide) 0 (wC_g0 _ _ _ _) rfl rfl (Nat.le_of_ble_eq_true rfl) dL_play_6 ?_ ?_
  ·
    rintro E ⟨ht0, hE⟩
    have hle : thr (inB x 0 ((S 3 0 : Nat) - 1) && inB y 0 ((S 3 0 : Nat) - 1)) (sdB p && (sdB q && decide (S 18 (tn x) ≠ S 18 (tn y)))) (alw S (tn x) && alw S (tn y)) ≤ 3 := thr_le3 _ _ _
    rcases (show thr (inB x 0 ((S 3 0 : Nat) - 1) && inB y 0 ((S 3 0 : Nat) - 1)) (sdB p && (sdB q && decide (S 18 (tn x) ≠ S 18 (tn y)))) (alw S (tn x) && alw S (tn y)) = 1 ∨ thr (inB x 0 ((S 3 0 : Nat) - 1) && inB y 0 ((S 3 0 : Nat) - 1)) (sdB p && (sdB q && decide (S 18 (tn x) ≠ S 18 (tn y)))) (alw S (tn x) && alw S (tn y)) = 2 ∨ thr (inB x 0 ((S 3 0 : Nat) - 1) && inB y 0 ((S 3 0 : Nat) - 1)) (sdB p && (sdB q && decide (S 18 (tn x) ≠ S 18 (tn y)))) (alw S (tn x) && alw S (tn y)) = 3 by omega) with ht | ht | ht
    ·
      rw [ht] at hE
      obtain rfl : E = eIOB := hE
      refine ⟨10, catch_here (by decide) (by decide) (List.mem_of_getElem? (i := 1) rfl) (by decide), fun q9 => ?_⟩
      refine r_astore (lv' := [(0, .ref (a 0)), (1, .int x), (2, .int y), (3, .int p), (4, .int q), (5, .ref q9)]) K dL_play_10 (by decide) rfl ?_
      refine r_ldc K (v := -1000001) (List.mem_of_getElem? (i := 4) rfl) dL_play_12 ?_
      exact hret _ _ _ _ _ _ J dL_play_14 (by rw [ht]; rfl) (by rw [List.append_nil, if_neg ht0]) (Nat.le_of_ble_eq_true rfl) (Nat.le_of_ble_eq_true rfl)
    ·
      rw [ht] at hE
      obtain rfl : E = eIAE := hE
      refine ⟨15, catch_next (nm := eIOB) (by decide) (List.mem_of_getElem? (i := 1) rfl) (by decide) (by decide) (catch_here (by decide) (by decide) (List.mem_of_getElem? (i := 2) rfl) (by decide)), fun q9 => ?_⟩
      refine r_astore (lv' := [(0, .ref (a 0)), (1, .int x), (2, .int y), (3, .int p), (4, .int q), (5, .ref q9)]) K dL_play_15 (by decide) rfl ?_
      refine r_ldc K (v := -1000002) (List.mem_of_getElem? (i := 5) rfl) dL_play_17 ?_
      exact hret _ _ _ _ _ _ J dL_play_19 (by rw [ht]; rfl) (by rw [List.append_nil, if_neg ht0]) (Nat.le_of_ble_eq_true rfl) (Nat.le_of_ble_eq_true rfl)
    ·
      rw [ht] at hE
      obtain rfl : E = eISE := hE
      refine ⟨20, catch_next (nm := eIOB) (by decide) (List.mem_of_getElem? (i := 1) rfl) (by decide) (by decide) (catch_next (nm := eIAE) (by decide) (List.mem_of_getElem? (i := 2) rfl) (by decide) (by decide) (catch_here (by decide) (by decide) (List.mem_of_getElem? (i := 3) rfl) (by decide))), fun q9 => ?_⟩
      refine r_astore (lv' := [(0, .ref (a 0)), (1, .int x), (2, .int y), (3, .int p), (4, .int q), (5, .ref q9)]) K dL_play_20 (by decide) rfl ?_
      refine r_ldc K (v := -1000003) (List.mem_of_getElem? (i := 6) rfl) dL_play_22 ?_
      exact hret _ _ _ _ _ _ J dL_play_24 (by rw [ht]; rfl) (by rw [List.append_nil, if_neg ht0]) (Nat.le_of_ble_eq_true rfl) (Nat.le_of_ble_eq_true rfl)
  ·
    rintro r u ⟨ht0, rfl⟩
    exact hret _ _ _ _ _ _ u dL_play_9 (by rw [ht0]; rfl) (by rw [List.append_nil, if_pos ht0]) (Nat.le_of_ble_eq_true rfl) (Nat.le_of_ble_eq_true rfl)

def rmL_offer : Room := { frames := 8, cells := 3, slots := 18, locals := 133 }
set_option maxHeartbeats 4000000 in
set_option maxRecDepth 100000 in
theorem c_L_offer (l : Launch) (D : va_G) (a : Nat → Nat) (c : Nat → ClassId) (S : St) (hl0 : l.stackTraces = false) (hV : V S) (x : Int32) (y : Int32) : Lw l yL_offer wsL_offer rmL_offer D c a [.ref (a 0), .int x, .int y] S (wr (thr (inB x 0 ((S 2 0 : Nat) - 1) && inB y 0 15) (decide (S 15 (tn x) ≠ tn y)) (!liveB S (tn x) && decide (S 4 0 < 40))) (-1000001) (-1000002) (-1000003) (nI (S 4 0))) (if thr (inB x 0 ((S 2 0 : Nat) - 1) && inB y 0 15) (decide (S 15 (tn x) ≠ tn y)) (!liveB S (tn x) && decide (S 4 0 < 40)) = 0 then (up (up (up (up (up (up S 21 (S 4 0) (tn x)) 22 (S 4 0) (S 15 (tn x))) 23 (S 4 0) (tn y)) 24 (S 4 0) (S 17 (tn x))) 25 (S 4 0) 1) 4 0 (S 4 0 + 1)) else S) := by
  intro J
  refine Li.of (lv0 := [(0, .ref (a 0)), (1, .int x), (2, .int y)]) (by decide +kernel) rfl (Nat.le_of_ble_eq_true rfl) rfl (fun G KH hret => ?_)
  have K := KH.ok
  refine r_aload_n K dL_offer_0 rfl ?_
  refine r_iload_n K dL_offer_1 rfl ?_
  refine r_iload_n K dL_offer_2 rfl ?_
  refine r_w (List.append_nil _).symm ?_
  refine r_xcallL (rest := []) (z := []) KH (c_X6_offer l D a c S J hl0 hV x y) 2 gL_offer_X6_offer rfl (by decide +kernel) rfl (by decide) 0 (wC_g0 _ _ _ _) rfl rfl (Nat.le_of_ble_eq_true rfl) dL_offer_3 ?_ ?_
  ·
    rintro E ⟨ht0, hE⟩
    have hle : thr (inB x 0 ((S 2 0 : Nat) - 1) && inB y 0 15) (decide (S 15 (tn x) ≠ tn y)) (!liveB S (tn x) && decide (S 4 0 < 40)) ≤ 3 := thr_le3 _ _ _
    rcases (show thr (inB x 0 ((S 2 0 : Nat) - 1) && inB y 0 15) (decide (S 15 (tn x) ≠ tn y)) (!liveB S (tn x) && decide (S 4 0 < 40)) = 1 ∨ thr (inB x 0 ((S 2 0 : Nat) - 1) && inB y 0 15) (decide (S 15 (tn x) ≠ tn y)) (!liveB S (tn x) && decide (S 4 0 < 40)) = 2 ∨ thr (inB x 0 ((S 2 0 : Nat) - 1) && inB y 0 15) (decide (S 15 (tn x) ≠ tn y)) (!liveB S (tn x) && decide (S 4 0 < 40)) = 3 by omega) with ht | ht | ht
    ·
      rw [ht] at hE
      obtain rfl : E = eIOB := hE
      refine ⟨7, catch_here (by decide) (by decide) (List.mem_of_getElem? (i := 1) rfl) (by decide), fun q9 => ?_⟩
      refine r_astore_n (lv' := [(0, .ref (a 0)), (1, .int x), (2, .int y), (3, .ref q9)]) K dL_offer_7 (by decide) rfl ?_
      refine r_ldc K (v := -1000001) (List.mem_of_getElem? (i := 4) rfl) dL_offer_8 ?_
      exact hret _ _ _ _ _ _ J dL_offer_10 (by rw [ht]; rfl) (by rw [List.append_nil, if_neg ht0]) (Nat.le_of_ble_eq_true rfl) (Nat.le_of_ble_eq_true rfl)
    ·
      rw [ht] at hE
      obtain rfl : E = eIAE := hE
      refine ⟨11, catch_next (nm := eIOB) (by decide) (List.mem_of_getElem? (i := 1) rfl) (by decide) (by decide) (catch_here (by decide) (by decide) (List.mem_of_getElem? (i := 2) rfl) (by decide)), fun q9 => ?_⟩
      refine r_astore_n (lv' := [(0, .ref (a 0)), (1, .int x), (2, .int y), (3, .ref q9)]) K dL_offer_11 (by decide) rfl ?_
      refine r_ldc K (v := -1000002) (List.mem_of_getElem? (i := 5) rfl) dL_offer_12 ?_
      exact hret _ _ _ _ _ _ J dL_offer_14 (by rw [ht]; rfl) (by rw [List.append_nil, if_neg ht0]) (Nat.le_of_ble_eq_true rfl) (Nat.le_of_ble_eq_true rfl)
    ·
      rw [ht] at hE
      obtain rfl : E = eISE := hE
      refine ⟨15, catch_next (nm := eIOB) (by decide) (List.mem_of_getElem? (i := 1) rfl) (by decide) (by decide) (catch_next (nm := eIAE) (by decide) (List.mem_of_getElem? (i := 2) rfl) (by decide) (by decide) (catch_here (by decide) (by decide) (List.mem_of_getElem? (i := 3) rfl) (by decide))), fun q9 => ?_⟩
      refine r_astore_n (lv' := [(0, .ref (a 0)), (1, .int x), (2, .int y), (3, .ref q9)]) K dL_offer_15 (by decide) rfl ?_
      refine r_ldc K (v := -1000003) (List.mem_of_getElem? (i := 6) rfl) dL_offer_16 ?_
      exact hret _ _ _ _ _ _ J dL_offer_18 (by rw [ht]; rfl) (by rw [List.append_nil, if_neg ht0]) (Nat.le_of_ble_eq_true rfl) (Nat.le_of_ble_eq_true rfl)
  ·
    rintro r _ ⟨ht0, rfl⟩
    exact hret _ _ _ _ _ _ J dL_offer_6 (by rw [ht0]; rfl) (by rw [List.append_nil, if_pos ht0]) (Nat.le_of_ble_eq_true rfl) (Nat.le_of_ble_eq_true rfl)

def rmL_takeBack : Room := { frames := 8, cells := 2, slots := 12, locals := 132 }
set_option maxHeartbeats 4000000 in
set_option maxRecDepth 100000 in
theorem c_L_takeBack (l : Launch) (D : va_G) (a : Nat → Nat) (c : Nat → ClassId) (S : St) (hl0 : l.stackTraces = false) (hV : V S) (x : Int32) : Lw l yL_takeBack wsL_takeBack rmL_takeBack D c a [.ref (a 0), .int x] S (wr (thr (inB x 0 ((S 4 0 : Nat) - 1)) (decide (S 25 (tn x) ≠ 0)) (true)) (-1000001) (-1000003) (-1000003) (nI (S 21 (tn x)))) (if thr (inB x 0 ((S 4 0 : Nat) - 1)) (decide (S 25 (tn x) ≠ 0)) (true) = 0 then (up S 25 (tn x) 0) else S) := by
  intro J
  refine Li.of (lv0 := [(0, .ref (a 0)), (1, .int x)]) (by decide +kernel) rfl (Nat.le_of_ble_eq_true rfl) rfl (fun G KH hret => ?_)
  have K := KH.ok
  refine r_aload_n K dL_takeBack_0 rfl ?_
  refine r_iload_n K dL_takeBack_1 rfl ?_
  refine r_w (List.append_nil _).symm ?_
  refine r_xcallL (rest := []) (z := []) KH (c_X6_takeBack l D a c S J hl0 hV x) 1 gL_takeBack_X6_takeBack rfl (by decide +kernel) rfl (by decide) 0 (wC_g0 _ _ _ _) rfl rfl (Nat.le_of_ble_eq_true rfl) dL_takeBack_2 ?_ ?_
  ·
    rintro E ⟨ht0, hE⟩
    have hle : thr (inB x 0 ((S 4 0 : Nat) - 1)) (decide (S 25 (tn x) ≠ 0)) (true) ≤ 2 := thr_le2 _ _
    rcases (show thr (inB x 0 ((S 4 0 : Nat) - 1)) (decide (S 25 (tn x) ≠ 0)) (true) = 1 ∨ thr (inB x 0 ((S 4 0 : Nat) - 1)) (decide (S 25 (tn x) ≠ 0)) (true) = 2 by omega) with ht | ht
    ·
      rw [ht] at hE
      obtain rfl : E = eIOB := hE
      refine ⟨6, catch_here (by decide) (by decide) (List.mem_of_getElem? (i := 1) rfl) (by decide), fun q9 => ?_⟩
      refine r_astore_n (lv' := [(0, .ref (a 0)), (1, .int x), (2, .ref q9)]) K dL_takeBack_6 (by decide) rfl ?_
      refine r_ldc K (v := -1000001) (List.mem_of_getElem? (i := 3) rfl) dL_takeBack_7 ?_
      exact hret _ _ _ _ _ _ J dL_takeBack_9 (by rw [ht]; rfl) (by rw [List.append_nil, if_neg ht0]) (Nat.le_of_ble_eq_true rfl) (Nat.le_of_ble_eq_true rfl)
    ·
      rw [ht] at hE
      obtain rfl : E = eISE := hE
      refine ⟨10, catch_next (nm := eIOB) (by decide) (List.mem_of_getElem? (i := 1) rfl) (by decide) (by decide) (catch_here (by decide) (by decide) (List.mem_of_getElem? (i := 2) rfl) (by decide)), fun q9 => ?_⟩
      refine r_astore_n (lv' := [(0, .ref (a 0)), (1, .int x), (2, .ref q9)]) K dL_takeBack_10 (by decide) rfl ?_
      refine r_ldc K (v := -1000003) (List.mem_of_getElem? (i := 4) rfl) dL_takeBack_11 ?_
      exact hret _ _ _ _ _ _ J dL_takeBack_13 (by rw [ht]; rfl) (by rw [List.append_nil, if_neg ht0]) (Nat.le_of_ble_eq_true rfl) (Nat.le_of_ble_eq_true rfl)
  ·
    rintro r _ ⟨ht0, rfl⟩
    exact hret _ _ _ _ _ _ J dL_takeBack_5 (by rw [ht0]; rfl) (by rw [List.append_nil, if_pos ht0]) (Nat.le_of_ble_eq_true rfl) (Nat.le_of_ble_eq_true rfl)

def rmL_printOf : Room := { frames := 8, cells := 1, slots := 6, locals := 132 }
set_option maxHeartbeats 4000000 in
set_option maxRecDepth 100000 in
theorem c_L_printOf (l : Launch) (D : va_G) (a : Nat → Nat) (c : Nat → ClassId) (S : St) (hl0 : l.stackTraces = false) (hV : V S) (x : Int32) : Lw l yL_printOf wsL_printOf rmL_printOf D c a [.ref (a 0), .int x] S (wr (thr (inB x 0 ((S 2 0 : Nat) - 1)) (true) (true)) (-1000001) (-1000001) (-1000001) (nI (100 * S 15 (tn x) + S 16 (tn x)))) S := by
  intro J
  refine Li.of (lv0 := [(0, .ref (a 0)), (1, .int x)]) (by decide +kernel) rfl (Nat.le_of_ble_eq_true rfl) rfl (fun G KH hret => ?_)
  have K := KH.ok
  refine r_aload_n K dL_printOf_0 rfl ?_
  refine r_iload_n K dL_printOf_1 rfl ?_
  refine r_w (List.append_nil _).symm ?_
  refine r_xcallL (rest := []) (z := []) KH (c_X6_printOf l D a c S J hl0 hV x) 1 gL_printOf_X6_printOf rfl (by decide +kernel) rfl (by decide) 0 (wC_g0 _ _ _ _) rfl rfl (Nat.le_of_ble_eq_true rfl) dL_printOf_2 ?_ ?_
  ·
    rintro E ⟨ht0, hE⟩
    have hle : thr (inB x 0 ((S 2 0 : Nat) - 1)) (true) (true) ≤ 1 := thr_le1 _
    rcases (show thr (inB x 0 ((S 2 0 : Nat) - 1)) (true) (true) = 1 by omega) with ht
    ·
      rw [ht] at hE
      obtain rfl : E = eIOB := hE
      refine ⟨6, catch_here (by decide) (by decide) (List.mem_of_getElem? (i := 1) rfl) (by decide), fun q9 => ?_⟩
      refine r_astore_n (lv' := [(0, .ref (a 0)), (1, .int x), (2, .ref q9)]) K dL_printOf_6 (by decide) rfl ?_
      refine r_ldc K (v := -1000001) (List.mem_of_getElem? (i := 2) rfl) dL_printOf_7 ?_
      exact hret _ _ _ _ _ _ J dL_printOf_9 (by rw [ht]; rfl) (by rw [List.append_nil]) (Nat.le_of_ble_eq_true rfl) (Nat.le_of_ble_eq_true rfl)
  ·
    rintro r _ ⟨ht0, rfl⟩
    exact hret _ _ _ _ _ _ J dL_printOf_5 (by rw [ht0]; rfl) (by rw [List.append_nil]) (Nat.le_of_ble_eq_true rfl) (Nat.le_of_ble_eq_true rfl)

def rmL_collectorOf : Room := { frames := 8, cells := 1, slots := 6, locals := 132 }
set_option maxHeartbeats 4000000 in
set_option maxRecDepth 100000 in
theorem c_L_collectorOf (l : Launch) (D : va_G) (a : Nat → Nat) (c : Nat → ClassId) (S : St) (hl0 : l.stackTraces = false) (hV : V S) (x : Int32) : Lw l yL_collectorOf wsL_collectorOf rmL_collectorOf D c a [.ref (a 0), .int x] S (wr (thr (inB x 0 ((S 2 0 : Nat) - 1)) (true) (true)) (-1000001) (-1000001) (-1000001) (nI (S 17 (tn x)))) S := by
  intro J
  refine Li.of (lv0 := [(0, .ref (a 0)), (1, .int x)]) (by decide +kernel) rfl (Nat.le_of_ble_eq_true rfl) rfl (fun G KH hret => ?_)
  have K := KH.ok
  refine r_aload_n K dL_collectorOf_0 rfl ?_
  refine r_iload_n K dL_collectorOf_1 rfl ?_
  refine r_w (List.append_nil _).symm ?_
  refine r_xcallL (rest := []) (z := []) KH (c_X6_collectorOf l D a c S J hl0 hV x) 1 gL_collectorOf_X6_collectorOf rfl (by decide +kernel) rfl (by decide) 0 (wC_g0 _ _ _ _) rfl rfl (Nat.le_of_ble_eq_true rfl) dL_collectorOf_2 ?_ ?_
  ·
    rintro E ⟨ht0, hE⟩
    have hle : thr (inB x 0 ((S 2 0 : Nat) - 1)) (true) (true) ≤ 1 := thr_le1 _
    rcases (show thr (inB x 0 ((S 2 0 : Nat) - 1)) (true) (true) = 1 by omega) with ht
    ·
      rw [ht] at hE
      obtain rfl : E = eIOB := hE
      refine ⟨6, catch_here (by decide) (by decide) (List.mem_of_getElem? (i := 1) rfl) (by decide), fun q9 => ?_⟩
      refine r_astore_n (lv' := [(0, .ref (a 0)), (1, .int x), (2, .ref q9)]) K dL_collectorOf_6 (by decide) rfl ?_
      refine r_ldc K (v := -1000001) (List.mem_of_getElem? (i := 2) rfl) dL_collectorOf_7 ?_
      exact hret _ _ _ _ _ _ J dL_collectorOf_9 (by rw [ht]; rfl) (by rw [List.append_nil]) (Nat.le_of_ble_eq_true rfl) (Nat.le_of_ble_eq_true rfl)
  ·
    rintro r _ ⟨ht0, rfl⟩
    exact hret _ _ _ _ _ _ J dL_collectorOf_5 (by rw [ht0]; rfl) (by rw [List.append_nil]) (Nat.le_of_ble_eq_true rfl) (Nat.le_of_ble_eq_true rfl)

def rmL_has : Room := { frames := 8, cells := 2, slots := 12, locals := 132 }
set_option maxHeartbeats 4000000 in
set_option maxRecDepth 100000 in
theorem c_L_has (l : Launch) (D : va_G) (a : Nat → Nat) (c : Nat → ClassId) (S : St) (hl0 : l.stackTraces = false) (hV : V S) (x : Int32) (y : Int32) : Lw l yL_has wsL_has rmL_has D c a [.ref (a 0), .int x, .int y] S (wr (thr (inB x 0 5 && inB y 0 15) (true) (true)) (-1000001) (-1000001) (-1000001) (nI (hasN S (tn x) (tn y)))) S := by
  intro J
  refine Li.of (lv0 := [(0, .ref (a 0)), (1, .int x), (2, .int y)]) (by decide +kernel) rfl (Nat.le_of_ble_eq_true rfl) rfl (fun G KH hret => ?_)
  have K := KH.ok
  refine r_aload_n K dL_has_0 rfl ?_
  refine r_iload_n K dL_has_1 rfl ?_
  refine r_iload_n K dL_has_2 rfl ?_
  refine r_w (List.append_nil _).symm ?_
  refine r_xcallL (rest := []) (z := []) KH (c_X6_has l D a c S J hl0 hV x y) 2 gL_has_X6_has rfl (by decide +kernel) rfl (by decide) 0 (wC_g0 _ _ _ _) rfl rfl (Nat.le_of_ble_eq_true rfl) dL_has_3 ?_ ?_
  ·
    rintro E ⟨ht0, hE⟩
    have hle : thr (inB x 0 5 && inB y 0 15) (true) (true) ≤ 1 := thr_le1 _
    rcases (show thr (inB x 0 5 && inB y 0 15) (true) (true) = 1 by omega) with ht
    ·
      rw [ht] at hE
      obtain rfl : E = eIOB := hE
      refine ⟨7, catch_here (by decide) (by decide) (List.mem_of_getElem? (i := 1) rfl) (by decide), fun q9 => ?_⟩
      refine r_astore_n (lv' := [(0, .ref (a 0)), (1, .int x), (2, .int y), (3, .ref q9)]) K dL_has_7 (by decide) rfl ?_
      refine r_ldc K (v := -1000001) (List.mem_of_getElem? (i := 2) rfl) dL_has_8 ?_
      exact hret _ _ _ _ _ _ J dL_has_10 (by rw [ht]; rfl) (by rw [List.append_nil]) (Nat.le_of_ble_eq_true rfl) (Nat.le_of_ble_eq_true rfl)
  ·
    rintro r _ ⟨ht0, rfl⟩
    exact hret _ _ _ _ _ _ J dL_has_6 (by rw [ht0]; rfl) (by rw [List.append_nil]) (Nat.le_of_ble_eq_true rfl) (Nat.le_of_ble_eq_true rfl)

def rmL_wins : Room := { frames := 8, cells := 1, slots := 6, locals := 131 }
set_option maxHeartbeats 4000000 in
set_option maxRecDepth 100000 in
theorem c_L_wins (l : Launch) (D : va_G) (a : Nat → Nat) (c : Nat → ClassId) (S : St) (hl0 : l.stackTraces = false) (hV : V S) (x : Int32) : Lw l yL_wins wsL_wins rmL_wins D c a [.ref (a 0), .int x] S (wr (thr (inB x 0 15) (true) (true)) (-1000001) (-1000001) (-1000001) (nI (S 14 (tn x)))) S := by
  intro J
  refine Li.of (lv0 := [(0, .ref (a 0)), (1, .int x)]) (by decide +kernel) rfl (Nat.le_of_ble_eq_true rfl) rfl (fun G KH hret => ?_)
  have K := KH.ok
  refine r_aload_n K dL_wins_0 rfl ?_
  refine r_iload_n K dL_wins_1 rfl ?_
  refine r_w (List.append_nil _).symm ?_
  refine r_xcallL (rest := []) (z := []) KH (c_X6_wins l D a c S J hl0 hV x) 1 gL_wins_X6_wins rfl (by decide +kernel) rfl (by decide) 0 (wC_g0 _ _ _ _) rfl rfl (Nat.le_of_ble_eq_true rfl) dL_wins_2 ?_ ?_
  ·
    rintro E ⟨ht0, hE⟩
    have hle : thr (inB x 0 15) (true) (true) ≤ 1 := thr_le1 _
    rcases (show thr (inB x 0 15) (true) (true) = 1 by omega) with ht
    ·
      rw [ht] at hE
      obtain rfl : E = eIOB := hE
      refine ⟨6, catch_here (by decide) (by decide) (List.mem_of_getElem? (i := 1) rfl) (by decide), fun q9 => ?_⟩
      refine r_astore_n (lv' := [(0, .ref (a 0)), (1, .int x), (2, .ref q9)]) K dL_wins_6 (by decide) rfl ?_
      refine r_ldc K (v := -1000001) (List.mem_of_getElem? (i := 2) rfl) dL_wins_7 ?_
      exact hret _ _ _ _ _ _ J dL_wins_9 (by rw [ht]; rfl) (by rw [List.append_nil]) (Nat.le_of_ble_eq_true rfl) (Nat.le_of_ble_eq_true rfl)
  ·
    rintro r _ ⟨ht0, rfl⟩
    exact hret _ _ _ _ _ _ J dL_wins_5 (by rw [ht0]; rfl) (by rw [List.append_nil]) (Nat.le_of_ble_eq_true rfl) (Nat.le_of_ble_eq_true rfl)

def rmL_price : Room := { frames := 8, cells := 1, slots := 6, locals := 132 }
set_option maxHeartbeats 4000000 in
set_option maxRecDepth 100000 in
theorem c_L_price (l : Launch) (D : va_G) (a : Nat → Nat) (c : Nat → ClassId) (S : St) (hl0 : l.stackTraces = false) (hV : V S) (x : Int32) : Lw l yL_price wsL_price rmL_price D c a [.ref (a 0), .int x] S (wr (thr (inB x 0 15) (true) (true)) (-1000001) (-1000001) (-1000001) (nI (prc S (tn x)))) S := by
  intro J
  refine Li.of (lv0 := [(0, .ref (a 0)), (1, .int x)]) (by decide +kernel) rfl (Nat.le_of_ble_eq_true rfl) rfl (fun G KH hret => ?_)
  have K := KH.ok
  refine r_aload_n K dL_price_0 rfl ?_
  refine r_iload_n K dL_price_1 rfl ?_
  refine r_w (List.append_nil _).symm ?_
  refine r_xcallL (rest := []) (z := []) KH (c_X6_price l D a c S J hl0 hV x) 1 gL_price_X6_price rfl (by decide +kernel) rfl (by decide) 0 (wC_g0 _ _ _ _) rfl rfl (Nat.le_of_ble_eq_true rfl) dL_price_2 ?_ ?_
  ·
    rintro E ⟨ht0, hE⟩
    have hle : thr (inB x 0 15) (true) (true) ≤ 1 := thr_le1 _
    rcases (show thr (inB x 0 15) (true) (true) = 1 by omega) with ht
    ·
      rw [ht] at hE
      obtain rfl : E = eIOB := hE
      refine ⟨6, catch_here (by decide) (by decide) (List.mem_of_getElem? (i := 1) rfl) (by decide), fun q9 => ?_⟩
      refine r_astore_n (lv' := [(0, .ref (a 0)), (1, .int x), (2, .ref q9)]) K dL_price_6 (by decide) rfl ?_
      refine r_ldc K (v := -1000001) (List.mem_of_getElem? (i := 2) rfl) dL_price_7 ?_
      exact hret _ _ _ _ _ _ J dL_price_9 (by rw [ht]; rfl) (by rw [List.append_nil]) (Nat.le_of_ble_eq_true rfl) (Nat.le_of_ble_eq_true rfl)
  ·
    rintro r _ ⟨ht0, rfl⟩
    exact hret _ _ _ _ _ _ J dL_price_5 (by rw [ht0]; rfl) (by rw [List.append_nil]) (Nat.le_of_ble_eq_true rfl) (Nat.le_of_ble_eq_true rfl)

def rmL_isAllowed : Room := { frames := 8, cells := 1, slots := 6, locals := 132 }
set_option maxHeartbeats 4000000 in
set_option maxRecDepth 100000 in
theorem c_L_isAllowed (l : Launch) (D : va_G) (a : Nat → Nat) (c : Nat → ClassId) (S : St) (hl0 : l.stackTraces = false) (hV : V S) (x : Int32) : Lw l yL_isAllowed wsL_isAllowed rmL_isAllowed D c a [.ref (a 0), .int x] S (wr (thr (inB x 0 ((S 3 0 : Nat) - 1)) (true) (true)) (-1000001) (-1000001) (-1000001) (nI (alw S (tn x)).toNat)) S := by
  intro J
  refine Li.of (lv0 := [(0, .ref (a 0)), (1, .int x)]) (by decide +kernel) rfl (Nat.le_of_ble_eq_true rfl) rfl (fun G KH hret => ?_)
  have K := KH.ok
  refine r_aload_n K dL_isAllowed_0 rfl ?_
  refine r_iload_n K dL_isAllowed_1 rfl ?_
  refine r_w (List.append_nil _).symm ?_
  refine r_xcallL (rest := []) (z := []) KH (c_X6_isAllowed l D a c S J hl0 hV x) 1 gL_isAllowed_X6_isAllowed rfl (by decide +kernel) rfl (by decide) 0 (wC_g0 _ _ _ _) rfl rfl (Nat.le_of_ble_eq_true rfl) dL_isAllowed_2 ?_ ?_
  ·
    rintro E ⟨ht0, hE⟩
    have hle : thr (inB x 0 ((S 3 0 : Nat) - 1)) (true) (true) ≤ 1 := thr_le1 _
    rcases (show thr (inB x 0 ((S 3 0 : Nat) - 1)) (true) (true) = 1 by omega) with ht
    ·
      rw [ht] at hE
      obtain rfl : E = eIOB := hE
      refine ⟨14, catch_here (by decide) (by decide) (List.mem_of_getElem? (i := 1) rfl) (by decide), fun q9 => ?_⟩
      refine r_astore_n (lv' := [(0, .ref (a 0)), (1, .int x), (2, .ref q9)]) K dL_isAllowed_14 (by decide) rfl ?_
      refine r_ldc K (v := -1000001) (List.mem_of_getElem? (i := 2) rfl) dL_isAllowed_15 ?_
      exact hret _ _ _ _ _ _ J dL_isAllowed_17 (by rw [ht]; rfl) (by rw [List.append_nil]) (Nat.le_of_ble_eq_true rfl) (Nat.le_of_ble_eq_true rfl)
  ·
    rintro r _ ⟨ht0, rfl⟩
    refine r_if_eqB K 12 dL_isAllowed_5 (by decide) (fun h => ?_) (fun h => ?_)
    ·
      refine r_iconst K (nI 0) dL_isAllowed_12 (by decide) ?_
      exact hret _ _ _ _ _ _ J dL_isAllowed_13 (by rw [ht0, h]; rfl) (by rw [List.append_nil]) (Nat.le_of_ble_eq_true rfl) (Nat.le_of_ble_eq_true rfl)
    ·
      refine r_iconst K (nI 1) dL_isAllowed_8 (by decide) ?_
      refine r_goto K 13 dL_isAllowed_9 (by decide) ?_
      exact hret _ _ _ _ _ _ J dL_isAllowed_13 (by rw [ht0, h]; rfl) (by rw [List.append_nil]) (Nat.le_of_ble_eq_true rfl) (Nat.le_of_ble_eq_true rfl)

def rmL_shuffled : Room := { frames := 8, cells := 3, slots := 18, locals := 135 }
set_option maxHeartbeats 4000000 in
set_option maxRecDepth 100000 in
theorem c_L_shuffled (l : Launch) (D : va_G) (a : Nat → Nat) (c : Nat → ClassId) (S : St) (hl0 : l.stackTraces = false) (hV : V S) (x : Int32) (y : Int32) (z : Int32) : Lw l yL_shuffled wsL_shuffled rmL_shuffled D c a [.ref (a 0), .int x, .int y, .int z] S (wr (thr (inB x 0 ((S 3 0 : Nat) - 1) && inB z 0 ((S 19 (tn x) : Nat) - 1)) (sdB y) (true)) (-1000001) (-1000002) (-1000002) (nI (shuf S (tn x) (tn y) (tn z)))) S := by
  intro J
  refine Li.of (lv0 := [(0, .ref (a 0)), (1, .int x), (2, .int y), (3, .int z)]) (by decide +kernel) rfl (Nat.le_of_ble_eq_true rfl) rfl (fun G KH hret => ?_)
  have K := KH.ok
  refine r_aload_n K dL_shuffled_0 rfl ?_
  refine r_iload_n K dL_shuffled_1 rfl ?_
  refine r_iload_n K dL_shuffled_2 rfl ?_
  refine r_iload_n K dL_shuffled_3 rfl ?_
  refine r_w (List.append_nil _).symm ?_
  refine r_xcallL (rest := []) (z := []) KH (c_X6_shuffled l D a c S J hl0 hV x y z) 3 gL_shuffled_X6_shuffled rfl (by decide +kernel) rfl (by decide) 0 (wC_g0 _ _ _ _) rfl rfl (Nat.le_of_ble_eq_true rfl) dL_shuffled_4 ?_ ?_
  ·
    rintro E ⟨ht0, hE⟩
    have hle : thr (inB x 0 ((S 3 0 : Nat) - 1) && inB z 0 ((S 19 (tn x) : Nat) - 1)) (sdB y) (true) ≤ 2 := thr_le2 _ _
    rcases (show thr (inB x 0 ((S 3 0 : Nat) - 1) && inB z 0 ((S 19 (tn x) : Nat) - 1)) (sdB y) (true) = 1 ∨ thr (inB x 0 ((S 3 0 : Nat) - 1) && inB z 0 ((S 19 (tn x) : Nat) - 1)) (sdB y) (true) = 2 by omega) with ht | ht
    ·
      rw [ht] at hE
      obtain rfl : E = eIOB := hE
      refine ⟨8, catch_here (by decide) (by decide) (List.mem_of_getElem? (i := 1) rfl) (by decide), fun q9 => ?_⟩
      refine r_astore (lv' := [(0, .ref (a 0)), (1, .int x), (2, .int y), (3, .int z), (4, .ref q9)]) K dL_shuffled_8 (by decide) rfl ?_
      refine r_ldc K (v := -1000001) (List.mem_of_getElem? (i := 3) rfl) dL_shuffled_10 ?_
      exact hret _ _ _ _ _ _ J dL_shuffled_12 (by rw [ht]; rfl) (by rw [List.append_nil]) (Nat.le_of_ble_eq_true rfl) (Nat.le_of_ble_eq_true rfl)
    ·
      rw [ht] at hE
      obtain rfl : E = eIAE := hE
      refine ⟨13, catch_next (nm := eIOB) (by decide) (List.mem_of_getElem? (i := 1) rfl) (by decide) (by decide) (catch_here (by decide) (by decide) (List.mem_of_getElem? (i := 2) rfl) (by decide)), fun q9 => ?_⟩
      refine r_astore (lv' := [(0, .ref (a 0)), (1, .int x), (2, .int y), (3, .int z), (4, .ref q9)]) K dL_shuffled_13 (by decide) rfl ?_
      refine r_ldc K (v := -1000002) (List.mem_of_getElem? (i := 4) rfl) dL_shuffled_15 ?_
      exact hret _ _ _ _ _ _ J dL_shuffled_17 (by rw [ht]; rfl) (by rw [List.append_nil]) (Nat.le_of_ble_eq_true rfl) (Nat.le_of_ble_eq_true rfl)
  ·
    rintro r u ⟨ht0, rfl⟩
    exact hret _ _ _ _ _ _ u dL_shuffled_7 (by rw [ht0]; rfl) (by rw [List.append_nil]) (Nat.le_of_ble_eq_true rfl) (Nat.le_of_ble_eq_true rfl)

def rmL_orders : Room := { frames := 8, cells := 3, slots := 18, locals := 140 }
set_option maxHeartbeats 4000000 in
set_option maxRecDepth 100000 in
theorem c_L_orders (l : Launch) (D : va_G) (a : Nat → Nat) (c : Nat → ClassId) (S : St) (hl0 : l.stackTraces = false) (hV : V S) (x : Int32) (y : Int32) (z : Int32) : Lw l yL_orders wsL_orders rmL_orders D c a [.ref (a 0), .int x, .int y, .int z] S (wr (thr (inB x 0 ((S 3 0 : Nat) - 1) && inB y 0 15) (inB z 1 10) (true)) (-1000001) (-1000002) (-1000002) (nI (ordN S (tn x) (tn y) (tn z)))) S := by
  intro J
  refine Li.of (lv0 := [(0, .ref (a 0)), (1, .int x), (2, .int y), (3, .int z)]) (by decide +kernel) rfl (Nat.le_of_ble_eq_true rfl) rfl (fun G KH hret => ?_)
  have K := KH.ok
  refine r_aload_n K dL_orders_0 rfl ?_
  refine r_iload_n K dL_orders_1 rfl ?_
  refine r_iload_n K dL_orders_2 rfl ?_
  refine r_iload_n K dL_orders_3 rfl ?_
  refine r_w (List.append_nil _).symm ?_
  refine r_xcallL (rest := []) (z := []) KH (c_X6_orders l D a c S J hl0 hV x y z) 3 gL_orders_X6_orders rfl (by decide +kernel) rfl (by decide) 0 (wC_g0 _ _ _ _) rfl rfl (Nat.le_of_ble_eq_true rfl) dL_orders_4 ?_ ?_
  ·
    rintro E ⟨ht0, hE⟩
    have hle : thr (inB x 0 ((S 3 0 : Nat) - 1) && inB y 0 15) (inB z 1 10) (true) ≤ 2 := thr_le2 _ _
    rcases (show thr (inB x 0 ((S 3 0 : Nat) - 1) && inB y 0 15) (inB z 1 10) (true) = 1 ∨ thr (inB x 0 ((S 3 0 : Nat) - 1) && inB y 0 15) (inB z 1 10) (true) = 2 by omega) with ht | ht
    ·
      rw [ht] at hE
      obtain rfl : E = eIOB := hE
      refine ⟨8, catch_here (by decide) (by decide) (List.mem_of_getElem? (i := 1) rfl) (by decide), fun q9 => ?_⟩
      refine r_astore (lv' := [(0, .ref (a 0)), (1, .int x), (2, .int y), (3, .int z), (4, .ref q9)]) K dL_orders_8 (by decide) rfl ?_
      refine r_ldc K (v := -1000001) (List.mem_of_getElem? (i := 3) rfl) dL_orders_10 ?_
      exact hret _ _ _ _ _ _ J dL_orders_12 (by rw [ht]; rfl) (by rw [List.append_nil]) (Nat.le_of_ble_eq_true rfl) (Nat.le_of_ble_eq_true rfl)
    ·
      rw [ht] at hE
      obtain rfl : E = eIAE := hE
      refine ⟨13, catch_next (nm := eIOB) (by decide) (List.mem_of_getElem? (i := 1) rfl) (by decide) (by decide) (catch_here (by decide) (by decide) (List.mem_of_getElem? (i := 2) rfl) (by decide)), fun q9 => ?_⟩
      refine r_astore (lv' := [(0, .ref (a 0)), (1, .int x), (2, .int y), (3, .int z), (4, .ref q9)]) K dL_orders_13 (by decide) rfl ?_
      refine r_ldc K (v := -1000002) (List.mem_of_getElem? (i := 4) rfl) dL_orders_15 ?_
      exact hret _ _ _ _ _ _ J dL_orders_17 (by rw [ht]; rfl) (by rw [List.append_nil]) (Nat.le_of_ble_eq_true rfl) (Nat.le_of_ble_eq_true rfl)
  ·
    rintro r _ ⟨ht0, rfl⟩
    exact hret _ _ _ _ _ _ J dL_orders_7 (by rw [ht0]; rfl) (by rw [List.append_nil]) (Nat.le_of_ble_eq_true rfl) (Nat.le_of_ble_eq_true rfl)

def rmL_ordersByAll : Room := { frames := 11, cells := 4, slots := 24, locals := 414 }
set_option maxHeartbeats 4000000 in
set_option maxRecDepth 100000 in
theorem c_L_ordersByAll (l : Launch) (D : va_G) (a : Nat → Nat) (c : Nat → ClassId) (S : St) (hl0 : l.stackTraces = false) (hV : V S) (x : Int32) (y : Int32) (z : Int32) : Lw l yL_ordersByAll wsL_ordersByAll rmL_ordersByAll D c a [.ref (a 0), .int x, .int y, .int z] S (wr (thr (inB x 0 ((S 3 0 : Nat) - 1) && inB y 0 15) (inB z 1 10) (decide (S 19 (tn x) ≤ 7))) (-1000001) (-1000002) (-1000003) (nI (coN (S 19 (tn x)) (bits (isK S (tn x) (tn y)) (S 19 (tn x))) (tn z) (S 19 (tn x)) 0 false))) S := by
  intro J
  refine Li.of (lv0 := [(0, .ref (a 0)), (1, .int x), (2, .int y), (3, .int z)]) (by decide +kernel) rfl (Nat.le_of_ble_eq_true rfl) rfl (fun G KH hret => ?_)
  have K := KH.ok
  refine r_aload_n K dL_ordersByAll_0 rfl ?_
  refine r_iload_n K dL_ordersByAll_1 rfl ?_
  refine r_iload_n K dL_ordersByAll_2 rfl ?_
  refine r_iload_n K dL_ordersByAll_3 rfl ?_
  refine r_w (List.append_nil _).symm ?_
  refine r_xcallL (rest := []) (z := []) KH (c_X6_ordersByAll l D a c S J hl0 hV x y z) 3 gL_ordersByAll_X6_ordersByAll rfl (by decide +kernel) rfl (by decide) 0 (wC_g0 _ _ _ _) rfl rfl (Nat.le_of_ble_eq_true rfl) dL_ordersByAll_4 ?_ ?_
  ·
    rintro E ⟨ht0, hE⟩
    have hle : thr (inB x 0 ((S 3 0 : Nat) - 1) && inB y 0 15) (inB z 1 10) (decide (S 19 (tn x) ≤ 7)) ≤ 3 := thr_le3 _ _ _
    rcases (show thr (inB x 0 ((S 3 0 : Nat) - 1) && inB y 0 15) (inB z 1 10) (decide (S 19 (tn x) ≤ 7)) = 1 ∨ thr (inB x 0 ((S 3 0 : Nat) - 1) && inB y 0 15) (inB z 1 10) (decide (S 19 (tn x) ≤ 7)) = 2 ∨ thr (inB x 0 ((S 3 0 : Nat) - 1) && inB y 0 15) (inB z 1 10) (decide (S 19 (tn x) ≤ 7)) = 3 by omega) with ht | ht | ht
    ·
      rw [ht] at hE
      obtain rfl : E = eIOB := hE
      refine ⟨8, catch_here (by decide) (by decide) (List.mem_of_getElem? (i := 1) rfl) (by decide), fun q9 => ?_⟩
      refine r_astore (lv' := [(0, .ref (a 0)), (1, .int x), (2, .int y), (3, .int z), (4, .ref q9)]) K dL_ordersByAll_8 (by decide) rfl ?_
      refine r_ldc K (v := -1000001) (List.mem_of_getElem? (i := 4) rfl) dL_ordersByAll_10 ?_
      exact hret _ _ _ _ _ _ J dL_ordersByAll_12 (by rw [ht]; rfl) (by rw [List.append_nil]) (Nat.le_of_ble_eq_true rfl) (Nat.le_of_ble_eq_true rfl)
    ·
      rw [ht] at hE
      obtain rfl : E = eIAE := hE
      refine ⟨13, catch_next (nm := eIOB) (by decide) (List.mem_of_getElem? (i := 1) rfl) (by decide) (by decide) (catch_here (by decide) (by decide) (List.mem_of_getElem? (i := 2) rfl) (by decide)), fun q9 => ?_⟩
      refine r_astore (lv' := [(0, .ref (a 0)), (1, .int x), (2, .int y), (3, .int z), (4, .ref q9)]) K dL_ordersByAll_13 (by decide) rfl ?_
      refine r_ldc K (v := -1000002) (List.mem_of_getElem? (i := 5) rfl) dL_ordersByAll_15 ?_
      exact hret _ _ _ _ _ _ J dL_ordersByAll_17 (by rw [ht]; rfl) (by rw [List.append_nil]) (Nat.le_of_ble_eq_true rfl) (Nat.le_of_ble_eq_true rfl)
    ·
      rw [ht] at hE
      obtain rfl : E = eISE := hE
      refine ⟨18, catch_next (nm := eIOB) (by decide) (List.mem_of_getElem? (i := 1) rfl) (by decide) (by decide) (catch_next (nm := eIAE) (by decide) (List.mem_of_getElem? (i := 2) rfl) (by decide) (by decide) (catch_here (by decide) (by decide) (List.mem_of_getElem? (i := 3) rfl) (by decide))), fun q9 => ?_⟩
      refine r_astore (lv' := [(0, .ref (a 0)), (1, .int x), (2, .int y), (3, .int z), (4, .ref q9)]) K dL_ordersByAll_18 (by decide) rfl ?_
      refine r_ldc K (v := -1000003) (List.mem_of_getElem? (i := 6) rfl) dL_ordersByAll_20 ?_
      exact hret _ _ _ _ _ _ J dL_ordersByAll_22 (by rw [ht]; rfl) (by rw [List.append_nil]) (Nat.le_of_ble_eq_true rfl) (Nat.le_of_ble_eq_true rfl)
  ·
    rintro r _ ⟨ht0, rfl⟩
    exact hret _ _ _ _ _ _ J dL_ordersByAll_7 (by rw [ht0]; rfl) (by rw [List.append_nil]) (Nat.le_of_ble_eq_true rfl) (Nat.le_of_ble_eq_true rfl)

def rmL_isOpen : Room := { frames := 8, cells := 1, slots := 6, locals := 132 }
set_option maxHeartbeats 4000000 in
set_option maxRecDepth 100000 in
theorem c_L_isOpen (l : Launch) (D : va_G) (a : Nat → Nat) (c : Nat → ClassId) (S : St) (hl0 : l.stackTraces = false) (hV : V S) (h25 : ∀ k, S 25 k < 2) (x : Int32) : Lw l yL_isOpen wsL_isOpen rmL_isOpen D c a [.ref (a 0), .int x] S (wr (thr (inB x 0 ((S 4 0 : Nat) - 1)) (true) (true)) (-1000001) (-1000001) (-1000001) (nI (S 25 (tn x)))) S := by
  intro J
  refine Li.of (lv0 := [(0, .ref (a 0)), (1, .int x)]) (by decide +kernel) rfl (Nat.le_of_ble_eq_true rfl) rfl (fun G KH hret => ?_)
  have K := KH.ok
  refine r_aload_n K dL_isOpen_0 rfl ?_
  refine r_iload_n K dL_isOpen_1 rfl ?_
  refine r_w (List.append_nil _).symm ?_
  refine r_xcallL (rest := []) (z := []) KH (c_X6_isOpen l D a c S J hl0 hV h25 x) 1 gL_isOpen_X6_isOpen rfl (by decide +kernel) rfl (by decide) 0 (wC_g0 _ _ _ _) rfl rfl (Nat.le_of_ble_eq_true rfl) dL_isOpen_2 ?_ ?_
  ·
    rintro E ⟨ht0, hE⟩
    have hle : thr (inB x 0 ((S 4 0 : Nat) - 1)) (true) (true) ≤ 1 := thr_le1 _
    rcases (show thr (inB x 0 ((S 4 0 : Nat) - 1)) (true) (true) = 1 by omega) with ht
    ·
      rw [ht] at hE
      obtain rfl : E = eIOB := hE
      refine ⟨14, catch_here (by decide) (by decide) (List.mem_of_getElem? (i := 1) rfl) (by decide), fun q9 => ?_⟩
      refine r_astore_n (lv' := [(0, .ref (a 0)), (1, .int x), (2, .ref q9)]) K dL_isOpen_14 (by decide) rfl ?_
      refine r_ldc K (v := -1000001) (List.mem_of_getElem? (i := 2) rfl) dL_isOpen_15 ?_
      exact hret _ _ _ _ _ _ J dL_isOpen_17 (by rw [ht]; rfl) (by rw [List.append_nil]) (Nat.le_of_ble_eq_true rfl) (Nat.le_of_ble_eq_true rfl)
  ·
    rintro r _ ⟨ht0, rfl⟩
    refine r_if_eqR K 12 dL_isOpen_5 (by decide) (fun h => ?_) (fun h => ?_)
    ·
      refine r_iconst K (nI 0) dL_isOpen_12 (by decide) ?_
      exact hret _ _ _ _ _ _ J dL_isOpen_13 (by rw [ht0]; exact h.symm) (by rw [List.append_nil]) (Nat.le_of_ble_eq_true rfl) (Nat.le_of_ble_eq_true rfl)
    ·
      refine r_iconst K (nI 1) dL_isOpen_8 (by decide) ?_
      refine r_goto K 13 dL_isOpen_9 (by decide) ?_
      exact hret _ _ _ _ _ _ J dL_isOpen_13 (by rw [ht0, show S 25 (tn x) = 1 from by have h2 := h25 (tn x); have h3 : S 25 (tn x) ≠ 0 := fun q => h (by rw [q]; rfl); omega]; rfl) (by rw [List.append_nil]) (Nat.le_of_ble_eq_true rfl) (Nat.le_of_ble_eq_true rfl)

def rmL_ring : Room := { frames := 11, cells := 1, slots := 6, locals := 343 }
set_option maxHeartbeats 4000000 in
set_option maxRecDepth 100000 in
theorem c_L_ring (l : Launch) (D : va_G) (a : Nat → Nat) (c : Nat → ClassId) (S : St) (hl0 : l.stackTraces = false) (hV : V S) (x : Int32) : Lw l yL_ring wsL_ring rmL_ring D c a [.ref (a 0), .int x] S (wr (thr (sdB x) (true) (true)) (-1000001) (-1000001) (-1000001) (rgN S (tn x))) S := by
  intro J
  refine Li.of (lv0 := [(0, .ref (a 0)), (1, .int x)]) (by decide +kernel) rfl (Nat.le_of_ble_eq_true rfl) rfl (fun G KH hret => ?_)
  have K := KH.ok
  refine r_aload_n K dL_ring_0 rfl ?_
  refine r_iload_n K dL_ring_1 rfl ?_
  refine r_w (List.append_nil _).symm ?_
  refine r_xcallL (rest := []) (z := []) KH (c_X6_ring l D a c S J hl0 hV x) 1 gL_ring_X6_ring rfl (by decide +kernel) rfl (by decide) 0 (wC_g0 _ _ _ _) rfl rfl (Nat.le_of_ble_eq_true rfl) dL_ring_2 ?_ ?_
  ·
    rintro E ⟨ht0, hE⟩
    have hle : thr (sdB x) (true) (true) ≤ 1 := thr_le1 _
    rcases (show thr (sdB x) (true) (true) = 1 by omega) with ht
    ·
      rw [ht] at hE
      obtain rfl : E = eIOB := hE
      refine ⟨6, catch_here (by decide) (by decide) (List.mem_of_getElem? (i := 1) rfl) (by decide), fun q9 => ?_⟩
      refine r_astore_n (lv' := [(0, .ref (a 0)), (1, .int x), (2, .ref q9)]) K dL_ring_6 (by decide) rfl ?_
      refine r_ldc K (v := -1000001) (List.mem_of_getElem? (i := 2) rfl) dL_ring_7 ?_
      exact hret _ _ _ _ _ _ J dL_ring_9 (by rw [ht]; rfl) (by rw [List.append_nil]) (Nat.le_of_ble_eq_true rfl) (Nat.le_of_ble_eq_true rfl)
  ·
    rintro r u ⟨ht0, rfl⟩
    exact hret _ _ _ _ _ _ u dL_ring_5 (by rw [ht0]; rfl) (by rw [List.append_nil]) (Nat.le_of_ble_eq_true rfl) (Nat.le_of_ble_eq_true rfl)
