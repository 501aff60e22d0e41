def rmL_setKind : Room := { frames := 8, cells := 3, slots := 18, locals := 136 }
set_option maxHeartbeats 4000000 in
set_option maxRecDepth 100000 in
theorem c_L_setKind (l : Launch) (D : va_G) (a : Nat → Nat) (c : Nat → ClassId) (S J : St) (o : Nat) (f : Nat → Int64) (hl0 : l.stackTraces = false) (hV : V S) (x : Int32) (y : Int32) (z : Int32) : Li l yL_setKind wsL_setKind rmL_setKind D (tyW c) [.ref (a 0), .int x, .int y, .int z, .ref o] (wC a c S J ++ lo o c f) (fun r (u : St × (Nat → Int64)) => r = nI (thr (inB x 0 15) (inB y 0 9 && inB z 0 3) (true)) ∧ (thr (inB x 0 15) (inB y 0 9 && inB z 0 3) (true) = 0 → u.2 0 = (nI (S 10 (tn x))).toInt64)) (fun u : St × (Nat → Int64) => wC a c (if thr (inB x 0 15) (inB y 0 9 && inB z 0 3) (true) = 0 then (up (up S 10 (tn x) (tn y)) 11 (tn x) (tn z)) else S) u.1 ++ lo o c u.2) := by
  refine Li.of (lv0 := [(0, .ref (a 0)), (1, .int x), (2, .int y), (3, .int z), (4, .ref o)]) (by decide +kernel) rfl (Nat.le_of_ble_eq_true rfl) rfl (fun G KH hret => ?_)
  have K := KH.ok
  refine r_aload K dL_setKind_0 rfl ?_
  refine r_iconst K (nI 0) dL_setKind_2 (by decide) ?_
  refine r_aload_n K dL_setKind_3 rfl ?_
  refine r_iload_n K dL_setKind_4 rfl ?_
  refine r_iload_n K dL_setKind_5 rfl ?_
  refine r_iload_n K dL_setKind_6 rfl ?_
  refine r_xcallL (rest := [.int (nI 0), .ref o]) (z := lo o c f) KH (c_X6_setKind l D a c S J hl0 hV x y z) 3 gL_setKind_X6_setKind rfl (by decide +kernel) rfl (by decide) 0 (wC_g0 _ _ _ _) rfl rfl (Nat.le_of_ble_eq_true rfl) dL_setKind_7 ?_ ?_
  ·
    rintro E ⟨ht0, hE⟩
    have hle : thr (inB x 0 15) (inB y 0 9 && inB z 0 3) (true) ≤ 2 := thr_le2 _ _
    rcases (show thr (inB x 0 15) (inB y 0 9 && inB z 0 3) (true) = 1 ∨ thr (inB x 0 15) (inB y 0 9 && inB z 0 3) (true) = 2 by omega) with ht | ht
    ·
      rw [ht] at hE
      obtain rfl : E = eIOB := hE
      refine ⟨15, catch_here (by decide) (by decide) (List.mem_of_getElem? (i := 1) rfl) (by decide), fun q9 => ?_⟩
      refine r_astore (lv' := [(0, .ref (a 0)), (1, .int x), (2, .int y), (3, .int z), (4, .ref o), (5, .ref q9)]) K dL_setKind_15 (by decide) rfl ?_
      refine r_iconst K (nI 1) dL_setKind_17 (by decide) ?_
      exact hret _ _ _ _ _ _ (J, f) dL_setKind_18 ⟨by rw [ht], fun h0 => absurd h0 ht0⟩ (by rw [if_neg ht0]) (Nat.le_of_ble_eq_true rfl) (Nat.le_of_ble_eq_true rfl)
    ·
      rw [ht] at hE
      obtain rfl : E = eIAE := hE
      refine ⟨19, catch_next (nm := eIOB) (by decide) (List.mem_of_getElem? (i := 1) rfl) (by decide) (by decide) (catch_here (by decide) (by decide) (List.mem_of_getElem? (i := 2) rfl) (by decide)), fun q9 => ?_⟩
      refine r_astore (lv' := [(0, .ref (a 0)), (1, .int x), (2, .int y), (3, .int z), (4, .ref o), (5, .ref q9)]) K dL_setKind_19 (by decide) rfl ?_
      refine r_iconst K (nI 2) dL_setKind_21 (by decide) ?_
      exact hret _ _ _ _ _ _ (J, f) dL_setKind_22 ⟨by rw [ht], fun h0 => absurd h0 ht0⟩ (by rw [if_neg ht0]) (Nat.le_of_ble_eq_true rfl) (Nat.le_of_ble_eq_true rfl)
  ·
    rintro r _ ⟨ht0, rfl⟩
    refine r_i2lR K dL_setKind_10 ?_
    refine r_last0 K 42 3 (f := f) rfl rfl (by decide) dL_setKind_11 (ws' := wC a c (up (up S 10 (tn x) (tn y)) 11 (tn x) (tn z)) J ++ lo o c (vp_updL f 0 ((nI (S 10 (tn x))).toInt64))) rfl ?_
    refine r_goto K 23 dL_setKind_12 (by decide) ?_
    refine r_iconst K (nI 0) dL_setKind_23 (by decide) ?_
    exact hret _ _ _ _ _ _ (J, vp_updL f 0 ((nI (S 10 (tn x))).toInt64)) dL_setKind_24 ⟨by rw [ht0], fun _ => (show vp_updL f 0 ((nI (S 10 (tn x))).toInt64) 0 = _ from (updL0 (f := f)).trans rfl)⟩ (by rw [if_pos ht0]) (Nat.le_of_ble_eq_true rfl) (Nat.le_of_ble_eq_true rfl)

def rmL_setFormat : Room := { frames := 8, cells := 2, slots := 12, locals := 134 }
set_option maxHeartbeats 4000000 in
set_option maxRecDepth 100000 in
theorem c_L_setFormat (l : Launch) (D : va_G) (a : Nat → Nat) (c : Nat → ClassId) (S J : St) (o : Nat) (f : Nat → Int64) (hl0 : l.stackTraces = false) (hV : V S) (x : Int32) (y : Int32) : Li l yL_setFormat wsL_setFormat rmL_setFormat D (tyW c) [.ref (a 0), .int x, .int y, .ref o] (wC a c S J ++ lo o c f) (fun r (u : St × (Nat → Int64)) => r = nI (thr (inB x 4 10 && inB y 1 4) (true) (true)) ∧ (thr (inB x 4 10 && inB y 1 4) (true) (true) = 0 → u.2 0 = (nI (nAlw (up (up S 3 1 (tn x)) 3 2 (tn y)))).toInt64)) (fun u : St × (Nat → Int64) => wC a c (if thr (inB x 4 10 && inB y 1 4) (true) (true) = 0 then (up (up S 3 1 (tn x)) 3 2 (tn y)) else S) u.1 ++ lo o c u.2) := by
  refine Li.of (lv0 := [(0, .ref (a 0)), (1, .int x), (2, .int y), (3, .ref o)]) (by decide +kernel) rfl (Nat.le_of_ble_eq_true rfl) rfl (fun G KH hret => ?_)
  have K := KH.ok
  refine r_aload_n K dL_setFormat_0 rfl ?_
  refine r_iconst K (nI 0) dL_setFormat_1 (by decide) ?_
  refine r_aload_n K dL_setFormat_2 rfl ?_
  refine r_iload_n K dL_setFormat_3 rfl ?_
  refine r_iload_n K dL_setFormat_4 rfl ?_
  refine r_xcallL (rest := [.int (nI 0), .ref o]) (z := lo o c f) KH (c_X6_setFormat l D a c S J hl0 hV x y) 2 gL_setFormat_X6_setFormat rfl (by decide +kernel) rfl (by decide) 0 (wC_g0 _ _ _ _) rfl rfl (Nat.le_of_ble_eq_true rfl) dL_setFormat_5 ?_ ?_
  ·
    rintro E ⟨ht0, hE⟩
    have hle : thr (inB x 4 10 && inB y 1 4) (true) (true) ≤ 1 := thr_le1 _
    rcases (show thr (inB x 4 10 && inB y 1 4) (true) (true) = 1 by omega) with ht
    ·
      rw [ht] at hE
      obtain rfl : E = eIAE := hE
      refine ⟨13, catch_here (by decide) (by decide) (List.mem_of_getElem? (i := 1) rfl) (by decide), fun q9 => ?_⟩
      refine r_astore (lv' := [(0, .ref (a 0)), (1, .int x), (2, .int y), (3, .ref o), (4, .ref q9)]) K dL_setFormat_13 (by decide) rfl ?_
      refine r_iconst K (nI 1) dL_setFormat_15 (by decide) ?_
      exact hret _ _ _ _ _ _ (J, f) dL_setFormat_16 ⟨by rw [ht], fun h0 => absurd h0 ht0⟩ (by rw [if_neg ht0]) (Nat.le_of_ble_eq_true rfl) (Nat.le_of_ble_eq_true rfl)
  ·
    rintro r _ ⟨ht0, rfl⟩
    refine r_i2lR K dL_setFormat_8 ?_
    refine r_last0 K 42 3 (f := f) rfl rfl (by decide) dL_setFormat_9 (ws' := wC a c (up (up S 3 1 (tn x)) 3 2 (tn y)) J ++ lo o c (vp_updL f 0 ((nI (nAlw (up (up S 3 1 (tn x)) 3 2 (tn y)))).toInt64))) rfl ?_
    refine r_goto K 17 dL_setFormat_10 (by decide) ?_
    refine r_iconst K (nI 0) dL_setFormat_17 (by decide) ?_
    exact hret _ _ _ _ _ _ (J, vp_updL f 0 ((nI (nAlw (up (up S 3 1 (tn x)) 3 2 (tn y)))).toInt64)) dL_setFormat_18 ⟨by rw [ht0], fun _ => (show vp_updL f 0 ((nI (nAlw (up (up S 3 1 (tn x)) 3 2 (tn y)))).toInt64) 0 = _ from (updL0 (f := f)).trans rfl)⟩ (by rw [if_pos ht0]) (Nat.le_of_ble_eq_true rfl) (Nat.le_of_ble_eq_true rfl)

def rmL_ban : Room := { frames := 8, cells := 1, slots := 6, locals := 132 }
set_option maxHeartbeats 4000000 in
set_option maxRecDepth 100000 in
theorem c_L_ban (l : Launch) (D : va_G) (a : Nat → Nat) (c : Nat → ClassId) (S J : St) (o : Nat) (f : Nat → Int64) (hl0 : l.stackTraces = false) (hV : V S) (x : Int32) (z : Bool) : Li l yL_ban wsL_ban rmL_ban D (tyW c) [.ref (a 0), .int x, .int (nI ((z).toNat)), .ref o] (wC a c S J ++ lo o c f) (fun r (u : St × (Nat → Int64)) => r = nI (thr (inB x 0 15) (true) (true)) ∧ (thr (inB x 0 15) (true) (true) = 0 → u.2 0 = (nI (nAlw (up S 12 (tn x) z.toNat))).toInt64)) (fun u : St × (Nat → Int64) => wC a c (if thr (inB x 0 15) (true) (true) = 0 then (up S 12 (tn x) z.toNat) else S) u.1 ++ lo o c u.2) := by
  refine Li.of (lv0 := [(0, .ref (a 0)), (1, .int x), (2, .int (nI ((z).toNat))), (3, .ref o)]) (by decide +kernel) rfl (Nat.le_of_ble_eq_true rfl) rfl (fun G KH hret => ?_)
  have K := KH.ok
  refine r_aload_n K dL_ban_0 rfl ?_
  refine r_iconst K (nI 0) dL_ban_1 (by decide) ?_
  refine r_aload_n K dL_ban_2 rfl ?_
  refine r_iload_n K dL_ban_3 rfl ?_
  refine r_iload_n K dL_ban_4 rfl ?_
  refine r_xcallL (rest := [.int (nI 0), .ref o]) (z := lo o c f) KH (c_X6_ban l D a c S J hl0 hV x z) 2 gL_ban_X6_ban rfl (by decide +kernel) rfl (by decide) 0 (wC_g0 _ _ _ _) rfl rfl (Nat.le_of_ble_eq_true rfl) dL_ban_5 ?_ ?_
  ·
    rintro E ⟨ht0, hE⟩
    have hle : thr (inB x 0 15) (true) (true) ≤ 1 := thr_le1 _
    rcases (show thr (inB x 0 15) (true) (true) = 1 by omega) with ht
    ·
      rw [ht] at hE
      obtain rfl : E = eIOB := hE
      refine ⟨13, catch_here (by decide) (by decide) (List.mem_of_getElem? (i := 1) rfl) (by decide), fun q9 => ?_⟩
      refine r_astore (lv' := [(0, .ref (a 0)), (1, .int x), (2, .int (nI ((z).toNat))), (3, .ref o), (4, .ref q9)]) K dL_ban_13 (by decide) rfl ?_
      refine r_iconst K (nI 1) dL_ban_15 (by decide) ?_
      exact hret _ _ _ _ _ _ (J, f) dL_ban_16 ⟨by rw [ht], fun h0 => absurd h0 ht0⟩ (by rw [if_neg ht0]) (Nat.le_of_ble_eq_true rfl) (Nat.le_of_ble_eq_true rfl)
  ·
    rintro r _ ⟨ht0, rfl⟩
    refine r_i2lR K dL_ban_8 ?_
    refine r_last0 K 42 3 (f := f) rfl rfl (by decide) dL_ban_9 (ws' := wC a c (up S 12 (tn x) z.toNat) J ++ lo o c (vp_updL f 0 ((nI (nAlw (up S 12 (tn x) z.toNat))).toInt64))) rfl ?_
    refine r_goto K 17 dL_ban_10 (by decide) ?_
    refine r_iconst K (nI 0) dL_ban_17 (by decide) ?_
    exact hret _ _ _ _ _ _ (J, vp_updL f 0 ((nI (nAlw (up S 12 (tn x) z.toNat))).toInt64)) dL_ban_18 ⟨by rw [ht0], fun _ => (show vp_updL f 0 ((nI (nAlw (up S 12 (tn x) z.toNat))).toInt64) 0 = _ from (updL0 (f := f)).trans rfl)⟩ (by rw [if_pos ht0]) (Nat.le_of_ble_eq_true rfl) (Nat.le_of_ble_eq_true rfl)

def rmL_print : Room := { frames := 8, cells := 3, slots := 18, locals := 132 }
set_option maxHeartbeats 4000000 in
set_option maxRecDepth 100000 in
theorem c_L_print (l : Launch) (D : va_G) (a : Nat → Nat) (c : Nat → ClassId) (S J : St) (o : Nat) (f : Nat → Int64) (hl0 : l.stackTraces = false) (hV : V S) (h13 : ∀ k, S 13 k < 999999) (x : Int32) (y : Int32) : Li l yL_print wsL_print rmL_print D (tyW c) [.ref (a 0), .int x, .int y, .ref o] (wC a c S J ++ lo o c f) (fun r (u : St × (Nat → Int64)) => r = nI (thr (inB x 0 15 && inB y 0 5) (decide (S 2 0 < 80)) (true)) ∧ (thr (inB x 0 15 && inB y 0 5) (decide (S 2 0 < 80)) (true) = 0 → u.2 0 = (nI (S 2 0)).toInt64)) (fun u : St × (Nat → Int64) => wC a c (if thr (inB x 0 15 && inB y 0 5) (decide (S 2 0 < 80)) (true) = 0 then (up (up (up (up (up S 13 (tn x) (S 13 (tn x) + 1)) 15 (S 2 0) (tn x)) 16 (S 2 0) (S 13 (tn x) + 1)) 17 (S 2 0) (tn y)) 2 0 (S 2 0 + 1)) else S) u.1 ++ lo o c u.2) := by
  refine Li.of (lv0 := [(0, .ref (a 0)), (1, .int x), (2, .int y), (3, .ref o)]) (by decide +kernel) rfl (Nat.le_of_ble_eq_true rfl) rfl (fun G KH hret => ?_)
  have K := KH.ok
  refine r_aload_n K dL_print_0 rfl ?_
  refine r_iconst K (nI 0) dL_print_1 (by decide) ?_
  refine r_aload_n K dL_print_2 rfl ?_
  refine r_iload_n K dL_print_3 rfl ?_
  refine r_iload_n K dL_print_4 rfl ?_
  refine r_xcallL (rest := [.int (nI 0), .ref o]) (z := lo o c f) KH (c_X6_print l D a c S J hl0 hV h13 x y) 2 gL_print_X6_print rfl (by decide +kernel) rfl (by decide) 0 (wC_g0 _ _ _ _) rfl rfl (Nat.le_of_ble_eq_true rfl) dL_print_5 ?_ ?_
  ·
    rintro E ⟨ht0, hE⟩
    have hle : thr (inB x 0 15 && inB y 0 5) (decide (S 2 0 < 80)) (true) ≤ 2 := thr_le2 _ _
    rcases (show thr (inB x 0 15 && inB y 0 5) (decide (S 2 0 < 80)) (true) = 1 ∨ thr (inB x 0 15 && inB y 0 5) (decide (S 2 0 < 80)) (true) = 2 by omega) with ht | ht
    ·
      rw [ht] at hE
      obtain rfl : E = eIOB := hE
      refine ⟨13, catch_here (by decide) (by decide) (List.mem_of_getElem? (i := 1) rfl) (by decide), fun q9 => ?_⟩
      refine r_astore (lv' := [(0, .ref (a 0)), (1, .int x), (2, .int y), (3, .ref o), (4, .ref q9)]) K dL_print_13 (by decide) rfl ?_
      refine r_iconst K (nI 1) dL_print_15 (by decide) ?_
      exact hret _ _ _ _ _ _ (J, f) dL_print_16 ⟨by rw [ht], fun h0 => absurd h0 ht0⟩ (by rw [if_neg ht0]) (Nat.le_of_ble_eq_true rfl) (Nat.le_of_ble_eq_true rfl)
    ·
      rw [ht] at hE
      obtain rfl : E = eISE := hE
      refine ⟨17, catch_next (nm := eIOB) (by decide) (List.mem_of_getElem? (i := 1) rfl) (by decide) (by decide) (catch_here (by decide) (by decide) (List.mem_of_getElem? (i := 2) rfl) (by decide)), fun q9 => ?_⟩
      refine r_astore (lv' := [(0, .ref (a 0)), (1, .int x), (2, .int y), (3, .ref o), (4, .ref q9)]) K dL_print_17 (by decide) rfl ?_
      refine r_iconst K (nI 2) dL_print_19 (by decide) ?_
      exact hret _ _ _ _ _ _ (J, f) dL_print_20 ⟨by rw [ht], fun h0 => absurd h0 ht0⟩ (by rw [if_neg ht0]) (Nat.le_of_ble_eq_true rfl) (Nat.le_of_ble_eq_true rfl)
  ·
    rintro r _ ⟨ht0, rfl⟩
    refine r_i2lR K dL_print_8 ?_
    refine r_last0 K 42 3 (f := f) rfl rfl (by decide) dL_print_9 (ws' := wC a c (up (up (up (up (up S 13 (tn x) (S 13 (tn x) + 1)) 15 (S 2 0) (tn x)) 16 (S 2 0) (S 13 (tn x) + 1)) 17 (S 2 0) (tn y)) 2 0 (S 2 0 + 1)) J ++ lo o c (vp_updL f 0 ((nI (S 2 0)).toInt64))) rfl ?_
    refine r_goto K 21 dL_print_10 (by decide) ?_
    refine r_iconst K (nI 0) dL_print_21 (by decide) ?_
    exact hret _ _ _ _ _ _ (J, vp_updL f 0 ((nI (S 2 0)).toInt64)) dL_print_22 ⟨by rw [ht0], fun _ => (show vp_updL f 0 ((nI (S 2 0)).toInt64) 0 = _ from (updL0 (f := f)).trans rfl)⟩ (by rw [if_pos ht0]) (Nat.le_of_ble_eq_true rfl) (Nat.le_of_ble_eq_true rfl)

def rmL_deck : Room := { frames := 8, cells := 2, slots := 12, locals := 131 }
set_option maxHeartbeats 4000000 in
set_option maxRecDepth 100000 in
theorem c_L_deck (l : Launch) (D : va_G) (a : Nat → Nat) (c : Nat → ClassId) (S J : St) (o : Nat) (f : Nat → Int64) (hl0 : l.stackTraces = false) (hV : V S) (x : Int32) : Li l yL_deck wsL_deck rmL_deck D (tyW c) [.ref (a 0), .int x, .ref o] (wC a c S J ++ lo o c f) (fun r (u : St × (Nat → Int64)) => r = nI (thr (inB x 0 5) (decide (S 3 0 < 12)) (true)) ∧ (thr (inB x 0 5) (decide (S 3 0 < 12)) (true) = 0 → u.2 0 = (nI (S 3 0)).toInt64)) (fun u : St × (Nat → Int64) => wC a c (if thr (inB x 0 5) (decide (S 3 0 < 12)) (true) = 0 then (up (up S 18 (S 3 0) (tn x)) 3 0 (S 3 0 + 1)) else S) u.1 ++ lo o c u.2) := by
  refine Li.of (lv0 := [(0, .ref (a 0)), (1, .int x), (2, .ref o)]) (by decide +kernel) rfl (Nat.le_of_ble_eq_true rfl) rfl (fun G KH hret => ?_)
  have K := KH.ok
  refine r_aload_n K dL_deck_0 rfl ?_
  refine r_iconst K (nI 0) dL_deck_1 (by decide) ?_
  refine r_aload_n K dL_deck_2 rfl ?_
  refine r_iload_n K dL_deck_3 rfl ?_
  refine r_xcallL (rest := [.int (nI 0), .ref o]) (z := lo o c f) KH (c_X6_deck l D a c S J hl0 hV x) 1 gL_deck_X6_deck rfl (by decide +kernel) rfl (by decide) 0 (wC_g0 _ _ _ _) rfl rfl (Nat.le_of_ble_eq_true rfl) dL_deck_4 ?_ ?_
  ·
    rintro E ⟨ht0, hE⟩
    have hle : thr (inB x 0 5) (decide (S 3 0 < 12)) (true) ≤ 2 := thr_le2 _ _
    rcases (show thr (inB x 0 5) (decide (S 3 0 < 12)) (true) = 1 ∨ thr (inB x 0 5) (decide (S 3 0 < 12)) (true) = 2 by omega) with ht | ht
    ·
      rw [ht] at hE
      obtain rfl : E = eIOB := hE
      refine ⟨12, catch_here (by decide) (by decide) (List.mem_of_getElem? (i := 1) rfl) (by decide), fun q9 => ?_⟩
      refine r_astore_n (lv' := [(0, .ref (a 0)), (1, .int x), (2, .ref o), (3, .ref q9)]) K dL_deck_12 (by decide) rfl ?_
      refine r_iconst K (nI 1) dL_deck_13 (by decide) ?_
      exact hret _ _ _ _ _ _ (J, f) dL_deck_14 ⟨by rw [ht], fun h0 => absurd h0 ht0⟩ (by rw [if_neg ht0]) (Nat.le_of_ble_eq_true rfl) (Nat.le_of_ble_eq_true rfl)
    ·
      rw [ht] at hE
      obtain rfl : E = eISE := hE
      refine ⟨15, catch_next (nm := eIOB) (by decide) (List.mem_of_getElem? (i := 1) rfl) (by decide) (by decide) (catch_here (by decide) (by decide) (List.mem_of_getElem? (i := 2) rfl) (by decide)), fun q9 => ?_⟩
      refine r_astore_n (lv' := [(0, .ref (a 0)), (1, .int x), (2, .ref o), (3, .ref q9)]) K dL_deck_15 (by decide) rfl ?_
      refine r_iconst K (nI 2) dL_deck_16 (by decide) ?_
      exact hret _ _ _ _ _ _ (J, f) dL_deck_17 ⟨by rw [ht], fun h0 => absurd h0 ht0⟩ (by rw [if_neg ht0]) (Nat.le_of_ble_eq_true rfl) (Nat.le_of_ble_eq_true rfl)
  ·
    rintro r _ ⟨ht0, rfl⟩
    refine r_i2lR K dL_deck_7 ?_
    refine r_last0 K 42 3 (f := f) rfl rfl (by decide) dL_deck_8 (ws' := wC a c (up (up S 18 (S 3 0) (tn x)) 3 0 (S 3 0 + 1)) J ++ lo o c (vp_updL f 0 ((nI (S 3 0)).toInt64))) rfl ?_
    refine r_goto K 18 dL_deck_9 (by decide) ?_
    refine r_iconst K (nI 0) dL_deck_18 (by decide) ?_
    exact hret _ _ _ _ _ _ (J, vp_updL f 0 ((nI (S 3 0)).toInt64)) dL_deck_19 ⟨by rw [ht0], fun _ => (show vp_updL f 0 ((nI (S 3 0)).toInt64) 0 = _ from (updL0 (f := f)).trans rfl)⟩ (by rw [if_pos ht0]) (Nat.le_of_ble_eq_true rfl) (Nat.le_of_ble_eq_true rfl)

def rmL_add : Room := { frames := 8, cells := 3, slots := 18, locals := 133 }
set_option maxHeartbeats 4000000 in
set_option maxRecDepth 100000 in
theorem c_L_add (l : Launch) (D : va_G) (a : Nat → Nat) (c : Nat → ClassId) (S J : St) (o : Nat) (f : Nat → Int64) (hl0 : l.stackTraces = false) (hV : V S) (x : Int32) (y : Int32) : Li l yL_add wsL_add rmL_add D (tyW c) [.ref (a 0), .int x, .int y, .ref o] (wC a c S J ++ lo o c f) (fun r (u : St × (Nat → Int64)) => r = nI (thr (inB x 0 ((S 3 0 : Nat) - 1) && inB y 0 ((S 2 0 : Nat) - 1)) (decide (S 17 (tn y) = S 18 (tn x)) && !holdB S (tn x) (tn y)) (decide (S 19 (tn x) < 10))) ∧ (thr (inB x 0 ((S 3 0 : Nat) - 1) && inB y 0 ((S 2 0 : Nat) - 1)) (decide (S 17 (tn y) = S 18 (tn x)) && !holdB S (tn x) (tn y)) (decide (S 19 (tn x) < 10)) = 0 → u.2 0 = (nI (S 19 (tn x) + 1)).toInt64)) (fun u : St × (Nat → Int64) => wC a c (if thr (inB x 0 ((S 3 0 : Nat) - 1) && inB y 0 ((S 2 0 : Nat) - 1)) (decide (S 17 (tn y) = S 18 (tn x)) && !holdB S (tn x) (tn y)) (decide (S 19 (tn x) < 10)) = 0 then (up (up S (30 + tn x) (S 19 (tn x)) (tn y)) 19 (tn x) (S 19 (tn x) + 1)) else S) u.1 ++ lo o c u.2) := by
  refine Li.of (lv0 := [(0, .ref (a 0)), (1, .int x), (2, .int y), (3, .ref o)]) (by decide +kernel) rfl (Nat.le_of_ble_eq_true rfl) rfl (fun G KH hret => ?_)
  have K := KH.ok
  refine r_aload_n K dL_add_0 rfl ?_
  refine r_iconst K (nI 0) dL_add_1 (by decide) ?_
  refine r_aload_n K dL_add_2 rfl ?_
  refine r_iload_n K dL_add_3 rfl ?_
  refine r_iload_n K dL_add_4 rfl ?_
  refine r_xcallL (rest := [.int (nI 0), .ref o]) (z := lo o c f) KH (c_X6_add l D a c S J hl0 hV x y) 2 gL_add_X6_add rfl (by decide +kernel) rfl (by decide) 0 (wC_g0 _ _ _ _) rfl rfl (Nat.le_of_ble_eq_true rfl) dL_add_5 ?_ ?_
  ·
    rintro E ⟨ht0, hE⟩
    have hle : thr (inB x 0 ((S 3 0 : Nat) - 1) && inB y 0 ((S 2 0 : Nat) - 1)) (decide (S 17 (tn y) = S 18 (tn x)) && !holdB S (tn x) (tn y)) (decide (S 19 (tn x) < 10)) ≤ 3 := thr_le3 _ _ _
    rcases (show thr (inB x 0 ((S 3 0 : Nat) - 1) && inB y 0 ((S 2 0 : Nat) - 1)) (decide (S 17 (tn y) = S 18 (tn x)) && !holdB S (tn x) (tn y)) (decide (S 19 (tn x) < 10)) = 1 ∨ thr (inB x 0 ((S 3 0 : Nat) - 1) && inB y 0 ((S 2 0 : Nat) - 1)) (decide (S 17 (tn y) = S 18 (tn x)) && !holdB S (tn x) (tn y)) (decide (S 19 (tn x) < 10)) = 2 ∨ thr (inB x 0 ((S 3 0 : Nat) - 1) && inB y 0 ((S 2 0 : Nat) - 1)) (decide (S 17 (tn y) = S 18 (tn x)) && !holdB S (tn x) (tn y)) (decide (S 19 (tn x) < 10)) = 3 by omega) with ht | ht | ht
    ·
      rw [ht] at hE
      obtain rfl : E = eIOB := hE
      refine ⟨13, catch_here (by decide) (by decide) (List.mem_of_getElem? (i := 1) rfl) (by decide), fun q9 => ?_⟩
      refine r_astore (lv' := [(0, .ref (a 0)), (1, .int x), (2, .int y), (3, .ref o), (4, .ref q9)]) K dL_add_13 (by decide) rfl ?_
      refine r_iconst K (nI 1) dL_add_15 (by decide) ?_
      exact hret _ _ _ _ _ _ (J, f) dL_add_16 ⟨by rw [ht], fun h0 => absurd h0 ht0⟩ (by rw [if_neg ht0]) (Nat.le_of_ble_eq_true rfl) (Nat.le_of_ble_eq_true rfl)
    ·
      rw [ht] at hE
      obtain rfl : E = eIAE := hE
      refine ⟨17, catch_next (nm := eIOB) (by decide) (List.mem_of_getElem? (i := 1) rfl) (by decide) (by decide) (catch_here (by decide) (by decide) (List.mem_of_getElem? (i := 2) rfl) (by decide)), fun q9 => ?_⟩
      refine r_astore (lv' := [(0, .ref (a 0)), (1, .int x), (2, .int y), (3, .ref o), (4, .ref q9)]) K dL_add_17 (by decide) rfl ?_
      refine r_iconst K (nI 2) dL_add_19 (by decide) ?_
      exact hret _ _ _ _ _ _ (J, f) dL_add_20 ⟨by rw [ht], fun h0 => absurd h0 ht0⟩ (by rw [if_neg ht0]) (Nat.le_of_ble_eq_true rfl) (Nat.le_of_ble_eq_true rfl)
    ·
      rw [ht] at hE
      obtain rfl : E = eISE := hE
      refine ⟨21, catch_next (nm := eIOB) (by decide) (List.mem_of_getElem? (i := 1) rfl) (by decide) (by decide) (catch_next (nm := eIAE) (by decide) (List.mem_of_getElem? (i := 2) rfl) (by decide) (by decide) (catch_here (by decide) (by decide) (List.mem_of_getElem? (i := 3) rfl) (by decide))), fun q9 => ?_⟩
      refine r_astore (lv' := [(0, .ref (a 0)), (1, .int x), (2, .int y), (3, .ref o), (4, .ref q9)]) K dL_add_21 (by decide) rfl ?_
      refine r_iconst K (nI 3) dL_add_23 (by decide) ?_
      exact hret _ _ _ _ _ _ (J, f) dL_add_24 ⟨by rw [ht], fun h0 => absurd h0 ht0⟩ (by rw [if_neg ht0]) (Nat.le_of_ble_eq_true rfl) (Nat.le_of_ble_eq_true rfl)
  ·
    rintro r _ ⟨ht0, rfl⟩
    refine r_i2lR K dL_add_8 ?_
    refine r_last0 K 42 3 (f := f) rfl rfl (by decide) dL_add_9 (ws' := wC a c (up (up S (30 + tn x) (S 19 (tn x)) (tn y)) 19 (tn x) (S 19 (tn x) + 1)) J ++ lo o c (vp_updL f 0 ((nI (S 19 (tn x) + 1)).toInt64))) rfl ?_
    refine r_goto K 25 dL_add_10 (by decide) ?_
    refine r_iconst K (nI 0) dL_add_25 (by decide) ?_
    exact hret _ _ _ _ _ _ (J, vp_updL f 0 ((nI (S 19 (tn x) + 1)).toInt64)) dL_add_26 ⟨by rw [ht0], fun _ => (show vp_updL f 0 ((nI (S 19 (tn x) + 1)).toInt64) 0 = _ from (updL0 (f := f)).trans rfl)⟩ (by rw [if_pos ht0]) (Nat.le_of_ble_eq_true rfl) (Nat.le_of_ble_eq_true rfl)

def rmL_cut : Room := { frames := 8, cells := 2, slots := 12, locals := 134 }
set_option maxHeartbeats 4000000 in
set_option maxRecDepth 100000 in
theorem c_L_cut (l : Launch) (D : va_G) (a : Nat → Nat) (c : Nat → ClassId) (S J : St) (o : Nat) (f : Nat → Int64) (hl0 : l.stackTraces = false) (hV : V S) (x : Int32) (y : Int32) : Li l yL_cut wsL_cut rmL_cut D (tyW c) [.ref (a 0), .int x, .int y, .ref o] (wC a c S J ++ lo o c f) (fun r (u : St × (Nat → Int64)) => r = nI (thr (inB x 0 ((S 3 0 : Nat) - 1) && inB y 0 ((S 19 (tn x) : Nat) - 1)) (true) (true)) ∧ (thr (inB x 0 ((S 3 0 : Nat) - 1) && inB y 0 ((S 19 (tn x) : Nat) - 1)) (true) (true) = 0 → u.2 0 = (nI (S (30 + tn x) (tn y))).toInt64)) (fun u : St × (Nat → Int64) => wC a c (if thr (inB x 0 ((S 3 0 : Nat) - 1) && inB y 0 ((S 19 (tn x) : Nat) - 1)) (true) (true) = 0 then (shl (up S 19 (tn x) (S 19 (tn x) - 1)) (tn x) (tn y) (S 19 (tn x) - 1 - tn y)) else S) u.1 ++ lo o c u.2) := by
  refine Li.of (lv0 := [(0, .ref (a 0)), (1, .int x), (2, .int y), (3, .ref o)]) (by decide +kernel) rfl (Nat.le_of_ble_eq_true rfl) rfl (fun G KH hret => ?_)
  have K := KH.ok
  refine r_aload_n K dL_cut_0 rfl ?_
  refine r_iconst K (nI 0) dL_cut_1 (by decide) ?_
  refine r_aload_n K dL_cut_2 rfl ?_
  refine r_iload_n K dL_cut_3 rfl ?_
  refine r_iload_n K dL_cut_4 rfl ?_
  refine r_xcallL (rest := [.int (nI 0), .ref o]) (z := lo o c f) KH (c_X6_cut l D a c S J hl0 hV x y) 2 gL_cut_X6_cut rfl (by decide +kernel) rfl (by decide) 0 (wC_g0 _ _ _ _) rfl rfl (Nat.le_of_ble_eq_true rfl) dL_cut_5 ?_ ?_
  ·
    rintro E ⟨ht0, hE⟩
    have hle : thr (inB x 0 ((S 3 0 : Nat) - 1) && inB y 0 ((S 19 (tn x) : Nat) - 1)) (true) (true) ≤ 1 := thr_le1 _
    rcases (show thr (inB x 0 ((S 3 0 : Nat) - 1) && inB y 0 ((S 19 (tn x) : Nat) - 1)) (true) (true) = 1 by omega) with ht
    ·
      rw [ht] at hE
      obtain rfl : E = eIOB := hE
      refine ⟨13, catch_here (by decide) (by decide) (List.mem_of_getElem? (i := 1) rfl) (by decide), fun q9 => ?_⟩
      refine r_astore (lv' := [(0, .ref (a 0)), (1, .int x), (2, .int y), (3, .ref o), (4, .ref q9)]) K dL_cut_13 (by decide) rfl ?_
      refine r_iconst K (nI 1) dL_cut_15 (by decide) ?_
      exact hret _ _ _ _ _ _ (J, f) dL_cut_16 ⟨by rw [ht], fun h0 => absurd h0 ht0⟩ (by rw [if_neg ht0]) (Nat.le_of_ble_eq_true rfl) (Nat.le_of_ble_eq_true rfl)
  ·
    rintro r _ ⟨ht0, rfl⟩
    refine r_i2lR K dL_cut_8 ?_
    refine r_last0 K 42 3 (f := f) rfl rfl (by decide) dL_cut_9 (ws' := wC a c (shl (up S 19 (tn x) (S 19 (tn x) - 1)) (tn x) (tn y) (S 19 (tn x) - 1 - tn y)) J ++ lo o c (vp_updL f 0 ((nI (S (30 + tn x) (tn y))).toInt64))) rfl ?_
    refine r_goto K 17 dL_cut_10 (by decide) ?_
    refine r_iconst K (nI 0) dL_cut_17 (by decide) ?_
    exact hret _ _ _ _ _ _ (J, vp_updL f 0 ((nI (S (30 + tn x) (tn y))).toInt64)) dL_cut_18 ⟨by rw [ht0], fun _ => (show vp_updL f 0 ((nI (S (30 + tn x) (tn y))).toInt64) 0 = _ from (updL0 (f := f)).trans rfl)⟩ (by rw [if_pos ht0]) (Nat.le_of_ble_eq_true rfl) (Nat.le_of_ble_eq_true rfl)

def rmL_play : Room := { frames := 8, cells := 7, slots := 42, locals := 136 }
set_option maxHeartbeats 4000000 in
set_option maxRecDepth 100000 in
theorem c_L_play (l : Launch) (D : va_G) (a : Nat → Nat) (c : Nat → ClassId) (S J : St) (o : Nat) (f : Nat → Int64) (hl0 : l.stackTraces = false) (hV : V S) (hw14 : ∀ k, S 14 k < 999999) (x : Int32) (y : Int32) (p : Int32) (q : Int32) : Li l yL_play wsL_play rmL_play D (tyW c) [.ref (a 0), .int x, .int y, .int p, .int q, .ref o] (wC a c S J ++ lo o c f) (fun r (u : St × (Nat → Int64)) => r = nI (thr (inB x 0 ((S 3 0 : Nat) - 1) && inB y 0 ((S 3 0 : Nat) - 1)) (sdB p && (sdB q && decide (S 18 (tn x) ≠ S 18 (tn y)))) (alw S (tn x) && alw S (tn y))) ∧ (thr (inB x 0 ((S 3 0 : Nat) - 1) && inB y 0 ((S 3 0 : Nat) - 1)) (sdB p && (sdB q && decide (S 18 (tn x) ≠ S 18 (tn y)))) (alw S (tn x) && alw S (tn y)) = 0 → u.2 0 = (nI (gmF S (tn x) (tn y) (tn p) (tn q)).1 - nI (gmF S (tn x) (tn y) (tn p) (tn q)).2.2.1).toInt64)) (fun u : St × (Nat → Int64) => wC a c (if thr (inB x 0 ((S 3 0 : Nat) - 1) && inB y 0 ((S 3 0 : Nat) - 1)) (sdB p && (sdB q && decide (S 18 (tn x) ≠ S 18 (tn y)))) (alw S (tn x) && alw S (tn y)) = 0 then (wonS S (tn x) (tn y) (gmF S (tn x) (tn y) (tn p) (tn q)).1 (gmF S (tn x) (tn y) (tn p) (tn q)).2.2.1) else S) u.1 ++ lo o c u.2) := by
  refine Li.of (lv0 := [(0, .ref (a 0)), (1, .int x), (2, .int y), (3, .int p), (4, .int q), (5, .ref o)]) (by decide +kernel) rfl (Nat.le_of_ble_eq_true rfl) rfl (fun G KH hret => ?_)
  have K := KH.ok
  refine r_aload K dL_play_0 rfl ?_
  refine r_iconst K (nI 0) dL_play_2 (by decide) ?_
  refine r_aload_n K dL_play_3 rfl ?_
  refine r_iload_n K dL_play_4 rfl ?_
  refine r_iload_n K dL_play_5 rfl ?_
  refine r_iload_n K dL_play_6 rfl ?_
  refine r_iload K dL_play_7 rfl ?_
  refine r_xcallL (rest := [.int (nI 0), .ref o]) (z := lo o c f) KH (c_X6_play l D a c S J hl0 hV hw14 x y p q) 4 gL_play_X6_play rfl (by decide +kernel) rfl (by decide) 0 (wC_g0 _ _ _ _) rfl rfl (Nat.le_of_ble_eq_true rfl) dL_play_9 ?_ ?_
  ·
    rintro E ⟨ht0, hE⟩
    have hle : thr (inB x 0 ((S 3 0 : Nat) - 1) && inB y 0 ((S 3 0 : Nat) - 1)) (sdB p && (sdB q && decide (S 18 (tn x) ≠ S 18 (tn y)))) (alw S (tn x) && alw S (tn y)) ≤ 3 := thr_le3 _ _ _
    rcases (show thr (inB x 0 ((S 3 0 : Nat) - 1) && inB y 0 ((S 3 0 : Nat) - 1)) (sdB p && (sdB q && decide (S 18 (tn x) ≠ S 18 (tn y)))) (alw S (tn x) && alw S (tn y)) = 1 ∨ thr (inB x 0 ((S 3 0 : Nat) - 1) && inB y 0 ((S 3 0 : Nat) - 1)) (sdB p && (sdB q && decide (S 18 (tn x) ≠ S 18 (tn y)))) (alw S (tn x) && alw S (tn y)) = 2 ∨ thr (inB x 0 ((S 3 0 : Nat) - 1) && inB y 0 ((S 3 0 : Nat) - 1)) (sdB p && (sdB q && decide (S 18 (tn x) ≠ S 18 (tn y)))) (alw S (tn x) && alw S (tn y)) = 3 by omega) with ht | ht | ht
    ·
      rw [ht] at hE
      obtain rfl : E = eIOB := hE
      refine ⟨17, catch_here (by decide) (by decide) (List.mem_of_getElem? (i := 1) rfl) (by decide), fun q9 => ?_⟩
      refine r_astore (lv' := [(0, .ref (a 0)), (1, .int x), (2, .int y), (3, .int p), (4, .int q), (5, .ref o), (6, .ref q9)]) K dL_play_17 (by decide) rfl ?_
      refine r_iconst K (nI 1) dL_play_19 (by decide) ?_
      exact hret _ _ _ _ _ _ (J, f) dL_play_20 ⟨by rw [ht], fun h0 => absurd h0 ht0⟩ (by rw [if_neg ht0]) (Nat.le_of_ble_eq_true rfl) (Nat.le_of_ble_eq_true rfl)
    ·
      rw [ht] at hE
      obtain rfl : E = eIAE := hE
      refine ⟨21, catch_next (nm := eIOB) (by decide) (List.mem_of_getElem? (i := 1) rfl) (by decide) (by decide) (catch_here (by decide) (by decide) (List.mem_of_getElem? (i := 2) rfl) (by decide)), fun q9 => ?_⟩
      refine r_astore (lv' := [(0, .ref (a 0)), (1, .int x), (2, .int y), (3, .int p), (4, .int q), (5, .ref o), (6, .ref q9)]) K dL_play_21 (by decide) rfl ?_
      refine r_iconst K (nI 2) dL_play_23 (by decide) ?_
      exact hret _ _ _ _ _ _ (J, f) dL_play_24 ⟨by rw [ht], fun h0 => absurd h0 ht0⟩ (by rw [if_neg ht0]) (Nat.le_of_ble_eq_true rfl) (Nat.le_of_ble_eq_true rfl)
    ·
      rw [ht] at hE
      obtain rfl : E = eISE := hE
      refine ⟨25, catch_next (nm := eIOB) (by decide) (List.mem_of_getElem? (i := 1) rfl) (by decide) (by decide) (catch_next (nm := eIAE) (by decide) (List.mem_of_getElem? (i := 2) rfl) (by decide) (by decide) (catch_here (by decide) (by decide) (List.mem_of_getElem? (i := 3) rfl) (by decide))), fun q9 => ?_⟩
      refine r_astore (lv' := [(0, .ref (a 0)), (1, .int x), (2, .int y), (3, .int p), (4, .int q), (5, .ref o), (6, .ref q9)]) K dL_play_25 (by decide) rfl ?_
      refine r_iconst K (nI 3) dL_play_27 (by decide) ?_
      exact hret _ _ _ _ _ _ (J, f) dL_play_28 ⟨by rw [ht], fun h0 => absurd h0 ht0⟩ (by rw [if_neg ht0]) (Nat.le_of_ble_eq_true rfl) (Nat.le_of_ble_eq_true rfl)
  ·
    rintro r u ⟨ht0, rfl⟩
    refine r_i2lR K dL_play_12 ?_
    refine r_last0 K 42 3 (f := f) rfl rfl (by decide) dL_play_13 (ws' := wC a c (wonS S (tn x) (tn y) (gmF S (tn x) (tn y) (tn p) (tn q)).1 (gmF S (tn x) (tn y) (tn p) (tn q)).2.2.1) u ++ lo o c (vp_updL f 0 ((nI (gmF S (tn x) (tn y) (tn p) (tn q)).1 - nI (gmF S (tn x) (tn y) (tn p) (tn q)).2.2.1).toInt64))) rfl ?_
    refine r_goto K 29 dL_play_14 (by decide) ?_
    refine r_iconst K (nI 0) dL_play_29 (by decide) ?_
    exact hret _ _ _ _ _ _ (u, vp_updL f 0 ((nI (gmF S (tn x) (tn y) (tn p) (tn q)).1 - nI (gmF S (tn x) (tn y) (tn p) (tn q)).2.2.1).toInt64)) dL_play_30 ⟨by rw [ht0], fun _ => (show vp_updL f 0 ((nI (gmF S (tn x) (tn y) (tn p) (tn q)).1 - nI (gmF S (tn x) (tn y) (tn p) (tn q)).2.2.1).toInt64) 0 = _ from (updL0 (f := f)).trans rfl)⟩ (by rw [if_pos ht0]) (Nat.le_of_ble_eq_true rfl) (Nat.le_of_ble_eq_true rfl)

def rmL_offer : Room := { frames := 8, cells := 3, slots := 18, locals := 133 }
set_option maxHeartbeats 4000000 in
set_option maxRecDepth 100000 in
theorem c_L_offer (l : Launch) (D : va_G) (a : Nat → Nat) (c : Nat → ClassId) (S J : St) (o : Nat) (f : Nat → Int64) (hl0 : l.stackTraces = false) (hV : V S) (x : Int32) (y : Int32) : Li l yL_offer wsL_offer rmL_offer D (tyW c) [.ref (a 0), .int x, .int y, .ref o] (wC a c S J ++ lo o c f) (fun r (u : St × (Nat → Int64)) => r = nI (thr (inB x 0 ((S 2 0 : Nat) - 1) && inB y 0 15) (decide (S 15 (tn x) ≠ tn y)) (!liveB S (tn x) && decide (S 4 0 < 40))) ∧ (thr (inB x 0 ((S 2 0 : Nat) - 1) && inB y 0 15) (decide (S 15 (tn x) ≠ tn y)) (!liveB S (tn x) && decide (S 4 0 < 40)) = 0 → u.2 0 = (nI (S 4 0)).toInt64)) (fun u : St × (Nat → Int64) => wC a c (if thr (inB x 0 ((S 2 0 : Nat) - 1) && inB y 0 15) (decide (S 15 (tn x) ≠ tn y)) (!liveB S (tn x) && decide (S 4 0 < 40)) = 0 then (up (up (up (up (up (up S 21 (S 4 0) (tn x)) 22 (S 4 0) (S 15 (tn x))) 23 (S 4 0) (tn y)) 24 (S 4 0) (S 17 (tn x))) 25 (S 4 0) 1) 4 0 (S 4 0 + 1)) else S) u.1 ++ lo o c u.2) := by
  refine Li.of (lv0 := [(0, .ref (a 0)), (1, .int x), (2, .int y), (3, .ref o)]) (by decide +kernel) rfl (Nat.le_of_ble_eq_true rfl) rfl (fun G KH hret => ?_)
  have K := KH.ok
  refine r_aload_n K dL_offer_0 rfl ?_
  refine r_iconst K (nI 0) dL_offer_1 (by decide) ?_
  refine r_aload_n K dL_offer_2 rfl ?_
  refine r_iload_n K dL_offer_3 rfl ?_
  refine r_iload_n K dL_offer_4 rfl ?_
  refine r_xcallL (rest := [.int (nI 0), .ref o]) (z := lo o c f) KH (c_X6_offer l D a c S J hl0 hV x y) 2 gL_offer_X6_offer rfl (by decide +kernel) rfl (by decide) 0 (wC_g0 _ _ _ _) rfl rfl (Nat.le_of_ble_eq_true rfl) dL_offer_5 ?_ ?_
  ·
    rintro E ⟨ht0, hE⟩
    have hle : thr (inB x 0 ((S 2 0 : Nat) - 1) && inB y 0 15) (decide (S 15 (tn x) ≠ tn y)) (!liveB S (tn x) && decide (S 4 0 < 40)) ≤ 3 := thr_le3 _ _ _
    rcases (show thr (inB x 0 ((S 2 0 : Nat) - 1) && inB y 0 15) (decide (S 15 (tn x) ≠ tn y)) (!liveB S (tn x) && decide (S 4 0 < 40)) = 1 ∨ thr (inB x 0 ((S 2 0 : Nat) - 1) && inB y 0 15) (decide (S 15 (tn x) ≠ tn y)) (!liveB S (tn x) && decide (S 4 0 < 40)) = 2 ∨ thr (inB x 0 ((S 2 0 : Nat) - 1) && inB y 0 15) (decide (S 15 (tn x) ≠ tn y)) (!liveB S (tn x) && decide (S 4 0 < 40)) = 3 by omega) with ht | ht | ht
    ·
      rw [ht] at hE
      obtain rfl : E = eIOB := hE
      refine ⟨13, catch_here (by decide) (by decide) (List.mem_of_getElem? (i := 1) rfl) (by decide), fun q9 => ?_⟩
      refine r_astore (lv' := [(0, .ref (a 0)), (1, .int x), (2, .int y), (3, .ref o), (4, .ref q9)]) K dL_offer_13 (by decide) rfl ?_
      refine r_iconst K (nI 1) dL_offer_15 (by decide) ?_
      exact hret _ _ _ _ _ _ (J, f) dL_offer_16 ⟨by rw [ht], fun h0 => absurd h0 ht0⟩ (by rw [if_neg ht0]) (Nat.le_of_ble_eq_true rfl) (Nat.le_of_ble_eq_true rfl)
    ·
      rw [ht] at hE
      obtain rfl : E = eIAE := hE
      refine ⟨17, catch_next (nm := eIOB) (by decide) (List.mem_of_getElem? (i := 1) rfl) (by decide) (by decide) (catch_here (by decide) (by decide) (List.mem_of_getElem? (i := 2) rfl) (by decide)), fun q9 => ?_⟩
      refine r_astore (lv' := [(0, .ref (a 0)), (1, .int x), (2, .int y), (3, .ref o), (4, .ref q9)]) K dL_offer_17 (by decide) rfl ?_
      refine r_iconst K (nI 2) dL_offer_19 (by decide) ?_
      exact hret _ _ _ _ _ _ (J, f) dL_offer_20 ⟨by rw [ht], fun h0 => absurd h0 ht0⟩ (by rw [if_neg ht0]) (Nat.le_of_ble_eq_true rfl) (Nat.le_of_ble_eq_true rfl)
    ·
      rw [ht] at hE
      obtain rfl : E = eISE := hE
      refine ⟨21, catch_next (nm := eIOB) (by decide) (List.mem_of_getElem? (i := 1) rfl) (by decide) (by decide) (catch_next (nm := eIAE) (by decide) (List.mem_of_getElem? (i := 2) rfl) (by decide) (by decide) (catch_here (by decide) (by decide) (List.mem_of_getElem? (i := 3) rfl) (by decide))), fun q9 => ?_⟩
      refine r_astore (lv' := [(0, .ref (a 0)), (1, .int x), (2, .int y), (3, .ref o), (4, .ref q9)]) K dL_offer_21 (by decide) rfl ?_
      refine r_iconst K (nI 3) dL_offer_23 (by decide) ?_
      exact hret _ _ _ _ _ _ (J, f) dL_offer_24 ⟨by rw [ht], fun h0 => absurd h0 ht0⟩ (by rw [if_neg ht0]) (Nat.le_of_ble_eq_true rfl) (Nat.le_of_ble_eq_true rfl)
  ·
    rintro r _ ⟨ht0, rfl⟩
    refine r_i2lR K dL_offer_8 ?_
    refine r_last0 K 42 3 (f := f) rfl rfl (by decide) dL_offer_9 (ws' := wC a c (up (up (up (up (up (up S 21 (S 4 0) (tn x)) 22 (S 4 0) (S 15 (tn x))) 23 (S 4 0) (tn y)) 24 (S 4 0) (S 17 (tn x))) 25 (S 4 0) 1) 4 0 (S 4 0 + 1)) J ++ lo o c (vp_updL f 0 ((nI (S 4 0)).toInt64))) rfl ?_
    refine r_goto K 25 dL_offer_10 (by decide) ?_
    refine r_iconst K (nI 0) dL_offer_25 (by decide) ?_
    exact hret _ _ _ _ _ _ (J, vp_updL f 0 ((nI (S 4 0)).toInt64)) dL_offer_26 ⟨by rw [ht0], fun _ => (show vp_updL f 0 ((nI (S 4 0)).toInt64) 0 = _ from (updL0 (f := f)).trans rfl)⟩ (by rw [if_pos ht0]) (Nat.le_of_ble_eq_true rfl) (Nat.le_of_ble_eq_true rfl)

def rmL_takeBack : Room := { frames := 8, cells := 2, slots := 12, locals := 132 }
set_option maxHeartbeats 4000000 in
set_option maxRecDepth 100000 in
theorem c_L_takeBack (l : Launch) (D : va_G) (a : Nat → Nat) (c : Nat → ClassId) (S J : St) (o : Nat) (f : Nat → Int64) (hl0 : l.stackTraces = false) (hV : V S) (x : Int32) : Li l yL_takeBack wsL_takeBack rmL_takeBack D (tyW c) [.ref (a 0), .int x, .ref o] (wC a c S J ++ lo o c f) (fun r (u : St × (Nat → Int64)) => r = nI (thr (inB x 0 ((S 4 0 : Nat) - 1)) (decide (S 25 (tn x) ≠ 0)) (true)) ∧ (thr (inB x 0 ((S 4 0 : Nat) - 1)) (decide (S 25 (tn x) ≠ 0)) (true) = 0 → u.2 0 = (nI (S 21 (tn x))).toInt64)) (fun u : St × (Nat → Int64) => wC a c (if thr (inB x 0 ((S 4 0 : Nat) - 1)) (decide (S 25 (tn x) ≠ 0)) (true) = 0 then (up S 25 (tn x) 0) else S) u.1 ++ lo o c u.2) := by
  refine Li.of (lv0 := [(0, .ref (a 0)), (1, .int x), (2, .ref o)]) (by decide +kernel) rfl (Nat.le_of_ble_eq_true rfl) rfl (fun G KH hret => ?_)
  have K := KH.ok
  refine r_aload_n K dL_takeBack_0 rfl ?_
  refine r_iconst K (nI 0) dL_takeBack_1 (by decide) ?_
  refine r_aload_n K dL_takeBack_2 rfl ?_
  refine r_iload_n K dL_takeBack_3 rfl ?_
  refine r_xcallL (rest := [.int (nI 0), .ref o]) (z := lo o c f) KH (c_X6_takeBack l D a c S J hl0 hV x) 1 gL_takeBack_X6_takeBack rfl (by decide +kernel) rfl (by decide) 0 (wC_g0 _ _ _ _) rfl rfl (Nat.le_of_ble_eq_true rfl) dL_takeBack_4 ?_ ?_
  ·
    rintro E ⟨ht0, hE⟩
    have hle : thr (inB x 0 ((S 4 0 : Nat) - 1)) (decide (S 25 (tn x) ≠ 0)) (true) ≤ 2 := thr_le2 _ _
    rcases (show thr (inB x 0 ((S 4 0 : Nat) - 1)) (decide (S 25 (tn x) ≠ 0)) (true) = 1 ∨ thr (inB x 0 ((S 4 0 : Nat) - 1)) (decide (S 25 (tn x) ≠ 0)) (true) = 2 by omega) with ht | ht
    ·
      rw [ht] at hE
      obtain rfl : E = eIOB := hE
      refine ⟨12, catch_here (by decide) (by decide) (List.mem_of_getElem? (i := 1) rfl) (by decide), fun q9 => ?_⟩
      refine r_astore_n (lv' := [(0, .ref (a 0)), (1, .int x), (2, .ref o), (3, .ref q9)]) K dL_takeBack_12 (by decide) rfl ?_
      refine r_iconst K (nI 1) dL_takeBack_13 (by decide) ?_
      exact hret _ _ _ _ _ _ (J, f) dL_takeBack_14 ⟨by rw [ht], fun h0 => absurd h0 ht0⟩ (by rw [if_neg ht0]) (Nat.le_of_ble_eq_true rfl) (Nat.le_of_ble_eq_true rfl)
    ·
      rw [ht] at hE
      obtain rfl : E = eISE := hE
      refine ⟨15, catch_next (nm := eIOB) (by decide) (List.mem_of_getElem? (i := 1) rfl) (by decide) (by decide) (catch_here (by decide) (by decide) (List.mem_of_getElem? (i := 2) rfl) (by decide)), fun q9 => ?_⟩
      refine r_astore_n (lv' := [(0, .ref (a 0)), (1, .int x), (2, .ref o), (3, .ref q9)]) K dL_takeBack_15 (by decide) rfl ?_
      refine r_iconst K (nI 2) dL_takeBack_16 (by decide) ?_
      exact hret _ _ _ _ _ _ (J, f) dL_takeBack_17 ⟨by rw [ht], fun h0 => absurd h0 ht0⟩ (by rw [if_neg ht0]) (Nat.le_of_ble_eq_true rfl) (Nat.le_of_ble_eq_true rfl)
  ·
    rintro r _ ⟨ht0, rfl⟩
    refine r_i2lR K dL_takeBack_7 ?_
    refine r_last0 K 42 3 (f := f) rfl rfl (by decide) dL_takeBack_8 (ws' := wC a c (up S 25 (tn x) 0) J ++ lo o c (vp_updL f 0 ((nI (S 21 (tn x))).toInt64))) rfl ?_
    refine r_goto K 18 dL_takeBack_9 (by decide) ?_
    refine r_iconst K (nI 0) dL_takeBack_18 (by decide) ?_
    exact hret _ _ _ _ _ _ (J, vp_updL f 0 ((nI (S 21 (tn x))).toInt64)) dL_takeBack_19 ⟨by rw [ht0], fun _ => (show vp_updL f 0 ((nI (S 21 (tn x))).toInt64) 0 = _ from (updL0 (f := f)).trans rfl)⟩ (by rw [if_pos ht0]) (Nat.le_of_ble_eq_true rfl) (Nat.le_of_ble_eq_true rfl)

def rmL_printOf : Room := { frames := 8, cells := 1, slots := 6, locals := 132 }
set_option maxHeartbeats 4000000 in
set_option maxRecDepth 100000 in
theorem c_L_printOf (l : Launch) (D : va_G) (a : Nat → Nat) (c : Nat → ClassId) (S J : St) (o : Nat) (f : Nat → Int64) (hl0 : l.stackTraces = false) (hV : V S) (x : Int32) : Li l yL_printOf wsL_printOf rmL_printOf D (tyW c) [.ref (a 0), .int x, .ref o] (wC a c S J ++ lo o c f) (fun r (u : St × (Nat → Int64)) => r = nI (thr (inB x 0 ((S 2 0 : Nat) - 1)) (true) (true)) ∧ (thr (inB x 0 ((S 2 0 : Nat) - 1)) (true) (true) = 0 → u.2 0 = (nI (100 * S 15 (tn x) + S 16 (tn x))).toInt64)) (fun u : St × (Nat → Int64) => wC a c (if thr (inB x 0 ((S 2 0 : Nat) - 1)) (true) (true) = 0 then (S) else S) u.1 ++ lo o c u.2) := by
  refine Li.of (lv0 := [(0, .ref (a 0)), (1, .int x), (2, .ref o)]) (by decide +kernel) rfl (Nat.le_of_ble_eq_true rfl) rfl (fun G KH hret => ?_)
  have K := KH.ok
  refine r_aload_n K dL_printOf_0 rfl ?_
  refine r_iconst K (nI 0) dL_printOf_1 (by decide) ?_
  refine r_aload_n K dL_printOf_2 rfl ?_
  refine r_iload_n K dL_printOf_3 rfl ?_
  refine r_xcallL (rest := [.int (nI 0), .ref o]) (z := lo o c f) KH (c_X6_printOf l D a c S J hl0 hV x) 1 gL_printOf_X6_printOf rfl (by decide +kernel) rfl (by decide) 0 (wC_g0 _ _ _ _) rfl rfl (Nat.le_of_ble_eq_true rfl) dL_printOf_4 ?_ ?_
  ·
    rintro E ⟨ht0, hE⟩
    have hle : thr (inB x 0 ((S 2 0 : Nat) - 1)) (true) (true) ≤ 1 := thr_le1 _
    rcases (show thr (inB x 0 ((S 2 0 : Nat) - 1)) (true) (true) = 1 by omega) with ht
    ·
      rw [ht] at hE
      obtain rfl : E = eIOB := hE
      refine ⟨12, catch_here (by decide) (by decide) (List.mem_of_getElem? (i := 1) rfl) (by decide), fun q9 => ?_⟩
      refine r_astore_n (lv' := [(0, .ref (a 0)), (1, .int x), (2, .ref o), (3, .ref q9)]) K dL_printOf_12 (by decide) rfl ?_
      refine r_iconst K (nI 1) dL_printOf_13 (by decide) ?_
      exact hret _ _ _ _ _ _ (J, f) dL_printOf_14 ⟨by rw [ht], fun h0 => absurd h0 ht0⟩ (by rw [if_neg ht0]) (Nat.le_of_ble_eq_true rfl) (Nat.le_of_ble_eq_true rfl)
  ·
    rintro r _ ⟨ht0, rfl⟩
    refine r_i2lR K dL_printOf_7 ?_
    refine r_last0 K 42 3 (f := f) rfl rfl (by decide) dL_printOf_8 (ws' := wC a c (S) J ++ lo o c (vp_updL f 0 ((nI (100 * S 15 (tn x) + S 16 (tn x))).toInt64))) rfl ?_
    refine r_goto K 15 dL_printOf_9 (by decide) ?_
    refine r_iconst K (nI 0) dL_printOf_15 (by decide) ?_
    exact hret _ _ _ _ _ _ (J, vp_updL f 0 ((nI (100 * S 15 (tn x) + S 16 (tn x))).toInt64)) dL_printOf_16 ⟨by rw [ht0], fun _ => (show vp_updL f 0 ((nI (100 * S 15 (tn x) + S 16 (tn x))).toInt64) 0 = _ from (updL0 (f := f)).trans rfl)⟩ (by rw [if_pos ht0]) (Nat.le_of_ble_eq_true rfl) (Nat.le_of_ble_eq_true rfl)

def rmL_collectorOf : Room := { frames := 8, cells := 1, slots := 6, locals := 132 }
set_option maxHeartbeats 4000000 in
set_option maxRecDepth 100000 in
theorem c_L_collectorOf (l : Launch) (D : va_G) (a : Nat → Nat) (c : Nat → ClassId) (S J : St) (o : Nat) (f : Nat → Int64) (hl0 : l.stackTraces = false) (hV : V S) (x : Int32) : Li l yL_collectorOf wsL_collectorOf rmL_collectorOf D (tyW c) [.ref (a 0), .int x, .ref o] (wC a c S J ++ lo o c f) (fun r (u : St × (Nat → Int64)) => r = nI (thr (inB x 0 ((S 2 0 : Nat) - 1)) (true) (true)) ∧ (thr (inB x 0 ((S 2 0 : Nat) - 1)) (true) (true) = 0 → u.2 0 = (nI (S 17 (tn x))).toInt64)) (fun u : St × (Nat → Int64) => wC a c (if thr (inB x 0 ((S 2 0 : Nat) - 1)) (true) (true) = 0 then (S) else S) u.1 ++ lo o c u.2) := by
  refine Li.of (lv0 := [(0, .ref (a 0)), (1, .int x), (2, .ref o)]) (by decide +kernel) rfl (Nat.le_of_ble_eq_true rfl) rfl (fun G KH hret => ?_)
  have K := KH.ok
  refine r_aload_n K dL_collectorOf_0 rfl ?_
  refine r_iconst K (nI 0) dL_collectorOf_1 (by decide) ?_
  refine r_aload_n K dL_collectorOf_2 rfl ?_
  refine r_iload_n K dL_collectorOf_3 rfl ?_
  refine r_xcallL (rest := [.int (nI 0), .ref o]) (z := lo o c f) KH (c_X6_collectorOf l D a c S J hl0 hV x) 1 gL_collectorOf_X6_collectorOf rfl (by decide +kernel) rfl (by decide) 0 (wC_g0 _ _ _ _) rfl rfl (Nat.le_of_ble_eq_true rfl) dL_collectorOf_4 ?_ ?_
  ·
    rintro E ⟨ht0, hE⟩
    have hle : thr (inB x 0 ((S 2 0 : Nat) - 1)) (true) (true) ≤ 1 := thr_le1 _
    rcases (show thr (inB x 0 ((S 2 0 : Nat) - 1)) (true) (true) = 1 by omega) with ht
    ·
      rw [ht] at hE
      obtain rfl : E = eIOB := hE
      refine ⟨12, catch_here (by decide) (by decide) (List.mem_of_getElem? (i := 1) rfl) (by decide), fun q9 => ?_⟩
      refine r_astore_n (lv' := [(0, .ref (a 0)), (1, .int x), (2, .ref o), (3, .ref q9)]) K dL_collectorOf_12 (by decide) rfl ?_
      refine r_iconst K (nI 1) dL_collectorOf_13 (by decide) ?_
      exact hret _ _ _ _ _ _ (J, f) dL_collectorOf_14 ⟨by rw [ht], fun h0 => absurd h0 ht0⟩ (by rw [if_neg ht0]) (Nat.le_of_ble_eq_true rfl) (Nat.le_of_ble_eq_true rfl)
  ·
    rintro r _ ⟨ht0, rfl⟩
    refine r_i2lR K dL_collectorOf_7 ?_
    refine r_last0 K 42 3 (f := f) rfl rfl (by decide) dL_collectorOf_8 (ws' := wC a c (S) J ++ lo o c (vp_updL f 0 ((nI (S 17 (tn x))).toInt64))) rfl ?_
    refine r_goto K 15 dL_collectorOf_9 (by decide) ?_
    refine r_iconst K (nI 0) dL_collectorOf_15 (by decide) ?_
    exact hret _ _ _ _ _ _ (J, vp_updL f 0 ((nI (S 17 (tn x))).toInt64)) dL_collectorOf_16 ⟨by rw [ht0], fun _ => (show vp_updL f 0 ((nI (S 17 (tn x))).toInt64) 0 = _ from (updL0 (f := f)).trans rfl)⟩ (by rw [if_pos ht0]) (Nat.le_of_ble_eq_true rfl) (Nat.le_of_ble_eq_true rfl)

def rmL_has : Room := { frames := 8, cells := 2, slots := 12, locals := 132 }
set_option maxHeartbeats 4000000 in
set_option maxRecDepth 100000 in
theorem c_L_has (l : Launch) (D : va_G) (a : Nat → Nat) (c : Nat → ClassId) (S J : St) (o : Nat) (f : Nat → Int64) (hl0 : l.stackTraces = false) (hV : V S) (x : Int32) (y : Int32) : Li l yL_has wsL_has rmL_has D (tyW c) [.ref (a 0), .int x, .int y, .ref o] (wC a c S J ++ lo o c f) (fun r (u : St × (Nat → Int64)) => r = nI (thr (inB x 0 5 && inB y 0 15) (true) (true)) ∧ (thr (inB x 0 5 && inB y 0 15) (true) (true) = 0 → u.2 0 = (nI (hasN S (tn x) (tn y))).toInt64)) (fun u : St × (Nat → Int64) => wC a c (if thr (inB x 0 5 && inB y 0 15) (true) (true) = 0 then (S) else S) u.1 ++ lo o c u.2) := by
  refine Li.of (lv0 := [(0, .ref (a 0)), (1, .int x), (2, .int y), (3, .ref o)]) (by decide +kernel) rfl (Nat.le_of_ble_eq_true rfl) rfl (fun G KH hret => ?_)
  have K := KH.ok
  refine r_aload_n K dL_has_0 rfl ?_
  refine r_iconst K (nI 0) dL_has_1 (by decide) ?_
  refine r_aload_n K dL_has_2 rfl ?_
  refine r_iload_n K dL_has_3 rfl ?_
  refine r_iload_n K dL_has_4 rfl ?_
  refine r_xcallL (rest := [.int (nI 0), .ref o]) (z := lo o c f) KH (c_X6_has l D a c S J hl0 hV x y) 2 gL_has_X6_has rfl (by decide +kernel) rfl (by decide) 0 (wC_g0 _ _ _ _) rfl rfl (Nat.le_of_ble_eq_true rfl) dL_has_5 ?_ ?_
  ·
    rintro E ⟨ht0, hE⟩
    have hle : thr (inB x 0 5 && inB y 0 15) (true) (true) ≤ 1 := thr_le1 _
    rcases (show thr (inB x 0 5 && inB y 0 15) (true) (true) = 1 by omega) with ht
    ·
      rw [ht] at hE
      obtain rfl : E = eIOB := hE
      refine ⟨13, catch_here (by decide) (by decide) (List.mem_of_getElem? (i := 1) rfl) (by decide), fun q9 => ?_⟩
      refine r_astore (lv' := [(0, .ref (a 0)), (1, .int x), (2, .int y), (3, .ref o), (4, .ref q9)]) K dL_has_13 (by decide) rfl ?_
      refine r_iconst K (nI 1) dL_has_15 (by decide) ?_
      exact hret _ _ _ _ _ _ (J, f) dL_has_16 ⟨by rw [ht], fun h0 => absurd h0 ht0⟩ (by rw [if_neg ht0]) (Nat.le_of_ble_eq_true rfl) (Nat.le_of_ble_eq_true rfl)
  ·
    rintro r _ ⟨ht0, rfl⟩
    refine r_i2lR K dL_has_8 ?_
    refine r_last0 K 42 3 (f := f) rfl rfl (by decide) dL_has_9 (ws' := wC a c (S) J ++ lo o c (vp_updL f 0 ((nI (hasN S (tn x) (tn y))).toInt64))) rfl ?_
    refine r_goto K 17 dL_has_10 (by decide) ?_
    refine r_iconst K (nI 0) dL_has_17 (by decide) ?_
    exact hret _ _ _ _ _ _ (J, vp_updL f 0 ((nI (hasN S (tn x) (tn y))).toInt64)) dL_has_18 ⟨by rw [ht0], fun _ => (show vp_updL f 0 ((nI (hasN S (tn x) (tn y))).toInt64) 0 = _ from (updL0 (f := f)).trans rfl)⟩ (by rw [if_pos ht0]) (Nat.le_of_ble_eq_true rfl) (Nat.le_of_ble_eq_true rfl)

def rmL_wins : Room := { frames := 8, cells := 1, slots := 6, locals := 131 }
set_option maxHeartbeats 4000000 in
set_option maxRecDepth 100000 in
theorem c_L_wins (l : Launch) (D : va_G) (a : Nat → Nat) (c : Nat → ClassId) (S J : St) (o : Nat) (f : Nat → Int64) (hl0 : l.stackTraces = false) (hV : V S) (x : Int32) : Li l yL_wins wsL_wins rmL_wins D (tyW c) [.ref (a 0), .int x, .ref o] (wC a c S J ++ lo o c f) (fun r (u : St × (Nat → Int64)) => r = nI (thr (inB x 0 15) (true) (true)) ∧ (thr (inB x 0 15) (true) (true) = 0 → u.2 0 = (nI (S 14 (tn x))).toInt64)) (fun u : St × (Nat → Int64) => wC a c (if thr (inB x 0 15) (true) (true) = 0 then (S) else S) u.1 ++ lo o c u.2) := by
  refine Li.of (lv0 := [(0, .ref (a 0)), (1, .int x), (2, .ref o)]) (by decide +kernel) rfl (Nat.le_of_ble_eq_true rfl) rfl (fun G KH hret => ?_)
  have K := KH.ok
  refine r_aload_n K dL_wins_0 rfl ?_
  refine r_iconst K (nI 0) dL_wins_1 (by decide) ?_
  refine r_aload_n K dL_wins_2 rfl ?_
  refine r_iload_n K dL_wins_3 rfl ?_
  refine r_xcallL (rest := [.int (nI 0), .ref o]) (z := lo o c f) KH (c_X6_wins l D a c S J hl0 hV x) 1 gL_wins_X6_wins rfl (by decide +kernel) rfl (by decide) 0 (wC_g0 _ _ _ _) rfl rfl (Nat.le_of_ble_eq_true rfl) dL_wins_4 ?_ ?_
  ·
    rintro E ⟨ht0, hE⟩
    have hle : thr (inB x 0 15) (true) (true) ≤ 1 := thr_le1 _
    rcases (show thr (inB x 0 15) (true) (true) = 1 by omega) with ht
    ·
      rw [ht] at hE
      obtain rfl : E = eIOB := hE
      refine ⟨12, catch_here (by decide) (by decide) (List.mem_of_getElem? (i := 1) rfl) (by decide), fun q9 => ?_⟩
      refine r_astore_n (lv' := [(0, .ref (a 0)), (1, .int x), (2, .ref o), (3, .ref q9)]) K dL_wins_12 (by decide) rfl ?_
      refine r_iconst K (nI 1) dL_wins_13 (by decide) ?_
      exact hret _ _ _ _ _ _ (J, f) dL_wins_14 ⟨by rw [ht], fun h0 => absurd h0 ht0⟩ (by rw [if_neg ht0]) (Nat.le_of_ble_eq_true rfl) (Nat.le_of_ble_eq_true rfl)
  ·
    rintro r _ ⟨ht0, rfl⟩
    refine r_i2lR K dL_wins_7 ?_
    refine r_last0 K 42 3 (f := f) rfl rfl (by decide) dL_wins_8 (ws' := wC a c (S) J ++ lo o c (vp_updL f 0 ((nI (S 14 (tn x))).toInt64))) rfl ?_
    refine r_goto K 15 dL_wins_9 (by decide) ?_
    refine r_iconst K (nI 0) dL_wins_15 (by decide) ?_
    exact hret _ _ _ _ _ _ (J, vp_updL f 0 ((nI (S 14 (tn x))).toInt64)) dL_wins_16 ⟨by rw [ht0], fun _ => (show vp_updL f 0 ((nI (S 14 (tn x))).toInt64) 0 = _ from (updL0 (f := f)).trans rfl)⟩ (by rw [if_pos ht0]) (Nat.le_of_ble_eq_true rfl) (Nat.le_of_ble_eq_true rfl)

def rmL_price : Room := { frames := 8, cells := 1, slots := 6, locals := 132 }
set_option maxHeartbeats 4000000 in
set_option maxRecDepth 100000 in
theorem c_L_price (l : Launch) (D : va_G) (a : Nat → Nat) (c : Nat → ClassId) (S J : St) (o : Nat) (f : Nat → Int64) (hl0 : l.stackTraces = false) (hV : V S) (x : Int32) : Li l yL_price wsL_price rmL_price D (tyW c) [.ref (a 0), .int x, .ref o] (wC a c S J ++ lo o c f) (fun r (u : St × (Nat → Int64)) => r = nI (thr (inB x 0 15) (true) (true)) ∧ (thr (inB x 0 15) (true) (true) = 0 → u.2 0 = (nI (prc S (tn x))).toInt64)) (fun u : St × (Nat → Int64) => wC a c (if thr (inB x 0 15) (true) (true) = 0 then (S) else S) u.1 ++ lo o c u.2) := by
  refine Li.of (lv0 := [(0, .ref (a 0)), (1, .int x), (2, .ref o)]) (by decide +kernel) rfl (Nat.le_of_ble_eq_true rfl) rfl (fun G KH hret => ?_)
  have K := KH.ok
  refine r_aload_n K dL_price_0 rfl ?_
  refine r_iconst K (nI 0) dL_price_1 (by decide) ?_
  refine r_aload_n K dL_price_2 rfl ?_
  refine r_iload_n K dL_price_3 rfl ?_
  refine r_xcallL (rest := [.int (nI 0), .ref o]) (z := lo o c f) KH (c_X6_price l D a c S J hl0 hV x) 1 gL_price_X6_price rfl (by decide +kernel) rfl (by decide) 0 (wC_g0 _ _ _ _) rfl rfl (Nat.le_of_ble_eq_true rfl) dL_price_4 ?_ ?_
  ·
    rintro E ⟨ht0, hE⟩
    have hle : thr (inB x 0 15) (true) (true) ≤ 1 := thr_le1 _
    rcases (show thr (inB x 0 15) (true) (true) = 1 by omega) with ht
    ·
      rw [ht] at hE
      obtain rfl : E = eIOB := hE
      refine ⟨12, catch_here (by decide) (by decide) (List.mem_of_getElem? (i := 1) rfl) (by decide), fun q9 => ?_⟩
      refine r_astore_n (lv' := [(0, .ref (a 0)), (1, .int x), (2, .ref o), (3, .ref q9)]) K dL_price_12 (by decide) rfl ?_
      refine r_iconst K (nI 1) dL_price_13 (by decide) ?_
      exact hret _ _ _ _ _ _ (J, f) dL_price_14 ⟨by rw [ht], fun h0 => absurd h0 ht0⟩ (by rw [if_neg ht0]) (Nat.le_of_ble_eq_true rfl) (Nat.le_of_ble_eq_true rfl)
  ·
    rintro r _ ⟨ht0, rfl⟩
    refine r_i2lR K dL_price_7 ?_
    refine r_last0 K 42 3 (f := f) rfl rfl (by decide) dL_price_8 (ws' := wC a c (S) J ++ lo o c (vp_updL f 0 ((nI (prc S (tn x))).toInt64))) rfl ?_
    refine r_goto K 15 dL_price_9 (by decide) ?_
    refine r_iconst K (nI 0) dL_price_15 (by decide) ?_
    exact hret _ _ _ _ _ _ (J, vp_updL f 0 ((nI (prc S (tn x))).toInt64)) dL_price_16 ⟨by rw [ht0], fun _ => (show vp_updL f 0 ((nI (prc S (tn x))).toInt64) 0 = _ from (updL0 (f := f)).trans rfl)⟩ (by rw [if_pos ht0]) (Nat.le_of_ble_eq_true rfl) (Nat.le_of_ble_eq_true rfl)

def rmL_isAllowed : Room := { frames := 8, cells := 1, slots := 6, locals := 132 }
set_option maxHeartbeats 4000000 in
set_option maxRecDepth 100000 in
theorem c_L_isAllowed (l : Launch) (D : va_G) (a : Nat → Nat) (c : Nat → ClassId) (S J : St) (o : Nat) (f : Nat → Int64) (hl0 : l.stackTraces = false) (hV : V S) (x : Int32) : Li l yL_isAllowed wsL_isAllowed rmL_isAllowed D (tyW c) [.ref (a 0), .int x, .ref o] (wC a c S J ++ lo o c f) (fun r (u : St × (Nat → Int64)) => r = nI (thr (inB x 0 ((S 3 0 : Nat) - 1)) (true) (true)) ∧ (thr (inB x 0 ((S 3 0 : Nat) - 1)) (true) (true) = 0 → u.2 0 = (nI (alw S (tn x)).toNat).toInt64)) (fun u : St × (Nat → Int64) => wC a c (if thr (inB x 0 ((S 3 0 : Nat) - 1)) (true) (true) = 0 then (S) else S) u.1 ++ lo o c u.2) := by
  refine Li.of (lv0 := [(0, .ref (a 0)), (1, .int x), (2, .ref o)]) (by decide +kernel) rfl (Nat.le_of_ble_eq_true rfl) rfl (fun G KH hret => ?_)
  have K := KH.ok
  refine r_aload_n K dL_isAllowed_0 rfl ?_
  refine r_iconst K (nI 0) dL_isAllowed_1 (by decide) ?_
  refine r_aload_n K dL_isAllowed_2 rfl ?_
  refine r_iload_n K dL_isAllowed_3 rfl ?_
  refine r_xcallL (rest := [.int (nI 0), .ref o]) (z := lo o c f) KH (c_X6_isAllowed l D a c S J hl0 hV x) 1 gL_isAllowed_X6_isAllowed rfl (by decide +kernel) rfl (by decide) 0 (wC_g0 _ _ _ _) rfl rfl (Nat.le_of_ble_eq_true rfl) dL_isAllowed_4 ?_ ?_
  ·
    rintro E ⟨ht0, hE⟩
    have hle : thr (inB x 0 ((S 3 0 : Nat) - 1)) (true) (true) ≤ 1 := thr_le1 _
    rcases (show thr (inB x 0 ((S 3 0 : Nat) - 1)) (true) (true) = 1 by omega) with ht
    ·
      rw [ht] at hE
      obtain rfl : E = eIOB := hE
      refine ⟨19, catch_here (by decide) (by decide) (List.mem_of_getElem? (i := 1) rfl) (by decide), fun q9 => ?_⟩
      refine r_astore_n (lv' := [(0, .ref (a 0)), (1, .int x), (2, .ref o), (3, .ref q9)]) K dL_isAllowed_19 (by decide) rfl ?_
      refine r_iconst K (nI 1) dL_isAllowed_20 (by decide) ?_
      exact hret _ _ _ _ _ _ (J, f) dL_isAllowed_21 ⟨by rw [ht], fun h0 => absurd h0 ht0⟩ (by rw [if_neg ht0]) (Nat.le_of_ble_eq_true rfl) (Nat.le_of_ble_eq_true rfl)
  ·
    rintro r _ ⟨ht0, rfl⟩
    refine r_if_eqB K 14 dL_isAllowed_7 (by decide) (fun h => ?_) (fun h => ?_)
    ·
      refine r_lconst K (lN 0) dL_isAllowed_14 (by decide) ?_
      refine r_last0 K 42 3 (f := f) rfl rfl (by decide) dL_isAllowed_15 (ws' := wC a c (S) J ++ lo o c (vp_updL f 0 (lN 0))) rfl ?_
      refine r_goto K 22 dL_isAllowed_16 (by decide) ?_
      refine r_iconst K (nI 0) dL_isAllowed_22 (by decide) ?_
      exact hret _ _ _ _ _ _ (J, vp_updL f 0 (lN 0)) dL_isAllowed_23 ⟨by rw [ht0], fun _ => (show vp_updL f 0 (lN 0) 0 = _ from (updL0 (f := f)).trans (by rw [h]; decide))⟩ (by rw [if_pos ht0]) (Nat.le_of_ble_eq_true rfl) (Nat.le_of_ble_eq_true rfl)
    ·
      refine r_lconst K (lN 1) dL_isAllowed_10 (by decide) ?_
      refine r_goto K 15 dL_isAllowed_11 (by decide) ?_
      refine r_last0 K 42 3 (f := f) rfl rfl (by decide) dL_isAllowed_15 (ws' := wC a c (S) J ++ lo o c (vp_updL f 0 (lN 1))) rfl ?_
      refine r_goto K 22 dL_isAllowed_16 (by decide) ?_
      refine r_iconst K (nI 0) dL_isAllowed_22 (by decide) ?_
      exact hret _ _ _ _ _ _ (J, vp_updL f 0 (lN 1)) dL_isAllowed_23 ⟨by rw [ht0], fun _ => (show vp_updL f 0 (lN 1) 0 = _ from (updL0 (f := f)).trans (by rw [h]; decide))⟩ (by rw [if_pos ht0]) (Nat.le_of_ble_eq_true rfl) (Nat.le_of_ble_eq_true rfl)

def rmL_shuffled : Room := { frames := 8, cells := 3, slots := 18, locals := 135 }
set_option maxHeartbeats 4000000 in
set_option maxRecDepth 100000 in
theorem c_L_shuffled (l : Launch) (D : va_G) (a : Nat → Nat) (c : Nat → ClassId) (S J : St) (o : Nat) (f : Nat → Int64) (hl0 : l.stackTraces = false) (hV : V S) (x : Int32) (y : Int32) (z : Int32) : Li l yL_shuffled wsL_shuffled rmL_shuffled D (tyW c) [.ref (a 0), .int x, .int y, .int z, .ref o] (wC a c S J ++ lo o c f) (fun r (u : St × (Nat → Int64)) => r = nI (thr (inB x 0 ((S 3 0 : Nat) - 1) && inB z 0 ((S 19 (tn x) : Nat) - 1)) (sdB y) (true)) ∧ (thr (inB x 0 ((S 3 0 : Nat) - 1) && inB z 0 ((S 19 (tn x) : Nat) - 1)) (sdB y) (true) = 0 → u.2 0 = (nI (shuf S (tn x) (tn y) (tn z))).toInt64)) (fun u : St × (Nat → Int64) => wC a c (if thr (inB x 0 ((S 3 0 : Nat) - 1) && inB z 0 ((S 19 (tn x) : Nat) - 1)) (sdB y) (true) = 0 then (S) else S) u.1 ++ lo o c u.2) := by
  refine Li.of (lv0 := [(0, .ref (a 0)), (1, .int x), (2, .int y), (3, .int z), (4, .ref o)]) (by decide +kernel) rfl (Nat.le_of_ble_eq_true rfl) rfl (fun G KH hret => ?_)
  have K := KH.ok
  refine r_aload K dL_shuffled_0 rfl ?_
  refine r_iconst K (nI 0) dL_shuffled_2 (by decide) ?_
  refine r_aload_n K dL_shuffled_3 rfl ?_
  refine r_iload_n K dL_shuffled_4 rfl ?_
  refine r_iload_n K dL_shuffled_5 rfl ?_
  refine r_iload_n K dL_shuffled_6 rfl ?_
  refine r_xcallL (rest := [.int (nI 0), .ref o]) (z := lo o c f) KH (c_X6_shuffled l D a c S J hl0 hV x y z) 3 gL_shuffled_X6_shuffled rfl (by decide +kernel) rfl (by decide) 0 (wC_g0 _ _ _ _) rfl rfl (Nat.le_of_ble_eq_true rfl) dL_shuffled_7 ?_ ?_
  ·
    rintro E ⟨ht0, hE⟩
    have hle : thr (inB x 0 ((S 3 0 : Nat) - 1) && inB z 0 ((S 19 (tn x) : Nat) - 1)) (sdB y) (true) ≤ 2 := thr_le2 _ _
    rcases (show thr (inB x 0 ((S 3 0 : Nat) - 1) && inB z 0 ((S 19 (tn x) : Nat) - 1)) (sdB y) (true) = 1 ∨ thr (inB x 0 ((S 3 0 : Nat) - 1) && inB z 0 ((S 19 (tn x) : Nat) - 1)) (sdB y) (true) = 2 by omega) with ht | ht
    ·
      rw [ht] at hE
      obtain rfl : E = eIOB := hE
      refine ⟨15, catch_here (by decide) (by decide) (List.mem_of_getElem? (i := 1) rfl) (by decide), fun q9 => ?_⟩
      refine r_astore (lv' := [(0, .ref (a 0)), (1, .int x), (2, .int y), (3, .int z), (4, .ref o), (5, .ref q9)]) K dL_shuffled_15 (by decide) rfl ?_
      refine r_iconst K (nI 1) dL_shuffled_17 (by decide) ?_
      exact hret _ _ _ _ _ _ (J, f) dL_shuffled_18 ⟨by rw [ht], fun h0 => absurd h0 ht0⟩ (by rw [if_neg ht0]) (Nat.le_of_ble_eq_true rfl) (Nat.le_of_ble_eq_true rfl)
    ·
      rw [ht] at hE
      obtain rfl : E = eIAE := hE
      refine ⟨19, catch_next (nm := eIOB) (by decide) (List.mem_of_getElem? (i := 1) rfl) (by decide) (by decide) (catch_here (by decide) (by decide) (List.mem_of_getElem? (i := 2) rfl) (by decide)), fun q9 => ?_⟩
      refine r_astore (lv' := [(0, .ref (a 0)), (1, .int x), (2, .int y), (3, .int z), (4, .ref o), (5, .ref q9)]) K dL_shuffled_19 (by decide) rfl ?_
      refine r_iconst K (nI 2) dL_shuffled_21 (by decide) ?_
      exact hret _ _ _ _ _ _ (J, f) dL_shuffled_22 ⟨by rw [ht], fun h0 => absurd h0 ht0⟩ (by rw [if_neg ht0]) (Nat.le_of_ble_eq_true rfl) (Nat.le_of_ble_eq_true rfl)
  ·
    rintro r u ⟨ht0, rfl⟩
    refine r_i2lR K dL_shuffled_10 ?_
    refine r_last0 K 42 3 (f := f) rfl rfl (by decide) dL_shuffled_11 (ws' := wC a c (S) u ++ lo o c (vp_updL f 0 ((nI (shuf S (tn x) (tn y) (tn z))).toInt64))) rfl ?_
    refine r_goto K 23 dL_shuffled_12 (by decide) ?_
    refine r_iconst K (nI 0) dL_shuffled_23 (by decide) ?_
    exact hret _ _ _ _ _ _ (u, vp_updL f 0 ((nI (shuf S (tn x) (tn y) (tn z))).toInt64)) dL_shuffled_24 ⟨by rw [ht0], fun _ => (show vp_updL f 0 ((nI (shuf S (tn x) (tn y) (tn z))).toInt64) 0 = _ from (updL0 (f := f)).trans rfl)⟩ (by rw [if_pos ht0]) (Nat.le_of_ble_eq_true rfl) (Nat.le_of_ble_eq_true rfl)

def rmL_orders : Room := { frames := 8, cells := 3, slots := 18, locals := 140 }
set_option maxHeartbeats 4000000 in
set_option maxRecDepth 100000 in
theorem c_L_orders (l : Launch) (D : va_G) (a : Nat → Nat) (c : Nat → ClassId) (S J : St) (o : Nat) (f : Nat → Int64) (hl0 : l.stackTraces = false) (hV : V S) (x : Int32) (y : Int32) (z : Int32) : Li l yL_orders wsL_orders rmL_orders D (tyW c) [.ref (a 0), .int x, .int y, .int z, .ref o] (wC a c S J ++ lo o c f) (fun r (u : St × (Nat → Int64)) => r = nI (thr (inB x 0 ((S 3 0 : Nat) - 1) && inB y 0 15) (inB z 1 10) (true)) ∧ (thr (inB x 0 ((S 3 0 : Nat) - 1) && inB y 0 15) (inB z 1 10) (true) = 0 → u.2 0 = (nI (ordN S (tn x) (tn y) (tn z))).toInt64)) (fun u : St × (Nat → Int64) => wC a c (if thr (inB x 0 ((S 3 0 : Nat) - 1) && inB y 0 15) (inB z 1 10) (true) = 0 then (S) else S) u.1 ++ lo o c u.2) := by
  refine Li.of (lv0 := [(0, .ref (a 0)), (1, .int x), (2, .int y), (3, .int z), (4, .ref o)]) (by decide +kernel) rfl (Nat.le_of_ble_eq_true rfl) rfl (fun G KH hret => ?_)
  have K := KH.ok
  refine r_aload K dL_orders_0 rfl ?_
  refine r_iconst K (nI 0) dL_orders_2 (by decide) ?_
  refine r_aload_n K dL_orders_3 rfl ?_
  refine r_iload_n K dL_orders_4 rfl ?_
  refine r_iload_n K dL_orders_5 rfl ?_
  refine r_iload_n K dL_orders_6 rfl ?_
  refine r_xcallL (rest := [.int (nI 0), .ref o]) (z := lo o c f) KH (c_X6_orders l D a c S J hl0 hV x y z) 3 gL_orders_X6_orders rfl (by decide +kernel) rfl (by decide) 0 (wC_g0 _ _ _ _) rfl rfl (Nat.le_of_ble_eq_true rfl) dL_orders_7 ?_ ?_
  ·
    rintro E ⟨ht0, hE⟩
    have hle : thr (inB x 0 ((S 3 0 : Nat) - 1) && inB y 0 15) (inB z 1 10) (true) ≤ 2 := thr_le2 _ _
    rcases (show thr (inB x 0 ((S 3 0 : Nat) - 1) && inB y 0 15) (inB z 1 10) (true) = 1 ∨ thr (inB x 0 ((S 3 0 : Nat) - 1) && inB y 0 15) (inB z 1 10) (true) = 2 by omega) with ht | ht
    ·
      rw [ht] at hE
      obtain rfl : E = eIOB := hE
      refine ⟨15, catch_here (by decide) (by decide) (List.mem_of_getElem? (i := 1) rfl) (by decide), fun q9 => ?_⟩
      refine r_astore (lv' := [(0, .ref (a 0)), (1, .int x), (2, .int y), (3, .int z), (4, .ref o), (5, .ref q9)]) K dL_orders_15 (by decide) rfl ?_
      refine r_iconst K (nI 1) dL_orders_17 (by decide) ?_
      exact hret _ _ _ _ _ _ (J, f) dL_orders_18 ⟨by rw [ht], fun h0 => absurd h0 ht0⟩ (by rw [if_neg ht0]) (Nat.le_of_ble_eq_true rfl) (Nat.le_of_ble_eq_true rfl)
    ·
      rw [ht] at hE
      obtain rfl : E = eIAE := hE
      refine ⟨19, catch_next (nm := eIOB) (by decide) (List.mem_of_getElem? (i := 1) rfl) (by decide) (by decide) (catch_here (by decide) (by decide) (List.mem_of_getElem? (i := 2) rfl) (by decide)), fun q9 => ?_⟩
      refine r_astore (lv' := [(0, .ref (a 0)), (1, .int x), (2, .int y), (3, .int z), (4, .ref o), (5, .ref q9)]) K dL_orders_19 (by decide) rfl ?_
      refine r_iconst K (nI 2) dL_orders_21 (by decide) ?_
      exact hret _ _ _ _ _ _ (J, f) dL_orders_22 ⟨by rw [ht], fun h0 => absurd h0 ht0⟩ (by rw [if_neg ht0]) (Nat.le_of_ble_eq_true rfl) (Nat.le_of_ble_eq_true rfl)
  ·
    rintro r _ ⟨ht0, rfl⟩
    refine r_i2lR K dL_orders_10 ?_
    refine r_last0 K 42 3 (f := f) rfl rfl (by decide) dL_orders_11 (ws' := wC a c (S) J ++ lo o c (vp_updL f 0 ((nI (ordN S (tn x) (tn y) (tn z))).toInt64))) rfl ?_
    refine r_goto K 23 dL_orders_12 (by decide) ?_
    refine r_iconst K (nI 0) dL_orders_23 (by decide) ?_
    exact hret _ _ _ _ _ _ (J, vp_updL f 0 ((nI (ordN S (tn x) (tn y) (tn z))).toInt64)) dL_orders_24 ⟨by rw [ht0], fun _ => (show vp_updL f 0 ((nI (ordN S (tn x) (tn y) (tn z))).toInt64) 0 = _ from (updL0 (f := f)).trans rfl)⟩ (by rw [if_pos ht0]) (Nat.le_of_ble_eq_true rfl) (Nat.le_of_ble_eq_true rfl)

def rmL_ordersByAll : Room := { frames := 11, cells := 4, slots := 24, locals := 414 }
set_option maxHeartbeats 4000000 in
set_option maxRecDepth 100000 in
theorem c_L_ordersByAll (l : Launch) (D : va_G) (a : Nat → Nat) (c : Nat → ClassId) (S J : St) (o : Nat) (f : Nat → Int64) (hl0 : l.stackTraces = false) (hV : V S) (x : Int32) (y : Int32) (z : Int32) : Li l yL_ordersByAll wsL_ordersByAll rmL_ordersByAll D (tyW c) [.ref (a 0), .int x, .int y, .int z, .ref o] (wC a c S J ++ lo o c f) (fun r (u : St × (Nat → Int64)) => r = nI (thr (inB x 0 ((S 3 0 : Nat) - 1) && inB y 0 15) (inB z 1 10) (decide (S 19 (tn x) ≤ 7))) ∧ (thr (inB x 0 ((S 3 0 : Nat) - 1) && inB y 0 15) (inB z 1 10) (decide (S 19 (tn x) ≤ 7)) = 0 → u.2 0 = (nI (coN (S 19 (tn x)) (bits (isK S (tn x) (tn y)) (S 19 (tn x))) (tn z) (S 19 (tn x)) 0 false)).toInt64)) (fun u : St × (Nat → Int64) => wC a c (if thr (inB x 0 ((S 3 0 : Nat) - 1) && inB y 0 15) (inB z 1 10) (decide (S 19 (tn x) ≤ 7)) = 0 then (S) else S) u.1 ++ lo o c u.2) := by
  refine Li.of (lv0 := [(0, .ref (a 0)), (1, .int x), (2, .int y), (3, .int z), (4, .ref o)]) (by decide +kernel) rfl (Nat.le_of_ble_eq_true rfl) rfl (fun G KH hret => ?_)
  have K := KH.ok
  refine r_aload K dL_ordersByAll_0 rfl ?_
  refine r_iconst K (nI 0) dL_ordersByAll_2 (by decide) ?_
  refine r_aload_n K dL_ordersByAll_3 rfl ?_
  refine r_iload_n K dL_ordersByAll_4 rfl ?_
  refine r_iload_n K dL_ordersByAll_5 rfl ?_
  refine r_iload_n K dL_ordersByAll_6 rfl ?_
  refine r_xcallL (rest := [.int (nI 0), .ref o]) (z := lo o c f) KH (c_X6_ordersByAll l D a c S J hl0 hV x y z) 3 gL_ordersByAll_X6_ordersByAll rfl (by decide +kernel) rfl (by decide) 0 (wC_g0 _ _ _ _) rfl rfl (Nat.le_of_ble_eq_true rfl) dL_ordersByAll_7 ?_ ?_
  ·
    rintro E ⟨ht0, hE⟩
    have hle : thr (inB x 0 ((S 3 0 : Nat) - 1) && inB y 0 15) (inB z 1 10) (decide (S 19 (tn x) ≤ 7)) ≤ 3 := thr_le3 _ _ _
    rcases (show thr (inB x 0 ((S 3 0 : Nat) - 1) && inB y 0 15) (inB z 1 10) (decide (S 19 (tn x) ≤ 7)) = 1 ∨ thr (inB x 0 ((S 3 0 : Nat) - 1) && inB y 0 15) (inB z 1 10) (decide (S 19 (tn x) ≤ 7)) = 2 ∨ thr (inB x 0 ((S 3 0 : Nat) - 1) && inB y 0 15) (inB z 1 10) (decide (S 19 (tn x) ≤ 7)) = 3 by omega) with ht | ht | ht
    ·
      rw [ht] at hE
      obtain rfl : E = eIOB := hE
      refine ⟨15, catch_here (by decide) (by decide) (List.mem_of_getElem? (i := 1) rfl) (by decide), fun q9 => ?_⟩
      refine r_astore (lv' := [(0, .ref (a 0)), (1, .int x), (2, .int y), (3, .int z), (4, .ref o), (5, .ref q9)]) K dL_ordersByAll_15 (by decide) rfl ?_
      refine r_iconst K (nI 1) dL_ordersByAll_17 (by decide) ?_
      exact hret _ _ _ _ _ _ (J, f) dL_ordersByAll_18 ⟨by rw [ht], fun h0 => absurd h0 ht0⟩ (by rw [if_neg ht0]) (Nat.le_of_ble_eq_true rfl) (Nat.le_of_ble_eq_true rfl)
    ·
      rw [ht] at hE
      obtain rfl : E = eIAE := hE
      refine ⟨19, catch_next (nm := eIOB) (by decide) (List.mem_of_getElem? (i := 1) rfl) (by decide) (by decide) (catch_here (by decide) (by decide) (List.mem_of_getElem? (i := 2) rfl) (by decide)), fun q9 => ?_⟩
      refine r_astore (lv' := [(0, .ref (a 0)), (1, .int x), (2, .int y), (3, .int z), (4, .ref o), (5, .ref q9)]) K dL_ordersByAll_19 (by decide) rfl ?_
      refine r_iconst K (nI 2) dL_ordersByAll_21 (by decide) ?_
      exact hret _ _ _ _ _ _ (J, f) dL_ordersByAll_22 ⟨by rw [ht], fun h0 => absurd h0 ht0⟩ (by rw [if_neg ht0]) (Nat.le_of_ble_eq_true rfl) (Nat.le_of_ble_eq_true rfl)
    ·
      rw [ht] at hE
      obtain rfl : E = eISE := hE
      refine ⟨23, catch_next (nm := eIOB) (by decide) (List.mem_of_getElem? (i := 1) rfl) (by decide) (by decide) (catch_next (nm := eIAE) (by decide) (List.mem_of_getElem? (i := 2) rfl) (by decide) (by decide) (catch_here (by decide) (by decide) (List.mem_of_getElem? (i := 3) rfl) (by decide))), fun q9 => ?_⟩
      refine r_astore (lv' := [(0, .ref (a 0)), (1, .int x), (2, .int y), (3, .int z), (4, .ref o), (5, .ref q9)]) K dL_ordersByAll_23 (by decide) rfl ?_
      refine r_iconst K (nI 3) dL_ordersByAll_25 (by decide) ?_
      exact hret _ _ _ _ _ _ (J, f) dL_ordersByAll_26 ⟨by rw [ht], fun h0 => absurd h0 ht0⟩ (by rw [if_neg ht0]) (Nat.le_of_ble_eq_true rfl) (Nat.le_of_ble_eq_true rfl)
  ·
    rintro r _ ⟨ht0, rfl⟩
    refine r_i2lR K dL_ordersByAll_10 ?_
    refine r_last0 K 42 3 (f := f) rfl rfl (by decide) dL_ordersByAll_11 (ws' := wC a c (S) J ++ lo o c (vp_updL f 0 ((nI (coN (S 19 (tn x)) (bits (isK S (tn x) (tn y)) (S 19 (tn x))) (tn z) (S 19 (tn x)) 0 false)).toInt64))) rfl ?_
    refine r_goto K 27 dL_ordersByAll_12 (by decide) ?_
    refine r_iconst K (nI 0) dL_ordersByAll_27 (by decide) ?_
    exact hret _ _ _ _ _ _ (J, vp_updL f 0 ((nI (coN (S 19 (tn x)) (bits (isK S (tn x) (tn y)) (S 19 (tn x))) (tn z) (S 19 (tn x)) 0 false)).toInt64)) dL_ordersByAll_28 ⟨by rw [ht0], fun _ => (show vp_updL f 0 ((nI (coN (S 19 (tn x)) (bits (isK S (tn x) (tn y)) (S 19 (tn x))) (tn z) (S 19 (tn x)) 0 false)).toInt64) 0 = _ from (updL0 (f := f)).trans rfl)⟩ (by rw [if_pos ht0]) (Nat.le_of_ble_eq_true rfl) (Nat.le_of_ble_eq_true rfl)

def rmL_isOpen : Room := { frames := 8, cells := 1, slots := 6, locals := 132 }
set_option maxHeartbeats 4000000 in
set_option maxRecDepth 100000 in
theorem c_L_isOpen (l : Launch) (D : va_G) (a : Nat → Nat) (c : Nat → ClassId) (S J : St) (o : Nat) (f : Nat → Int64) (hl0 : l.stackTraces = false) (hV : V S) (h25 : ∀ k, S 25 k < 2) (x : Int32) : Li l yL_isOpen wsL_isOpen rmL_isOpen D (tyW c) [.ref (a 0), .int x, .ref o] (wC a c S J ++ lo o c f) (fun r (u : St × (Nat → Int64)) => r = nI (thr (inB x 0 ((S 4 0 : Nat) - 1)) (true) (true)) ∧ (thr (inB x 0 ((S 4 0 : Nat) - 1)) (true) (true) = 0 → u.2 0 = (nI (S 25 (tn x))).toInt64)) (fun u : St × (Nat → Int64) => wC a c (if thr (inB x 0 ((S 4 0 : Nat) - 1)) (true) (true) = 0 then (S) else S) u.1 ++ lo o c u.2) := by
  refine Li.of (lv0 := [(0, .ref (a 0)), (1, .int x), (2, .ref o)]) (by decide +kernel) rfl (Nat.le_of_ble_eq_true rfl) rfl (fun G KH hret => ?_)
  have K := KH.ok
  refine r_aload_n K dL_isOpen_0 rfl ?_
  refine r_iconst K (nI 0) dL_isOpen_1 (by decide) ?_
  refine r_aload_n K dL_isOpen_2 rfl ?_
  refine r_iload_n K dL_isOpen_3 rfl ?_
  refine r_xcallL (rest := [.int (nI 0), .ref o]) (z := lo o c f) KH (c_X6_isOpen l D a c S J hl0 hV h25 x) 1 gL_isOpen_X6_isOpen rfl (by decide +kernel) rfl (by decide) 0 (wC_g0 _ _ _ _) rfl rfl (Nat.le_of_ble_eq_true rfl) dL_isOpen_4 ?_ ?_
  ·
    rintro E ⟨ht0, hE⟩
    have hle : thr (inB x 0 ((S 4 0 : Nat) - 1)) (true) (true) ≤ 1 := thr_le1 _
    rcases (show thr (inB x 0 ((S 4 0 : Nat) - 1)) (true) (true) = 1 by omega) with ht
    ·
      rw [ht] at hE
      obtain rfl : E = eIOB := hE
      refine ⟨19, catch_here (by decide) (by decide) (List.mem_of_getElem? (i := 1) rfl) (by decide), fun q9 => ?_⟩
      refine r_astore_n (lv' := [(0, .ref (a 0)), (1, .int x), (2, .ref o), (3, .ref q9)]) K dL_isOpen_19 (by decide) rfl ?_
      refine r_iconst K (nI 1) dL_isOpen_20 (by decide) ?_
      exact hret _ _ _ _ _ _ (J, f) dL_isOpen_21 ⟨by rw [ht], fun h0 => absurd h0 ht0⟩ (by rw [if_neg ht0]) (Nat.le_of_ble_eq_true rfl) (Nat.le_of_ble_eq_true rfl)
  ·
    rintro r _ ⟨ht0, rfl⟩
    refine r_if_eqR K 14 dL_isOpen_7 (by decide) (fun h => ?_) (fun h => ?_)
    ·
      refine r_lconst K (lN 0) dL_isOpen_14 (by decide) ?_
      refine r_last0 K 42 3 (f := f) rfl rfl (by decide) dL_isOpen_15 (ws' := wC a c (S) J ++ lo o c (vp_updL f 0 (lN 0))) rfl ?_
      refine r_goto K 22 dL_isOpen_16 (by decide) ?_
      refine r_iconst K (nI 0) dL_isOpen_22 (by decide) ?_
      exact hret _ _ _ _ _ _ (J, vp_updL f 0 (lN 0)) dL_isOpen_23 ⟨by rw [ht0], fun _ => (show vp_updL f 0 (lN 0) 0 = _ from (updL0 (f := f)).trans (by rw [h]; decide))⟩ (by rw [if_pos ht0]) (Nat.le_of_ble_eq_true rfl) (Nat.le_of_ble_eq_true rfl)
    ·
      refine r_lconst K (lN 1) dL_isOpen_10 (by decide) ?_
      refine r_goto K 15 dL_isOpen_11 (by decide) ?_
      refine r_last0 K 42 3 (f := f) rfl rfl (by decide) dL_isOpen_15 (ws' := wC a c (S) J ++ lo o c (vp_updL f 0 (lN 1))) rfl ?_
      refine r_goto K 22 dL_isOpen_16 (by decide) ?_
      refine r_iconst K (nI 0) dL_isOpen_22 (by decide) ?_
      exact hret _ _ _ _ _ _ (J, vp_updL f 0 (lN 1)) dL_isOpen_23 ⟨by rw [ht0], fun _ => (show vp_updL f 0 (lN 1) 0 = _ from (updL0 (f := f)).trans (by rw [show S 25 (tn x) = 1 from by have h2 := h25 (tn x); have h3 : S 25 (tn x) ≠ 0 := fun q => h (by rw [q]; rfl); omega]; decide))⟩ (by rw [if_pos ht0]) (Nat.le_of_ble_eq_true rfl) (Nat.le_of_ble_eq_true rfl)

def rmL_ring : Room := { frames := 11, cells := 1, slots := 6, locals := 343 }
set_option maxHeartbeats 4000000 in
set_option maxRecDepth 100000 in
theorem c_L_ring (l : Launch) (D : va_G) (a : Nat → Nat) (c : Nat → ClassId) (S J : St) (o : Nat) (f : Nat → Int64) (hl0 : l.stackTraces = false) (hV : V S) (x : Int32) : Li l yL_ring wsL_ring rmL_ring D (tyW c) [.ref (a 0), .int x, .ref o] (wC a c S J ++ lo o c f) (fun r (u : St × (Nat → Int64)) => r = nI (thr (sdB x) (true) (true)) ∧ (thr (sdB x) (true) (true) = 0 → u.2 0 = (rgN S (tn x)).toInt64)) (fun u : St × (Nat → Int64) => wC a c (if thr (sdB x) (true) (true) = 0 then (S) else S) u.1 ++ lo o c u.2) := by
  refine Li.of (lv0 := [(0, .ref (a 0)), (1, .int x), (2, .ref o)]) (by decide +kernel) rfl (Nat.le_of_ble_eq_true rfl) rfl (fun G KH hret => ?_)
  have K := KH.ok
  refine r_aload_n K dL_ring_0 rfl ?_
  refine r_iconst K (nI 0) dL_ring_1 (by decide) ?_
  refine r_aload_n K dL_ring_2 rfl ?_
  refine r_iload_n K dL_ring_3 rfl ?_
  refine r_xcallL (rest := [.int (nI 0), .ref o]) (z := lo o c f) KH (c_X6_ring l D a c S J hl0 hV x) 1 gL_ring_X6_ring rfl (by decide +kernel) rfl (by decide) 0 (wC_g0 _ _ _ _) rfl rfl (Nat.le_of_ble_eq_true rfl) dL_ring_4 ?_ ?_
  ·
    rintro E ⟨ht0, hE⟩
    have hle : thr (sdB x) (true) (true) ≤ 1 := thr_le1 _
    rcases (show thr (sdB x) (true) (true) = 1 by omega) with ht
    ·
      rw [ht] at hE
      obtain rfl : E = eIOB := hE
      refine ⟨12, catch_here (by decide) (by decide) (List.mem_of_getElem? (i := 1) rfl) (by decide), fun q9 => ?_⟩
      refine r_astore_n (lv' := [(0, .ref (a 0)), (1, .int x), (2, .ref o), (3, .ref q9)]) K dL_ring_12 (by decide) rfl ?_
      refine r_iconst K (nI 1) dL_ring_13 (by decide) ?_
      exact hret _ _ _ _ _ _ (J, f) dL_ring_14 ⟨by rw [ht], fun h0 => absurd h0 ht0⟩ (by rw [if_neg ht0]) (Nat.le_of_ble_eq_true rfl) (Nat.le_of_ble_eq_true rfl)
  ·
    rintro r u ⟨ht0, rfl⟩
    refine r_i2lR K dL_ring_7 ?_
    refine r_last0 K 42 3 (f := f) rfl rfl (by decide) dL_ring_8 (ws' := wC a c (S) u ++ lo o c (vp_updL f 0 ((rgN S (tn x)).toInt64))) rfl ?_
    refine r_goto K 15 dL_ring_9 (by decide) ?_
    refine r_iconst K (nI 0) dL_ring_15 (by decide) ?_
    exact hret _ _ _ _ _ _ (u, vp_updL f 0 ((rgN S (tn x)).toInt64)) dL_ring_16 ⟨by rw [ht0], fun _ => (show vp_updL f 0 ((rgN S (tn x)).toInt64) 0 = _ from (updL0 (f := f)).trans rfl)⟩ (by rw [if_pos ht0]) (Nat.le_of_ble_eq_true rfl) (Nat.le_of_ble_eq_true rfl)
