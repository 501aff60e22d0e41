def rmX6_needKind : Room := { frames := 6, cells := 1, slots := 6, locals := 90 }
theorem hat_X6_needKind_IOB : ∀ w ∈ (vx_atS RX6 240 eIOB nmRE).filter goodWord, w ∈ wsX6_needKind := fun _ h => List.mem_cons_of_mem _ (List.mem_append_right _ h)
set_option maxHeartbeats 4000000 in
set_option maxRecDepth 100000 in
theorem c_X6_needKind (l : Launch) (D : va_G) (a : Nat → Nat) (c : Nat → ClassId) (S J : St) (hl0 : l.stackTraces = false) (x : Int32) : Xv l yX6_needKind wsX6_needKind rmX6_needKind D (tyW c) [.int x] (wC a c S J) (pxB (inB x 0 15) eIOB) (fun _ : Unit => inB x 0 15 = true) (fun _ : Unit => wC a c S J) := by
  refine Xv.of (lv0 := [(0, .int x)]) hl0 (by decide +kernel) rfl (Nat.le_of_ble_eq_true rfl) rfl (fun G KX hret => ?_)
  have K := KX.ok
  refine r_iload_n K dX6_needKind_0 rfl ?_
  refine r_if_ltR K 10 dX6_needKind_1 (by decide) (fun h1 => ?_) (fun h1 => ?_)
  ·
    exact r_throw (cls := eIOB) (text := "no such kind") KX (by decide +kernel) (List.mem_of_getElem? (i := 1) rfl) (List.mem_of_getElem? (i := 2) rfl) (by decide +kernel) hat_X6_needKind_IOB hng_IOB hot_IOB dX6_needKind_10 dX6_needKind_13 dX6_needKind_14 dX6_needKind_16 dX6_needKind_19 (by decide) ⟨inB_neg h1, rfl⟩
  ·
    refine r_iload_n K dX6_needKind_4 rfl ?_
    refine r_bipush K (nI 16) dX6_needKind_5 (by decide) ?_
    refine r_ic_ltR K 20 dX6_needKind_7 (by decide) (fun h2 => ?_) (fun h2 => ?_)
    ·
      exact hret 0 0 _ _ _ () dX6_needKind_20 (inB_ok (n := 16) (by decide) h1 (Int32.not_le.mpr h2)) rfl (Nat.le_of_ble_eq_true rfl) (Nat.le_of_ble_eq_true rfl)
    ·
      exact r_throw (cls := eIOB) (text := "no such kind") KX (by decide +kernel) (List.mem_of_getElem? (i := 1) rfl) (List.mem_of_getElem? (i := 2) rfl) (by decide +kernel) hat_X6_needKind_IOB hng_IOB hot_IOB dX6_needKind_10 dX6_needKind_13 dX6_needKind_14 dX6_needKind_16 dX6_needKind_19 (by decide) ⟨inB_big (n := 16) (by decide) (Int32.not_lt.mp h2), rfl⟩

def rmX6_needCollector : Room := { frames := 6, cells := 1, slots := 6, locals := 90 }
theorem hat_X6_needCollector_IOB : ∀ w ∈ (vx_atS RX6 240 eIOB nmRE).filter goodWord, w ∈ wsX6_needCollector := fun _ h => List.mem_cons_of_mem _ (List.mem_append_right _ h)
set_option maxHeartbeats 4000000 in
set_option maxRecDepth 100000 in
theorem c_X6_needCollector (l : Launch) (D : va_G) (a : Nat → Nat) (c : Nat → ClassId) (S J : St) (hl0 : l.stackTraces = false) (x : Int32) : Xv l yX6_needCollector wsX6_needCollector rmX6_needCollector D (tyW c) [.int x] (wC a c S J) (pxB (inB x 0 5) eIOB) (fun _ : Unit => inB x 0 5 = true) (fun _ : Unit => wC a c S J) := by
  refine Xv.of (lv0 := [(0, .int x)]) hl0 (by decide +kernel) rfl (Nat.le_of_ble_eq_true rfl) rfl (fun G KX hret => ?_)
  have K := KX.ok
  refine r_iload_n K dX6_needCollector_0 rfl ?_
  refine r_if_ltR K 10 dX6_needCollector_1 (by decide) (fun h1 => ?_) (fun h1 => ?_)
  ·
    exact r_throw (cls := eIOB) (text := "no such collector") KX (by decide +kernel) (List.mem_of_getElem? (i := 1) rfl) (List.mem_of_getElem? (i := 2) rfl) (by decide +kernel) hat_X6_needCollector_IOB hng_IOB hot_IOB dX6_needCollector_10 dX6_needCollector_13 dX6_needCollector_14 dX6_needCollector_16 dX6_needCollector_19 (by decide) ⟨inB_neg h1, rfl⟩
  ·
    refine r_iload_n K dX6_needCollector_4 rfl ?_
    refine r_bipush K (nI 6) dX6_needCollector_5 (by decide) ?_
    refine r_ic_ltR K 20 dX6_needCollector_7 (by decide) (fun h2 => ?_) (fun h2 => ?_)
    ·
      exact hret 0 0 _ _ _ () dX6_needCollector_20 (inB_ok (n := 6) (by decide) h1 (Int32.not_le.mpr h2)) rfl (Nat.le_of_ble_eq_true rfl) (Nat.le_of_ble_eq_true rfl)
    ·
      exact r_throw (cls := eIOB) (text := "no such collector") KX (by decide +kernel) (List.mem_of_getElem? (i := 1) rfl) (List.mem_of_getElem? (i := 2) rfl) (by decide +kernel) hat_X6_needCollector_IOB hng_IOB hot_IOB dX6_needCollector_10 dX6_needCollector_13 dX6_needCollector_14 dX6_needCollector_16 dX6_needCollector_19 (by decide) ⟨inB_big (n := 6) (by decide) (Int32.not_lt.mp h2), rfl⟩

def rmX6_needCard : Room := { frames := 6, cells := 1, slots := 6, locals := 90 }
theorem hin_X6_needCard_6 : ∀ w ∈ wsX60, w ∈ wsX6_needCard := fun _ h => List.mem_cons_of_mem _ (List.mem_append_left _ (List.mem_append_left _ (List.mem_append_right _ h)))
theorem hin_X6_needCard_4 : ∀ w ∈ wsX40, w ∈ wsX6_needCard := fun _ h => List.mem_cons_of_mem _ (List.mem_append_left _ (List.mem_append_right _ h))
theorem hat_X6_needCard_IOB : ∀ w ∈ (vx_atS RX6 240 eIOB nmRE).filter goodWord, w ∈ wsX6_needCard := fun _ h => List.mem_cons_of_mem _ (List.mem_append_right _ h)
set_option maxHeartbeats 4000000 in
set_option maxRecDepth 100000 in
theorem c_X6_needCard (l : Launch) (D : va_G) (a : Nat → Nat) (c : Nat → ClassId) (S J : St) (hl0 : l.stackTraces = false) (hV : V S) (x : Int32) : Xv l yX6_needCard wsX6_needCard rmX6_needCard D (tyW c) [.ref (a 0), .int x] (wC a c S J) (pxB (inB x 0 ((S 2 0 : Nat) - 1)) eIOB) (fun _ : Unit => inB x 0 ((S 2 0 : Nat) - 1) = true) (fun _ : Unit => wC a c S J) := by
  refine Xv.of (lv0 := [(0, .ref (a 0)), (1, .int x)]) hl0 (by decide +kernel) rfl (Nat.le_of_ble_eq_true rfl) rfl (fun G KX hret => ?_)
  have K := KX.ok
  have hbd : S 2 0 < 2147483648 := by have := V_b hV 2 0; omega
  refine r_iload_n K dX6_needCard_0 rfl ?_
  refine r_if_ltR K 15 dX6_needCard_1 (by decide) (fun h1 => ?_) (fun h1 => ?_)
  ·
    exact r_throw (cls := eIOB) (text := "no such card") KX (by decide +kernel) (List.mem_of_getElem? (i := 1) rfl) (List.mem_of_getElem? (i := 2) rfl) (by decide +kernel) hat_X6_needCard_IOB hng_IOB hot_IOB dX6_needCard_15 dX6_needCard_18 dX6_needCard_19 dX6_needCard_21 dX6_needCard_24 (by decide) ⟨inB_neg h1, rfl⟩
  ·
    refine r_iload_n K dX6_needCard_4 rfl ?_
    refine r_aload_n K dX6_needCard_5 rfl ?_
    refine r_get K hin_X6_needCard_6 0 (wC_g0 _ _ _ _) rfl 1 (by decide) (List.mem_of_getElem? (i := 3) rfl) rfl dX6_needCard_6 ?_
    refine r_get K hin_X6_needCard_4 2 (wC_g2 _ _ _ _) rfl 3 (by decide) (List.mem_of_getElem? (i := 4) rfl) rfl dX6_needCard_9 ?_
    have hf2 := V_b hV 2 0
    refine r_ic_ltR K 25 dX6_needCard_12 (by decide) (fun h3 => ?_) (fun h3 => ?_)
    ·
      exact hret 0 0 _ _ _ () dX6_needCard_25 (inB_ok hbd h1 (Int32.not_le.mpr h3)) rfl (Nat.le_of_ble_eq_true rfl) (Nat.le_of_ble_eq_true rfl)
    ·
      exact r_throw (cls := eIOB) (text := "no such card") KX (by decide +kernel) (List.mem_of_getElem? (i := 1) rfl) (List.mem_of_getElem? (i := 2) rfl) (by decide +kernel) hat_X6_needCard_IOB hng_IOB hot_IOB dX6_needCard_15 dX6_needCard_18 dX6_needCard_19 dX6_needCard_21 dX6_needCard_24 (by decide) ⟨inB_big hbd (Int32.not_lt.mp h3), rfl⟩

def rmX6_needDeck : Room := { frames := 6, cells := 1, slots := 6, locals := 90 }
theorem hin_X6_needDeck_6 : ∀ w ∈ wsX60, w ∈ wsX6_needDeck := fun _ h => List.mem_cons_of_mem _ (List.mem_append_left _ (List.mem_append_left _ (List.mem_append_right _ h)))
theorem hin_X6_needDeck_0 : ∀ w ∈ wsX00, w ∈ wsX6_needDeck := fun _ h => List.mem_cons_of_mem _ (List.mem_append_left _ (List.mem_append_right _ h))
theorem hat_X6_needDeck_IOB : ∀ w ∈ (vx_atS RX6 240 eIOB nmRE).filter goodWord, w ∈ wsX6_needDeck := fun _ h => List.mem_cons_of_mem _ (List.mem_append_right _ h)
set_option maxHeartbeats 4000000 in
set_option maxRecDepth 100000 in
theorem c_X6_needDeck (l : Launch) (D : va_G) (a : Nat → Nat) (c : Nat → ClassId) (S J : St) (hl0 : l.stackTraces = false) (hV : V S) (x : Int32) : Xv l yX6_needDeck wsX6_needDeck rmX6_needDeck D (tyW c) [.ref (a 0), .int x] (wC a c S J) (pxB (inB x 0 ((S 3 0 : Nat) - 1)) eIOB) (fun _ : Unit => inB x 0 ((S 3 0 : Nat) - 1) = true) (fun _ : Unit => wC a c S J) := by
  refine Xv.of (lv0 := [(0, .ref (a 0)), (1, .int x)]) hl0 (by decide +kernel) rfl (Nat.le_of_ble_eq_true rfl) rfl (fun G KX hret => ?_)
  have K := KX.ok
  have hbd : S 3 0 < 2147483648 := by have := V_b hV 3 0; omega
  refine r_iload_n K dX6_needDeck_0 rfl ?_
  refine r_if_ltR K 15 dX6_needDeck_1 (by decide) (fun h1 => ?_) (fun h1 => ?_)
  ·
    exact r_throw (cls := eIOB) (text := "no such deck") KX (by decide +kernel) (List.mem_of_getElem? (i := 1) rfl) (List.mem_of_getElem? (i := 2) rfl) (by decide +kernel) hat_X6_needDeck_IOB hng_IOB hot_IOB dX6_needDeck_15 dX6_needDeck_18 dX6_needDeck_19 dX6_needDeck_21 dX6_needDeck_24 (by decide) ⟨inB_neg h1, rfl⟩
  ·
    refine r_iload_n K dX6_needDeck_4 rfl ?_
    refine r_aload_n K dX6_needDeck_5 rfl ?_
    refine r_get K hin_X6_needDeck_6 0 (wC_g0 _ _ _ _) rfl 2 (by decide) (List.mem_of_getElem? (i := 3) rfl) rfl dX6_needDeck_6 ?_
    refine r_get K hin_X6_needDeck_0 3 (wC_g3 _ _ _ _) rfl 3 (by decide) (List.mem_of_getElem? (i := 4) rfl) rfl dX6_needDeck_9 ?_
    have hf2 := V_b hV 3 0
    refine r_ic_ltR K 25 dX6_needDeck_12 (by decide) (fun h3 => ?_) (fun h3 => ?_)
    ·
      exact hret 0 0 _ _ _ () dX6_needDeck_25 (inB_ok hbd h1 (Int32.not_le.mpr h3)) rfl (Nat.le_of_ble_eq_true rfl) (Nat.le_of_ble_eq_true rfl)
    ·
      exact r_throw (cls := eIOB) (text := "no such deck") KX (by decide +kernel) (List.mem_of_getElem? (i := 1) rfl) (List.mem_of_getElem? (i := 2) rfl) (by decide +kernel) hat_X6_needDeck_IOB hng_IOB hot_IOB dX6_needDeck_15 dX6_needDeck_18 dX6_needDeck_19 dX6_needDeck_21 dX6_needDeck_24 (by decide) ⟨inB_big hbd (Int32.not_lt.mp h3), rfl⟩

def rmX6_needOffer : Room := { frames := 6, cells := 1, slots := 6, locals := 90 }
theorem hin_X6_needOffer_6 : ∀ w ∈ wsX60, w ∈ wsX6_needOffer := fun _ h => List.mem_cons_of_mem _ (List.mem_append_left _ (List.mem_append_left _ (List.mem_append_right _ h)))
theorem hin_X6_needOffer_2 : ∀ w ∈ wsX20, w ∈ wsX6_needOffer := fun _ h => List.mem_cons_of_mem _ (List.mem_append_left _ (List.mem_append_right _ h))
theorem hat_X6_needOffer_IOB : ∀ w ∈ (vx_atS RX6 240 eIOB nmRE).filter goodWord, w ∈ wsX6_needOffer := fun _ h => List.mem_cons_of_mem _ (List.mem_append_right _ h)
set_option maxHeartbeats 4000000 in
set_option maxRecDepth 100000 in
theorem c_X6_needOffer (l : Launch) (D : va_G) (a : Nat → Nat) (c : Nat → ClassId) (S J : St) (hl0 : l.stackTraces = false) (hV : V S) (x : Int32) : Xv l yX6_needOffer wsX6_needOffer rmX6_needOffer D (tyW c) [.ref (a 0), .int x] (wC a c S J) (pxB (inB x 0 ((S 4 0 : Nat) - 1)) eIOB) (fun _ : Unit => inB x 0 ((S 4 0 : Nat) - 1) = true) (fun _ : Unit => wC a c S J) := by
  refine Xv.of (lv0 := [(0, .ref (a 0)), (1, .int x)]) hl0 (by decide +kernel) rfl (Nat.le_of_ble_eq_true rfl) rfl (fun G KX hret => ?_)
  have K := KX.ok
  have hbd : S 4 0 < 2147483648 := by have := V_b hV 4 0; omega
  refine r_iload_n K dX6_needOffer_0 rfl ?_
  refine r_if_ltR K 15 dX6_needOffer_1 (by decide) (fun h1 => ?_) (fun h1 => ?_)
  ·
    exact r_throw (cls := eIOB) (text := "no such offer") KX (by decide +kernel) (List.mem_of_getElem? (i := 1) rfl) (List.mem_of_getElem? (i := 2) rfl) (by decide +kernel) hat_X6_needOffer_IOB hng_IOB hot_IOB dX6_needOffer_15 dX6_needOffer_18 dX6_needOffer_19 dX6_needOffer_21 dX6_needOffer_24 (by decide) ⟨inB_neg h1, rfl⟩
  ·
    refine r_iload_n K dX6_needOffer_4 rfl ?_
    refine r_aload_n K dX6_needOffer_5 rfl ?_
    refine r_get K hin_X6_needOffer_6 0 (wC_g0 _ _ _ _) rfl 3 (by decide) (List.mem_of_getElem? (i := 3) rfl) rfl dX6_needOffer_6 ?_
    refine r_get K hin_X6_needOffer_2 4 (wC_g4 _ _ _ _) rfl 6 (by decide) (List.mem_of_getElem? (i := 4) rfl) rfl dX6_needOffer_9 ?_
    have hf2 := V_b hV 4 0
    refine r_ic_ltR K 25 dX6_needOffer_12 (by decide) (fun h3 => ?_) (fun h3 => ?_)
    ·
      exact hret 0 0 _ _ _ () dX6_needOffer_25 (inB_ok hbd h1 (Int32.not_le.mpr h3)) rfl (Nat.le_of_ble_eq_true rfl) (Nat.le_of_ble_eq_true rfl)
    ·
      exact r_throw (cls := eIOB) (text := "no such offer") KX (by decide +kernel) (List.mem_of_getElem? (i := 1) rfl) (List.mem_of_getElem? (i := 2) rfl) (by decide +kernel) hat_X6_needOffer_IOB hng_IOB hot_IOB dX6_needOffer_15 dX6_needOffer_18 dX6_needOffer_19 dX6_needOffer_21 dX6_needOffer_24 (by decide) ⟨inB_big hbd (Int32.not_lt.mp h3), rfl⟩

def rmX6_needPlace : Room := { frames := 6, cells := 1, slots := 6, locals := 90 }
theorem hin_X6_needPlace_6 : ∀ w ∈ wsX60, w ∈ wsX6_needPlace := fun _ h => List.mem_cons_of_mem _ (List.mem_append_left _ (List.mem_append_left _ (List.mem_append_right _ h)))
theorem hin_X6_needPlace_0 : ∀ w ∈ wsX00, w ∈ wsX6_needPlace := fun _ h => List.mem_cons_of_mem _ (List.mem_append_left _ (List.mem_append_right _ h))
theorem hat_X6_needPlace_IOB : ∀ w ∈ (vx_atS RX6 240 eIOB nmRE).filter goodWord, w ∈ wsX6_needPlace := fun _ h => List.mem_cons_of_mem _ (List.mem_append_right _ h)
set_option maxHeartbeats 4000000 in
set_option maxRecDepth 100000 in
theorem c_X6_needPlace (l : Launch) (D : va_G) (a : Nat → Nat) (c : Nat → ClassId) (S J : St) (hl0 : l.stackTraces = false) (hV : V S) (d : Nat) (hd : d < 12) (x : Int32) : Xv l yX6_needPlace wsX6_needPlace rmX6_needPlace D (tyW c) [.ref (a 0), .int (nI d), .int x] (wC a c S J) (pxB (inB x 0 ((S 19 d : Nat) - 1)) eIOB) (fun _ : Unit => inB x 0 ((S 19 d : Nat) - 1) = true) (fun _ : Unit => wC a c S J) := by
  refine Xv.of (lv0 := [(0, .ref (a 0)), (1, .int (nI d)), (2, .int x)]) hl0 (by decide +kernel) rfl (Nat.le_of_ble_eq_true rfl) rfl (fun G KX hret => ?_)
  have K := KX.ok
  have hbd : S 19 d < 2147483648 := by have := V_b hV 19 d; omega
  refine r_iload_n K dX6_needPlace_0 rfl ?_
  refine r_if_ltR K 17 dX6_needPlace_1 (by decide) (fun h1 => ?_) (fun h1 => ?_)
  ·
    exact r_throw (cls := eIOB) (text := "the deck has not so many cards") KX (by decide +kernel) (List.mem_of_getElem? (i := 1) rfl) (List.mem_of_getElem? (i := 2) rfl) (by decide +kernel) hat_X6_needPlace_IOB hng_IOB hot_IOB dX6_needPlace_17 dX6_needPlace_20 dX6_needPlace_21 dX6_needPlace_23 dX6_needPlace_26 (by decide) ⟨inB_neg h1, rfl⟩
  ·
    refine r_iload_n K dX6_needPlace_4 rfl ?_
    refine r_aload_n K dX6_needPlace_5 rfl ?_
    refine r_get K hin_X6_needPlace_6 0 (wC_g0 _ _ _ _) rfl 2 (by decide) (List.mem_of_getElem? (i := 3) rfl) rfl dX6_needPlace_6 ?_
    refine r_get K hin_X6_needPlace_0 3 (wC_g3 _ _ _ _) rfl 1 (by decide) (List.mem_of_getElem? (i := 4) rfl) rfl dX6_needPlace_9 ?_
    refine r_iload_n K dX6_needPlace_12 rfl ?_
    refine r_iald K 19 0 (wC_g19 _ _ _ _) rfl (by omega) (by decide) dX6_needPlace_13 ?_
    have hf2 := V_size hV d
    refine r_ic_ltR K 27 dX6_needPlace_14 (by decide) (fun h3 => ?_) (fun h3 => ?_)
    ·
      exact hret 0 0 _ _ _ () dX6_needPlace_27 (inB_ok hbd h1 (Int32.not_le.mpr h3)) rfl (Nat.le_of_ble_eq_true rfl) (Nat.le_of_ble_eq_true rfl)
    ·
      exact r_throw (cls := eIOB) (text := "the deck has not so many cards") KX (by decide +kernel) (List.mem_of_getElem? (i := 1) rfl) (List.mem_of_getElem? (i := 2) rfl) (by decide +kernel) hat_X6_needPlace_IOB hng_IOB hot_IOB dX6_needPlace_17 dX6_needPlace_20 dX6_needPlace_21 dX6_needPlace_23 dX6_needPlace_26 (by decide) ⟨inB_big hbd (Int32.not_lt.mp h3), rfl⟩

def rmX6_needRange : Room := { frames := 6, cells := 1, slots := 6, locals := 90 }
theorem hat_X6_needRange_IAE : ∀ w ∈ (vx_atS RX6 126 eIAE nmRE).filter goodWord, w ∈ wsX6_needRange := fun _ h => List.mem_cons_of_mem _ (List.mem_append_right _ h)
set_option maxHeartbeats 4000000 in
set_option maxRecDepth 100000 in
theorem c_X6_needRange (l : Launch) (D : va_G) (a : Nat → Nat) (c : Nat → ClassId) (S J : St) (hl0 : l.stackTraces = false) (x : Int32) (lo hi : Nat) (hlo : lo < 2147483648) (hhi : hi < 2147483648) : Xv l yX6_needRange wsX6_needRange rmX6_needRange D (tyW c) [.int x, .int (nI lo), .int (nI hi)] (wC a c S J) (pxB (inB x lo hi) eIAE) (fun _ : Unit => inB x lo hi = true) (fun _ : Unit => wC a c S J) := by
  refine Xv.of (lv0 := [(0, .int x), (1, .int (nI lo)), (2, .int (nI hi))]) hl0 (by decide +kernel) rfl (Nat.le_of_ble_eq_true rfl) rfl (fun G KX hret => ?_)
  have K := KX.ok
  refine r_iload_n K dX6_needRange_0 rfl ?_
  refine r_iload_n K dX6_needRange_1 rfl ?_
  refine r_ic_ltR K 10 dX6_needRange_2 (by decide) (fun h1 => ?_) (fun h1 => ?_)
  ·
    exact r_throw (cls := eIAE) (text := "out of range") KX (by decide +kernel) (List.mem_of_getElem? (i := 1) rfl) (List.mem_of_getElem? (i := 2) rfl) (by decide +kernel) hat_X6_needRange_IAE hng_IAE hot_IAE dX6_needRange_10 dX6_needRange_13 dX6_needRange_14 dX6_needRange_16 dX6_needRange_19 (by decide) ⟨inB_lo hlo h1, rfl⟩
  ·
    refine r_iload_n K dX6_needRange_5 rfl ?_
    refine r_iload_n K dX6_needRange_6 rfl ?_
    refine r_ic_leR K 20 dX6_needRange_7 (by decide) (fun h2 => ?_) (fun h2 => ?_)
    ·
      exact hret 0 0 _ _ _ () dX6_needRange_20 (inB_rg hlo hhi h1 (Int32.not_lt.mpr h2)) rfl (Nat.le_of_ble_eq_true rfl) (Nat.le_of_ble_eq_true rfl)
    ·
      exact r_throw (cls := eIAE) (text := "out of range") KX (by decide +kernel) (List.mem_of_getElem? (i := 1) rfl) (List.mem_of_getElem? (i := 2) rfl) (by decide +kernel) hat_X6_needRange_IAE hng_IAE hot_IAE dX6_needRange_10 dX6_needRange_13 dX6_needRange_14 dX6_needRange_16 dX6_needRange_19 (by decide) ⟨inB_hi hhi (Int32.not_le.mp h2), rfl⟩

def rmX6_needSeed : Room := { frames := 6, cells := 1, slots := 6, locals := 90 }
theorem hat_X6_needSeed_IAE : ∀ w ∈ (vx_atS RX6 126 eIAE nmRE).filter goodWord, w ∈ wsX6_needSeed := fun _ h => List.mem_cons_of_mem _ (List.mem_append_right _ h)
set_option maxHeartbeats 4000000 in
set_option maxRecDepth 100000 in
theorem c_X6_needSeed (l : Launch) (D : va_G) (a : Nat → Nat) (c : Nat → ClassId) (S J : St) (hl0 : l.stackTraces = false) (x : Int32) : Xv l yX6_needSeed wsX6_needSeed rmX6_needSeed D (tyW c) [.int x] (wC a c S J) (pxB (sdB x) eIAE) (fun _ : Unit => sdB x = true) (fun _ : Unit => wC a c S J) := by
  refine Xv.of (lv0 := [(0, .int x)]) hl0 (by decide +kernel) rfl (Nat.le_of_ble_eq_true rfl) rfl (fun G KX hret => ?_)
  have K := KX.ok
  refine r_iload_n K dX6_needSeed_0 rfl ?_
  refine r_if_geR K 14 dX6_needSeed_1 (by decide) (fun h1 => ?_) (fun h1 => ?_)
  ·
    exact hret 0 0 _ _ _ () dX6_needSeed_14 (sdB_t (Int32.not_lt.mpr h1)) rfl (Nat.le_of_ble_eq_true rfl) (Nat.le_of_ble_eq_true rfl)
  ·
    exact r_throw (cls := eIAE) (text := "the seed is out of range") KX (by decide +kernel) (List.mem_of_getElem? (i := 1) rfl) (List.mem_of_getElem? (i := 2) rfl) (by decide +kernel) hat_X6_needSeed_IAE hng_IAE hot_IAE dX6_needSeed_4 dX6_needSeed_7 dX6_needSeed_8 dX6_needSeed_10 dX6_needSeed_13 (by decide) ⟨sdB_f (Int32.not_le.mp h1), rfl⟩
