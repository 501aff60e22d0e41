def rmL_low : Room := { frames := 0, cells := 0, slots := 0, locals := 0 }
set_option maxHeartbeats 4000000 in
set_option maxRecDepth 100000 in
theorem c_L_low (l : Launch) (D : va_G) (c : Nat → ClassId) (x : Int32) (n : Nat) (hn : 0 < n) (h2 : n < 2147483648) : Ci l yL_low wsL_low rmL_low D (tyW c) [.int x, .int (nI n)] [] (fun r (_ : Unit) => ∃ k, k < n ∧ r = nI k) (fun _ => []) := by
  refine Ci.of (lv0 := [(0, .int x), (1, .int (nI n))]) (by decide +kernel) rfl (Nat.le_of_ble_eq_true rfl) rfl (fun G K hret => ?_)
  refine r_iload_n K dL_low_0 rfl ?_
  refine r_ldc K (v := nI 2147483647) (List.mem_of_getElem? (i := 1) rfl) dL_low_1 ?_
  refine r_iandR K dL_low_3 ?_
  obtain ⟨j, hj, ej⟩ := low31 x
  refine r_top (show _ = nI j from ej) ?_
  refine r_iload_n K dL_low_4 rfl ?_
  refine r_irem K dL_low_5 hj hn h2 ?_
  exact hret _ _ _ _ _ _ () dL_low_6 ⟨j % n, Nat.mod_lt _ hn, rfl⟩ rfl (Nat.le_of_ble_eq_true rfl) (Nat.le_of_ble_eq_true rfl)
