def rmX6_orders : Room := { frames := 7, cells := 3, slots := 18, locals := 112 }
theorem hin_X6_orders_6 : ∀ w ∈ wsX60, w ∈ wsX6_orders := fun _ h => List.mem_cons_of_mem _ (List.mem_append_left _ (List.mem_append_left _ (List.mem_append_left _ (List.mem_append_left _ (List.mem_append_right _ h)))))
theorem hin_X6_orders_0 : ∀ w ∈ wsX00, w ∈ wsX6_orders := fun _ h => List.mem_cons_of_mem _ (List.mem_append_left _ (List.mem_append_left _ (List.mem_append_left _ (List.mem_append_right _ h))))
theorem hin_X6_orders_4 : ∀ w ∈ wsX40, w ∈ wsX6_orders := fun _ h => List.mem_cons_of_mem _ (List.mem_append_left _ (List.mem_append_left _ (List.mem_append_right _ h)))
set_option maxHeartbeats 4000000 in
set_option maxRecDepth 100000 in
theorem c_X6_orders (l : Launch) (D : va_G) (a : Nat → Nat) (c : Nat → ClassId) (S J : St) (hl0 : l.stackTraces = false) (hV : V S)  (x : Int32) (y : Int32) (z : Int32) : Xi l yX6_orders wsX6_orders rmX6_orders D (tyW c) [.ref (a 0), .int x, .int y, .int z] (wC a c S J) (pxN eIOB eIAE eIAE (thr (inB x 0 ((S 3 0 : Nat) - 1) && inB y 0 15) (inB z 1 10) (true))) (fun r (_ : Unit) => thr (inB x 0 ((S 3 0 : Nat) - 1) && inB y 0 15) (inB z 1 10) (true) = 0 ∧ r = nI (ordN S (tn x) (tn y) (tn z))) (fun _ : Unit => wC a c (S) J) := by
  refine Xi.of (lv0 := [(0, .ref (a 0)), (1, .int x), (2, .int y), (3, .int z)]) hl0 (by decide +kernel) rfl (Nat.le_of_ble_eq_true rfl) rfl (fun G KX hret => ?_)
  have K := KX.ok
  have hdk := V_decks hV
  refine r_aload_n K dX6_orders_0 rfl ?_
  refine r_iload_n K dX6_orders_1 rfl ?_
  refine r_xcallVv (rest := []) KX (c_X6_needDeck l D a c S J hl0 hV x) (fun E h => px_1 (and_f1 h.1) h.2) 1 gX6_orders_X6_needDeck rfl (by decide +kernel) rfl (by decide) (by decide) 0 (wC_g0 _ _ _ _) rfl rfl (Nat.le_of_ble_eq_true rfl) dX6_orders_2 (fun _ hc1 => ?_)
  have h_x := hc1
  obtain ⟨xk, hxka, hxkb, rfl, hxkc⟩ := inB_ex (by decide) hc1
  refine r_iload_n K dX6_orders_5 rfl ?_
  refine r_xcallSv (rest := []) KX (c_X6_needKind l D a c S J hl0 y) (fun E h => px_1 (and_f2 h.1) h.2) 1 gX6_orders_X6_needKind rfl (by decide +kernel) rfl (by decide) (by decide) rfl (Nat.le_of_ble_eq_true rfl) dX6_orders_6 (fun _ hc2 => ?_)
  have h_y := hc2
  obtain ⟨yk, hyka, hykb, rfl, hykc⟩ := inB_ex (by decide) hc2
  refine r_iload_n K dX6_orders_9 rfl ?_
  refine r_iconst K (nI 1) dX6_orders_10 (by decide) ?_
  refine r_bipush K (nI 10) dX6_orders_11 (by decide) ?_
  refine r_xcallSv (rest := []) KX (c_X6_needRange l D a c S J hl0 z 1 10 (by decide) (by decide)) (fun E h => px_2 (and_t h_x h_y) h.1 h.2) 3 gX6_orders_X6_needRange rfl (by decide +kernel) rfl (by decide) (by decide) rfl (Nat.le_of_ble_eq_true rfl) dX6_orders_13 (fun _ hc3 => ?_)
  have h_z := hc3
  obtain ⟨zk, hzka, hzkb, rfl, hzkc⟩ := inB_ex (by decide) hc3
  refine r_aload_n K dX6_orders_16 rfl ?_
  refine r_get K hin_X6_orders_6 0 (wC_g0 _ _ _ _) rfl 2 (by decide) (List.mem_of_getElem? (i := 1) rfl) rfl dX6_orders_17 ?_
  refine r_get K hin_X6_orders_0 3 (wC_g3 _ _ _ _) rfl 1 (by decide) (List.mem_of_getElem? (i := 2) rfl) rfl dX6_orders_20 ?_
  refine r_iload_n K dX6_orders_23 rfl ?_
  refine r_iald K 19 0 (wC_g19 _ _ _ _) rfl (by omega) (by decide) dX6_orders_24 ?_
  have hf4 := V_size hV xk
  refine r_istore (lv' := [(0, .ref (a 0)), (1, .int (nI xk)), (2, .int (nI yk)), (3, .int (nI zk)), (4, .int (nI (S 19 xk)))]) K dX6_orders_25 (by decide) rfl ?_
  refine r_iload K dX6_orders_27 rfl ?_
  refine r_aload_n K dX6_orders_29 rfl ?_
  refine r_get K hin_X6_orders_6 0 (wC_g0 _ _ _ _) rfl 2 (by decide) (List.mem_of_getElem? (i := 1) rfl) rfl dX6_orders_30 ?_
  refine r_iload_n K dX6_orders_33 rfl ?_
  refine r_iload_n K dX6_orders_34 rfl ?_
  refine r_aload_n K dX6_orders_35 rfl ?_
  refine r_get K hin_X6_orders_6 0 (wC_g0 _ _ _ _) rfl 1 (by decide) (List.mem_of_getElem? (i := 3) rfl) rfl dX6_orders_36 ?_
  refine r_callVs (rest := [.int (nI (S 19 xk))]) K (c_X0_countOf l D a c S J hV xk yk (by omega) (by omega)) 3 gX6_orders_X0_countOf rfl (by decide +kernel) rfl (by decide) 3 (wC_g3 _ _ _ _) rfl rfl (Nat.le_of_ble_eq_true rfl) dX6_orders_39 rfl rfl ?_
  have hmo : mo S xk yk ≤ S 19 xk := cnt_le _ _
  refine r_isub K dX6_orders_42 (by omega) ?_
  refine r_istore (lv' := [(0, .ref (a 0)), (1, .int (nI xk)), (2, .int (nI yk)), (3, .int (nI zk)), (4, .int (nI (S 19 xk))), (5, .int (nI (S 19 xk - (mo S xk yk))))]) K dX6_orders_43 (by decide) rfl ?_
  refine r_iconst K (nI 1) dX6_orders_45 (by decide) ?_
  refine r_istore (lv' := [(0, .ref (a 0)), (1, .int (nI xk)), (2, .int (nI yk)), (3, .int (nI zk)), (4, .int (nI (S 19 xk))), (5, .int (nI (S 19 xk - (mo S xk yk)))), (6, .int (nI 1))]) K dX6_orders_46 (by decide) rfl ?_
  refine r_iconst K (nI 1) dX6_orders_48 (by decide) ?_
  refine r_istore (lv' := [(0, .ref (a 0)), (1, .int (nI xk)), (2, .int (nI yk)), (3, .int (nI zk)), (4, .int (nI (S 19 xk))), (5, .int (nI (S 19 xk - (mo S xk yk)))), (6, .int (nI 1)), (7, .int (nI 1))]) K dX6_orders_49 (by decide) rfl ?_
  refine r_iconst K (nI 0) dX6_orders_51 (by decide) ?_
  refine r_istore (lv' := [(0, .ref (a 0)), (1, .int (nI xk)), (2, .int (nI yk)), (3, .int (nI zk)), (4, .int (nI (S 19 xk))), (5, .int (nI (S 19 xk - (mo S xk yk)))), (6, .int (nI 1)), (7, .int (nI 1)), (8, .int (nI 0))]) K dX6_orders_52 (by decide) rfl ?_
  have L5 : ∀ (z : Nat) (i A B : Nat), S 19 xk < i + z → (i ≤ S 19 xk) → (A = prod (fAll (S 19 xk)) i) → (B = prod (fWo (S 19 xk) (S 19 xk - mo S xk yk) zk) i) → G 3 18 (wC a c S J) [(0, .ref (a 0)), (1, .int (nI xk)), (2, .int (nI yk)), (3, .int (nI zk)), (4, .int (nI (S 19 xk))), (5, .int (nI (S 19 xk - (mo S xk yk)))), (6, .int (nI A)), (7, .int (nI B)), (8, .int (nI i))] 54 [] := by
    intro z
    induction z with
    | zero => intro i A B hz hi hA hB; exact absurd hz (by omega)
    | succ z ih =>
      intro i A B hz hi hA hB
      refine r_iload K dX6_orders_54 rfl ?_
      refine r_iload K dX6_orders_56 rfl ?_
      refine r_ic_ge K 101 dX6_orders_58 (by decide) (by omega) (by omega) (fun h6 => ?_) (fun h6 => ?_)
      ·
        refine r_iload K dX6_orders_101 rfl ?_
        refine r_iload K dX6_orders_103 rfl ?_
        refine r_isub K dX6_orders_105 (by rw [hA, hB]; exact wo_le (by omega) _) ?_
        exact hret 3 18 _ _ _ _ () dX6_orders_106 ⟨thr_0 (and_t h_x h_y) h_z rfl, by rw [tn_nI hxkc, tn_nI hykc, tn_nI hzkc]; unfold ordN; rw [hA, hB, show i = S 19 xk by omega]⟩ rfl (Nat.le_of_ble_eq_true rfl) (Nat.le_of_ble_eq_true rfl)
      ·
        refine r_iload K dX6_orders_61 rfl ?_
        refine r_iload K dX6_orders_63 rfl ?_
        refine r_iload K dX6_orders_65 rfl ?_
        refine r_isub K dX6_orders_67 (by omega) ?_
        refine r_imul K dX6_orders_68 ?_
        refine r_istore (lv' := [(0, .ref (a 0)), (1, .int (nI xk)), (2, .int (nI yk)), (3, .int (nI zk)), (4, .int (nI (S 19 xk))), (5, .int (nI (S 19 xk - (mo S xk yk)))), (6, .int (nI (A * (S 19 xk - i)))), (7, .int (nI B)), (8, .int (nI i))]) K dX6_orders_69 (by decide) rfl ?_
        refine r_iload K dX6_orders_71 rfl ?_
        refine r_iload K dX6_orders_73 rfl ?_
        refine r_iload_n K dX6_orders_75 rfl ?_
        refine r_ic_ge K 87 dX6_orders_76 (by decide) (by omega) (by omega) (fun h7 => ?_) (fun h7 => ?_)
        ·
          refine r_iload K dX6_orders_87 rfl ?_
          refine r_iload K dX6_orders_89 rfl ?_
          refine r_isub K dX6_orders_91 (by omega) ?_
          refine r_imul K dX6_orders_92 ?_
          refine r_istore (lv' := [(0, .ref (a 0)), (1, .int (nI xk)), (2, .int (nI yk)), (3, .int (nI zk)), (4, .int (nI (S 19 xk))), (5, .int (nI (S 19 xk - (mo S xk yk)))), (6, .int (nI (A * (S 19 xk - i)))), (7, .int (nI (B * (S 19 xk - i)))), (8, .int (nI i))]) K dX6_orders_93 (by decide) rfl ?_
          refine r_iinc (lv' := [(0, .ref (a 0)), (1, .int (nI xk)), (2, .int (nI yk)), (3, .int (nI zk)), (4, .int (nI (S 19 xk))), (5, .int (nI (S 19 xk - (mo S xk yk)))), (6, .int (nI (A * (S 19 xk - i)))), (7, .int (nI (B * (S 19 xk - i)))), (8, .int (nI (i + 1)))]) K dX6_orders_95 rfl (nI_1 _) (by decide) rfl ?_
          refine r_goto K 54 dX6_orders_98 (by decide) ?_
          exact ih (i + 1) (A * (S 19 xk - i)) (B * (S 19 xk - i)) (by omega) (by omega) (by rw [prod_s, ← hA]; rfl) (by rw [prod_s, ← hB, show fWo (S 19 xk) (S 19 xk - mo S xk yk) zk i = S 19 xk - i from if_neg (by omega)])
        ·
          refine r_iload K dX6_orders_79 rfl ?_
          refine r_iload K dX6_orders_81 rfl ?_
          refine r_isubR K dX6_orders_83 ?_
          refine r_goto K 92 dX6_orders_84 (by decide) ?_
          refine r_imulR K dX6_orders_92 ?_
          refine r_top (mul_tr (wo_case hB h7)) ?_
          refine r_istore (lv' := [(0, .ref (a 0)), (1, .int (nI xk)), (2, .int (nI yk)), (3, .int (nI zk)), (4, .int (nI (S 19 xk))), (5, .int (nI (S 19 xk - (mo S xk yk)))), (6, .int (nI (A * (S 19 xk - i)))), (7, .int (nI (B * (S 19 xk - mo S xk yk - i)))), (8, .int (nI i))]) K dX6_orders_93 (by decide) rfl ?_
          refine r_iinc (lv' := [(0, .ref (a 0)), (1, .int (nI xk)), (2, .int (nI yk)), (3, .int (nI zk)), (4, .int (nI (S 19 xk))), (5, .int (nI (S 19 xk - (mo S xk yk)))), (6, .int (nI (A * (S 19 xk - i)))), (7, .int (nI (B * (S 19 xk - mo S xk yk - i)))), (8, .int (nI (i + 1)))]) K dX6_orders_95 rfl (nI_1 _) (by decide) rfl ?_
          refine r_goto K 54 dX6_orders_98 (by decide) ?_
          exact ih (i + 1) (A * (S 19 xk - i)) (B * (S 19 xk - mo S xk yk - i)) (by omega) (by omega) (by rw [prod_s, ← hA]; rfl) (by rw [prod_s, ← hB, show fWo (S 19 xk) (S 19 xk - mo S xk yk) zk i = S 19 xk - mo S xk yk - i from if_pos (by omega)])
  exact L5 (S 19 xk + 1) 0 1 1 (by omega) (by omega) rfl rfl


set_option maxHeartbeats 4000000 in
set_option maxRecDepth 100000 in
theorem c_X6_countOrders (l : Launch) (D : va_G) (a : Nat → Nat) (c : Nat → ClassId) (S J : St) (m kb f : Nat) (hm : m ≤ 7) (hf : f < 1000000) : ∀ (r t lb : Nat) (seen : Bool), t + r = m →
    Cs l yX6_countOrders wsX6_countOrders (rmCO r) D (tyW c) [.int (nI t), .int (nI m), .int (nI lb), .int (nI kb), .int (nI f), .int (nI seen.toNat)] (wC a c S J) (nI (coN m kb f r lb seen)) (wC a c S J) := by
  intro r
  induction r with
  | zero =>
    intro t lb seen ht
    refine Ci.of (lv0 := [(0, .int (nI t)), (1, .int (nI m)), (2, .int (nI lb)), (3, .int (nI kb)), (4, .int (nI f)), (5, .int (nI seen.toNat))]) (by decide +kernel) rfl (Nat.le_of_ble_eq_true rfl) rfl (fun G K hret => ?_)
    refine r_iload_n K dX6_countOrders_0 rfl ?_
    refine r_iload_n K dX6_countOrders_1 rfl ?_
    refine r_ic_ge K 11 dX6_countOrders_2 (by decide) (by omega) (by omega) (fun h1 => ?_) (fun h1 => ?_)
    ·
      refine r_iload K dX6_countOrders_11 rfl ?_
      refine r_if_eqB K 20 dX6_countOrders_13 (by decide) (fun h2 => ?_) (fun h2 => ?_)
      ·
        refine r_iconst K (nI 0) dX6_countOrders_20 (by decide) ?_
        exact hret 0 0 _ _ _ _ () dX6_countOrders_21 (by rw [h2]; rfl) rfl (Nat.zero_le _) (Nat.zero_le _)
      ·
        refine r_iconst K (nI 1) dX6_countOrders_16 (by decide) ?_
        refine r_goto K 21 dX6_countOrders_17 (by decide) ?_
        exact hret 0 0 _ _ _ _ () dX6_countOrders_21 (by rw [h2]; rfl) rfl (Nat.zero_le _) (Nat.zero_le _)
    ·
      exact (show False by omega).elim
  | succ r ihr =>
    intro t lb seen ht
    refine Ci.of (lv0 := [(0, .int (nI t)), (1, .int (nI m)), (2, .int (nI lb)), (3, .int (nI kb)), (4, .int (nI f)), (5, .int (nI seen.toNat))]) (by decide +kernel) rfl (Nat.le_of_ble_eq_true rfl) rfl (fun G K hret => ?_)
    refine r_iload_n K dX6_countOrders_0 rfl ?_
    refine r_iload_n K dX6_countOrders_1 rfl ?_
    refine r_ic_ge K 11 dX6_countOrders_2 (by decide) (by omega) (by omega) (fun h1 => ?_) (fun h1 => ?_)
    ·
      exact (show False by omega).elim
    ·
      refine r_iload_n K dX6_countOrders_5 rfl ?_
      refine r_bipush K (nI 7) dX6_countOrders_6 (by decide) ?_
      refine r_ic_lt K 22 dX6_countOrders_8 (by decide) (by omega) (by decide) (fun h2 => ?_) (fun h2 => ?_)
      ·
        refine r_iconst K (nI 0) dX6_countOrders_22 (by decide) ?_
        refine r_istore (lv' := [(0, .int (nI t)), (1, .int (nI m)), (2, .int (nI lb)), (3, .int (nI kb)), (4, .int (nI f)), (5, .int (nI ((seen).toNat))), (6, .int (nI 0))]) K dX6_countOrders_23 (by decide) rfl ?_
        refine r_iconst K (nI 0) dX6_countOrders_25 (by decide) ?_
        refine r_istore (lv' := [(0, .int (nI t)), (1, .int (nI m)), (2, .int (nI lb)), (3, .int (nI kb)), (4, .int (nI f)), (5, .int (nI ((seen).toNat))), (6, .int (nI 0)), (7, .int (nI 0))]) K dX6_countOrders_26 (by decide) rfl ?_
        have L3 : ∀ (z : Nat) (p x : Nat), m < p + z → (p ≤ m) → (x = sumN (coF m kb f r lb seen) p) → G 0 0 (wC a c S J) [(0, .int (nI t)), (1, .int (nI m)), (2, .int (nI lb)), (3, .int (nI kb)), (4, .int (nI f)), (5, .int (nI ((seen).toNat))), (6, .int (nI x)), (7, .int (nI p))] 28 [] := by
          intro z
          induction z with
          | zero => intro p x hz hp hx; exact absurd hz (by omega)
          | succ z ih =>
            intro p x hz hp hx
            refine r_iload K dX6_countOrders_28 rfl ?_
            refine r_iload_n K dX6_countOrders_30 rfl ?_
            refine r_ic_ge K 99 dX6_countOrders_31 (by decide) (by omega) (by omega) (fun h4 => ?_) (fun h4 => ?_)
            ·
              refine r_iload K dX6_countOrders_99 rfl ?_
              exact hret 0 0 _ _ _ _ () dX6_countOrders_101 (by rw [coN_s, hx, show p = m by omega]) rfl (Nat.zero_le _) (Nat.zero_le _)
            ·
              refine r_iconst K (nI 1) dX6_countOrders_34 (by decide) ?_
              refine r_iload K dX6_countOrders_35 rfl ?_
              refine r_ishlR K dX6_countOrders_37 ?_
              refine r_top (shl_bit p (by omega)) ?_
              refine r_istore (lv' := [(0, .int (nI t)), (1, .int (nI m)), (2, .int (nI lb)), (3, .int (nI kb)), (4, .int (nI f)), (5, .int (nI ((seen).toNat))), (6, .int (nI x)), (7, .int (nI p)), (8, .int (nI (2 ^ p)))]) K dX6_countOrders_38 (by decide) rfl ?_
              refine r_iload_n K dX6_countOrders_40 rfl ?_
              refine r_iload K dX6_countOrders_41 rfl ?_
              refine r_iandR K dX6_countOrders_43 ?_
              refine r_if_neR K 93 dX6_countOrders_44 (by decide) (fun h5 => ?_) (fun h5 => ?_)
              ·
                refine r_iinc (lv' := [(0, .int (nI t)), (1, .int (nI m)), (2, .int (nI lb)), (3, .int (nI kb)), (4, .int (nI f)), (5, .int (nI ((seen).toNat))), (6, .int (nI x)), (7, .int (nI (p + 1))), (8, .int (nI (2 ^ p)))]) K dX6_countOrders_93 rfl (nI_1 _) (by decide) rfl ?_
                refine r_goto K 28 dX6_countOrders_96 (by decide) ?_
                refine r_pick [0, 1, 2, 3, 4, 5, 6, 7] K rfl ?_
                exact ih (p + 1) x (by omega) (by omega) (by rw [sumN_s, ← hx, coF_n (bit_1 (by omega) h5)]; rfl)
              ·
                refine r_iload K dX6_countOrders_47 rfl ?_
                refine r_if_neB K 65 dX6_countOrders_49 (by decide) (fun h6 => ?_) (fun h6 => ?_)
                ·
                  refine r_iconst K (nI 1) dX6_countOrders_65 (by decide) ?_
                  refine r_goto K 70 dX6_countOrders_66 (by decide) ?_
                  refine r_istore (lv' := [(0, .int (nI t)), (1, .int (nI m)), (2, .int (nI lb)), (3, .int (nI kb)), (4, .int (nI f)), (5, .int (nI ((seen).toNat))), (6, .int (nI x)), (7, .int (nI p)), (8, .int (nI (2 ^ p))), (9, .int (nI 1))]) K dX6_countOrders_70 (by decide) rfl ?_
                  refine r_iload K dX6_countOrders_72 rfl ?_
                  refine r_iload_n K dX6_countOrders_74 rfl ?_
                  refine r_iconst K (nI 1) dX6_countOrders_75 (by decide) ?_
                  refine r_iadd K dX6_countOrders_76 ?_
                  refine r_iload_n K dX6_countOrders_77 rfl ?_
                  refine r_iload_n K dX6_countOrders_78 rfl ?_
                  refine r_iload K dX6_countOrders_79 rfl ?_
                  refine r_iorR K dX6_countOrders_81 ?_
                  refine r_top (fa_or _ _) ?_
                  refine r_iload_n K dX6_countOrders_82 rfl ?_
                  refine r_iload K dX6_countOrders_83 rfl ?_
                  refine r_iload K dX6_countOrders_85 rfl ?_
                  refine r_callSs (rest := [.int (nI x)]) K (ihr (t + 1) (lb ||| 2 ^ p) true (by omega)) 6 gX6_countOrders_X6_countOrders rfl (by decide +kernel) rfl (by simp only [okRoom, rmCO]; omega) rfl (Nat.le_of_ble_eq_true rfl) dX6_countOrders_87 rfl rfl ?_
                  refine r_iadd K dX6_countOrders_90 ?_
                  refine r_istore (lv' := [(0, .int (nI t)), (1, .int (nI m)), (2, .int (nI lb)), (3, .int (nI kb)), (4, .int (nI f)), (5, .int (nI ((seen).toNat))), (6, .int (nI (x + (coN m kb f r (lb ||| 2 ^ p) true)))), (7, .int (nI p)), (8, .int (nI (2 ^ p))), (9, .int (nI 1))]) K dX6_countOrders_91 (by decide) rfl ?_
                  refine r_iinc (lv' := [(0, .int (nI t)), (1, .int (nI m)), (2, .int (nI lb)), (3, .int (nI kb)), (4, .int (nI f)), (5, .int (nI ((seen).toNat))), (6, .int (nI (x + (coN m kb f r (lb ||| 2 ^ p) true)))), (7, .int (nI (p + 1))), (8, .int (nI (2 ^ p))), (9, .int (nI 1))]) K dX6_countOrders_93 rfl (nI_1 _) (by decide) rfl ?_
                  refine r_goto K 28 dX6_countOrders_96 (by decide) ?_
                  refine r_pick [0, 1, 2, 3, 4, 5, 6, 7] K rfl ?_
                  exact ih (p + 1) (x + (coN m kb f r (lb ||| 2 ^ p) true)) (by omega) (by omega) (by rw [sumN_s, ← hx, coF_y (s2 := true) (bit_0 (by omega) h5) (by rw [h6]; rfl)])
                ·
                  refine r_iload_n K dX6_countOrders_52 rfl ?_
                  refine r_iload K dX6_countOrders_53 rfl ?_
                  refine r_ic_ge K 69 dX6_countOrders_55 (by decide) (by omega) (by omega) (fun h7 => ?_) (fun h7 => ?_)
                  ·
                    refine r_iconst K (nI 0) dX6_countOrders_69 (by decide) ?_
                    refine r_istore (lv' := [(0, .int (nI t)), (1, .int (nI m)), (2, .int (nI lb)), (3, .int (nI kb)), (4, .int (nI f)), (5, .int (nI ((seen).toNat))), (6, .int (nI x)), (7, .int (nI p)), (8, .int (nI (2 ^ p))), (9, .int (nI 0))]) K dX6_countOrders_70 (by decide) rfl ?_
                    refine r_iload K dX6_countOrders_72 rfl ?_
                    refine r_iload_n K dX6_countOrders_74 rfl ?_
                    refine r_iconst K (nI 1) dX6_countOrders_75 (by decide) ?_
                    refine r_iadd K dX6_countOrders_76 ?_
                    refine r_iload_n K dX6_countOrders_77 rfl ?_
                    refine r_iload_n K dX6_countOrders_78 rfl ?_
                    refine r_iload K dX6_countOrders_79 rfl ?_
                    refine r_iorR K dX6_countOrders_81 ?_
                    refine r_top (fa_or _ _) ?_
                    refine r_iload_n K dX6_countOrders_82 rfl ?_
                    refine r_iload K dX6_countOrders_83 rfl ?_
                    refine r_iload K dX6_countOrders_85 rfl ?_
                    refine r_callSs (rest := [.int (nI x)]) K (ihr (t + 1) (lb ||| 2 ^ p) false (by omega)) 6 gX6_countOrders_X6_countOrders rfl (by decide +kernel) rfl (by simp only [okRoom, rmCO]; omega) rfl (Nat.le_of_ble_eq_true rfl) dX6_countOrders_87 rfl rfl ?_
                    refine r_iadd K dX6_countOrders_90 ?_
                    refine r_istore (lv' := [(0, .int (nI t)), (1, .int (nI m)), (2, .int (nI lb)), (3, .int (nI kb)), (4, .int (nI f)), (5, .int (nI ((seen).toNat))), (6, .int (nI (x + (coN m kb f r (lb ||| 2 ^ p) false)))), (7, .int (nI p)), (8, .int (nI (2 ^ p))), (9, .int (nI 0))]) K dX6_countOrders_91 (by decide) rfl ?_
                    refine r_iinc (lv' := [(0, .int (nI t)), (1, .int (nI m)), (2, .int (nI lb)), (3, .int (nI kb)), (4, .int (nI f)), (5, .int (nI ((seen).toNat))), (6, .int (nI (x + (coN m kb f r (lb ||| 2 ^ p) false)))), (7, .int (nI (p + 1))), (8, .int (nI (2 ^ p))), (9, .int (nI 0))]) K dX6_countOrders_93 rfl (nI_1 _) (by decide) rfl ?_
                    refine r_goto K 28 dX6_countOrders_96 (by decide) ?_
                    refine r_pick [0, 1, 2, 3, 4, 5, 6, 7] K rfl ?_
                    exact ih (p + 1) (x + (coN m kb f r (lb ||| 2 ^ p) false)) (by omega) (by omega) (by rw [sumN_s, ← hx, coF_y (s2 := false) (bit_0 (by omega) h5) (by rw [h6, decide_eq_false (show ¬ m - (r + 1) < f by omega)]; rfl)])
                  ·
                    refine r_iload_n K dX6_countOrders_58 rfl ?_
                    refine r_iload K dX6_countOrders_59 rfl ?_
                    refine r_iandR K dX6_countOrders_61 ?_
                    refine r_if_eqR K 69 dX6_countOrders_62 (by decide) (fun h8 => ?_) (fun h8 => ?_)
                    ·
                      refine r_iconst K (nI 0) dX6_countOrders_69 (by decide) ?_
                      refine r_istore (lv' := [(0, .int (nI t)), (1, .int (nI m)), (2, .int (nI lb)), (3, .int (nI kb)), (4, .int (nI f)), (5, .int (nI ((seen).toNat))), (6, .int (nI x)), (7, .int (nI p)), (8, .int (nI (2 ^ p))), (9, .int (nI 0))]) K dX6_countOrders_70 (by decide) rfl ?_
                      refine r_iload K dX6_countOrders_72 rfl ?_
                      refine r_iload_n K dX6_countOrders_74 rfl ?_
                      refine r_iconst K (nI 1) dX6_countOrders_75 (by decide) ?_
                      refine r_iadd K dX6_countOrders_76 ?_
                      refine r_iload_n K dX6_countOrders_77 rfl ?_
                      refine r_iload_n K dX6_countOrders_78 rfl ?_
                      refine r_iload K dX6_countOrders_79 rfl ?_
                      refine r_iorR K dX6_countOrders_81 ?_
                      refine r_top (fa_or _ _) ?_
                      refine r_iload_n K dX6_countOrders_82 rfl ?_
                      refine r_iload K dX6_countOrders_83 rfl ?_
                      refine r_iload K dX6_countOrders_85 rfl ?_
                      refine r_callSs (rest := [.int (nI x)]) K (ihr (t + 1) (lb ||| 2 ^ p) false (by omega)) 6 gX6_countOrders_X6_countOrders rfl (by decide +kernel) rfl (by simp only [okRoom, rmCO]; omega) rfl (Nat.le_of_ble_eq_true rfl) dX6_countOrders_87 rfl rfl ?_
                      refine r_iadd K dX6_countOrders_90 ?_
                      refine r_istore (lv' := [(0, .int (nI t)), (1, .int (nI m)), (2, .int (nI lb)), (3, .int (nI kb)), (4, .int (nI f)), (5, .int (nI ((seen).toNat))), (6, .int (nI (x + (coN m kb f r (lb ||| 2 ^ p) false)))), (7, .int (nI p)), (8, .int (nI (2 ^ p))), (9, .int (nI 0))]) K dX6_countOrders_91 (by decide) rfl ?_
                      refine r_iinc (lv' := [(0, .int (nI t)), (1, .int (nI m)), (2, .int (nI lb)), (3, .int (nI kb)), (4, .int (nI f)), (5, .int (nI ((seen).toNat))), (6, .int (nI (x + (coN m kb f r (lb ||| 2 ^ p) false)))), (7, .int (nI (p + 1))), (8, .int (nI (2 ^ p))), (9, .int (nI 0))]) K dX6_countOrders_93 rfl (nI_1 _) (by decide) rfl ?_
                      refine r_goto K 28 dX6_countOrders_96 (by decide) ?_
                      refine r_pick [0, 1, 2, 3, 4, 5, 6, 7] K rfl ?_
                      exact ih (p + 1) (x + (coN m kb f r (lb ||| 2 ^ p) false)) (by omega) (by omega) (by rw [sumN_s, ← hx, coF_y (s2 := false) (bit_0 (by omega) h5) (by rw [h6, bit_0 (by omega) h8, Bool.and_false]; rfl)])
                    ·
                      refine r_iconst K (nI 1) dX6_countOrders_65 (by decide) ?_
                      refine r_goto K 70 dX6_countOrders_66 (by decide) ?_
                      refine r_istore (lv' := [(0, .int (nI t)), (1, .int (nI m)), (2, .int (nI lb)), (3, .int (nI kb)), (4, .int (nI f)), (5, .int (nI ((seen).toNat))), (6, .int (nI x)), (7, .int (nI p)), (8, .int (nI (2 ^ p))), (9, .int (nI 1))]) K dX6_countOrders_70 (by decide) rfl ?_
                      refine r_iload K dX6_countOrders_72 rfl ?_
                      refine r_iload_n K dX6_countOrders_74 rfl ?_
                      refine r_iconst K (nI 1) dX6_countOrders_75 (by decide) ?_
                      refine r_iadd K dX6_countOrders_76 ?_
                      refine r_iload_n K dX6_countOrders_77 rfl ?_
                      refine r_iload_n K dX6_countOrders_78 rfl ?_
                      refine r_iload K dX6_countOrders_79 rfl ?_
                      refine r_iorR K dX6_countOrders_81 ?_
                      refine r_top (fa_or _ _) ?_
                      refine r_iload_n K dX6_countOrders_82 rfl ?_
                      refine r_iload K dX6_countOrders_83 rfl ?_
                      refine r_iload K dX6_countOrders_85 rfl ?_
                      refine r_callSs (rest := [.int (nI x)]) K (ihr (t + 1) (lb ||| 2 ^ p) true (by omega)) 6 gX6_countOrders_X6_countOrders rfl (by decide +kernel) rfl (by simp only [okRoom, rmCO]; omega) rfl (Nat.le_of_ble_eq_true rfl) dX6_countOrders_87 rfl rfl ?_
                      refine r_iadd K dX6_countOrders_90 ?_
                      refine r_istore (lv' := [(0, .int (nI t)), (1, .int (nI m)), (2, .int (nI lb)), (3, .int (nI kb)), (4, .int (nI f)), (5, .int (nI ((seen).toNat))), (6, .int (nI (x + (coN m kb f r (lb ||| 2 ^ p) true)))), (7, .int (nI p)), (8, .int (nI (2 ^ p))), (9, .int (nI 1))]) K dX6_countOrders_91 (by decide) rfl ?_
                      refine r_iinc (lv' := [(0, .int (nI t)), (1, .int (nI m)), (2, .int (nI lb)), (3, .int (nI kb)), (4, .int (nI f)), (5, .int (nI ((seen).toNat))), (6, .int (nI (x + (coN m kb f r (lb ||| 2 ^ p) true)))), (7, .int (nI (p + 1))), (8, .int (nI (2 ^ p))), (9, .int (nI 1))]) K dX6_countOrders_93 rfl (nI_1 _) (by decide) rfl ?_
                      refine r_goto K 28 dX6_countOrders_96 (by decide) ?_
                      refine r_pick [0, 1, 2, 3, 4, 5, 6, 7] K rfl ?_
                      exact ih (p + 1) (x + (coN m kb f r (lb ||| 2 ^ p) true)) (by omega) (by omega) (by rw [sumN_s, ← hx, coF_y (s2 := true) (bit_0 (by omega) h5) (by rw [h6, decide_eq_true (show m - (r + 1) < f by omega), bit_1 (by omega) h8]; rfl)])
        exact L3 (m + 1) 0 0 (by omega) (by omega) rfl
      ·
        exact (show False by omega).elim

def rmX6_ordersByAll : Room := { frames := 10, cells := 4, slots := 24, locals := 389 }
theorem hin_X6_ordersByAll_6 : ∀ w ∈ wsX60, w ∈ wsX6_ordersByAll := fun _ h => List.mem_cons_of_mem _ (List.mem_append_left _ (List.mem_append_left _ (List.mem_append_left _ (List.mem_append_left _ (List.mem_append_left _ (List.mem_append_right _ h))))))
theorem hin_X6_ordersByAll_0 : ∀ w ∈ wsX00, w ∈ wsX6_ordersByAll := fun _ h => List.mem_cons_of_mem _ (List.mem_append_left _ (List.mem_append_left _ (List.mem_append_left _ (List.mem_append_left _ (List.mem_append_right _ h)))))
theorem hin_X6_ordersByAll_4 : ∀ w ∈ wsX40, w ∈ wsX6_ordersByAll := fun _ h => List.mem_cons_of_mem _ (List.mem_append_left _ (List.mem_append_left _ (List.mem_append_left _ (List.mem_append_right _ h))))
theorem hat_X6_ordersByAll_ISE : ∀ w ∈ (vx_atS RX6 94 eISE nmRE).filter goodWord, w ∈ wsX6_ordersByAll := fun _ h => List.mem_cons_of_mem _ (List.mem_append_left _ (List.mem_append_left _ (List.mem_append_right _ h)))
set_option maxHeartbeats 4000000 in
set_option maxRecDepth 100000 in
theorem c_X6_ordersByAll (l : Launch) (D : va_G) (a : Nat → Nat) (c : Nat → ClassId) (S J : St) (hl0 : l.stackTraces = false) (hV : V S)  (x : Int32) (y : Int32) (z : Int32) : Xi l yX6_ordersByAll wsX6_ordersByAll rmX6_ordersByAll D (tyW c) [.ref (a 0), .int x, .int y, .int z] (wC a c S J) (pxN eIOB eIAE eISE (thr (inB x 0 ((S 3 0 : Nat) - 1) && inB y 0 15) (inB z 1 10) (decide (S 19 (tn x) ≤ 7)))) (fun r (_ : Unit) => thr (inB x 0 ((S 3 0 : Nat) - 1) && inB y 0 15) (inB z 1 10) (decide (S 19 (tn x) ≤ 7)) = 0 ∧ r = nI (coN (S 19 (tn x)) (bits (isK S (tn x) (tn y)) (S 19 (tn x))) (tn z) (S 19 (tn x)) 0 false)) (fun _ : Unit => wC a c (S) J) := by
  refine Xi.of (lv0 := [(0, .ref (a 0)), (1, .int x), (2, .int y), (3, .int z)]) hl0 (by decide +kernel) rfl (Nat.le_of_ble_eq_true rfl) rfl (fun G KX hret => ?_)
  have K := KX.ok
  have hdk := V_decks hV
  refine r_aload_n K dX6_ordersByAll_0 rfl ?_
  refine r_iload_n K dX6_ordersByAll_1 rfl ?_
  refine r_xcallVv (rest := []) KX (c_X6_needDeck l D a c S J hl0 hV x) (fun E h => px_1 (and_f1 h.1) h.2) 1 gX6_ordersByAll_X6_needDeck rfl (by decide +kernel) rfl (by decide) (by decide) 0 (wC_g0 _ _ _ _) rfl rfl (Nat.le_of_ble_eq_true rfl) dX6_ordersByAll_2 (fun _ hc1 => ?_)
  have h_x := hc1
  obtain ⟨xk, hxka, hxkb, rfl, hxkc⟩ := inB_ex (by decide) hc1
  refine r_iload_n K dX6_ordersByAll_5 rfl ?_
  refine r_xcallSv (rest := []) KX (c_X6_needKind l D a c S J hl0 y) (fun E h => px_1 (and_f2 h.1) h.2) 1 gX6_ordersByAll_X6_needKind rfl (by decide +kernel) rfl (by decide) (by decide) rfl (Nat.le_of_ble_eq_true rfl) dX6_ordersByAll_6 (fun _ hc2 => ?_)
  have h_y := hc2
  obtain ⟨yk, hyka, hykb, rfl, hykc⟩ := inB_ex (by decide) hc2
  refine r_iload_n K dX6_ordersByAll_9 rfl ?_
  refine r_iconst K (nI 1) dX6_ordersByAll_10 (by decide) ?_
  refine r_bipush K (nI 10) dX6_ordersByAll_11 (by decide) ?_
  refine r_xcallSv (rest := []) KX (c_X6_needRange l D a c S J hl0 z 1 10 (by decide) (by decide)) (fun E h => px_2 (and_t h_x h_y) h.1 h.2) 3 gX6_ordersByAll_X6_needRange rfl (by decide +kernel) rfl (by decide) (by decide) rfl (Nat.le_of_ble_eq_true rfl) dX6_ordersByAll_13 (fun _ hc3 => ?_)
  have h_z := hc3
  obtain ⟨zk, hzka, hzkb, rfl, hzkc⟩ := inB_ex (by decide) hc3
  refine r_aload_n K dX6_ordersByAll_16 rfl ?_
  refine r_get K hin_X6_ordersByAll_6 0 (wC_g0 _ _ _ _) rfl 2 (by decide) (List.mem_of_getElem? (i := 3) rfl) rfl dX6_ordersByAll_17 ?_
  refine r_get K hin_X6_ordersByAll_0 3 (wC_g3 _ _ _ _) rfl 1 (by decide) (List.mem_of_getElem? (i := 4) rfl) rfl dX6_ordersByAll_20 ?_
  refine r_iload_n K dX6_ordersByAll_23 rfl ?_
  refine r_iald K 19 0 (wC_g19 _ _ _ _) rfl (by omega) (by decide) dX6_ordersByAll_24 ?_
  have hf4 := V_size hV xk
  refine r_istore (lv' := [(0, .ref (a 0)), (1, .int (nI xk)), (2, .int (nI yk)), (3, .int (nI zk)), (4, .int (nI (S 19 xk)))]) K dX6_ordersByAll_25 (by decide) rfl ?_
  refine r_iload K dX6_ordersByAll_27 rfl ?_
  refine r_bipush K (nI 7) dX6_ordersByAll_29 (by decide) ?_
  refine r_ic_le K 44 dX6_ordersByAll_31 (by decide) (by omega) (by decide) (fun h5 => ?_) (fun h5 => ?_)
  ·
    refine r_aload_n K dX6_ordersByAll_44 rfl ?_
    refine r_get K hin_X6_ordersByAll_6 0 (wC_g0 _ _ _ _) rfl 2 (by decide) (List.mem_of_getElem? (i := 3) rfl) rfl dX6_ordersByAll_45 ?_
    refine r_iload_n K dX6_ordersByAll_48 rfl ?_
    refine r_iload_n K dX6_ordersByAll_49 rfl ?_
    refine r_aload_n K dX6_ordersByAll_50 rfl ?_
    refine r_get K hin_X6_ordersByAll_6 0 (wC_g0 _ _ _ _) rfl 1 (by decide) (List.mem_of_getElem? (i := 5) rfl) rfl dX6_ordersByAll_51 ?_
    refine r_callVs (rest := []) K (c_X0_placesOf l D a c S J hV xk yk (by omega) (by omega)) 3 gX6_ordersByAll_X0_placesOf rfl (by decide +kernel) rfl (by decide) 3 (wC_g3 _ _ _ _) rfl rfl (Nat.le_of_ble_eq_true rfl) dX6_ordersByAll_54 rfl rfl ?_
    refine r_istore (lv' := [(0, .ref (a 0)), (1, .int (nI xk)), (2, .int (nI yk)), (3, .int (nI zk)), (4, .int (nI (S 19 xk))), (5, .int (nI (bits (isK S xk yk) (S 19 xk))))]) K dX6_ordersByAll_57 (by decide) rfl ?_
    refine r_iconst K (nI 0) dX6_ordersByAll_59 (by decide) ?_
    refine r_iload K dX6_ordersByAll_60 rfl ?_
    refine r_iconst K (nI 0) dX6_ordersByAll_62 (by decide) ?_
    refine r_iload K dX6_ordersByAll_63 rfl ?_
    refine r_iload_n K dX6_ordersByAll_65 rfl ?_
    refine r_iconst K (nI 0) dX6_ordersByAll_66 (by decide) ?_
    refine r_callSs (rest := []) K (c_X6_countOrders l D a c S J (S 19 xk) (bits (isK S xk yk) (S 19 xk)) zk (by omega) (by omega) (S 19 xk) 0 0 false (by omega)) 6 gX6_ordersByAll_X6_countOrders rfl (by decide +kernel) rfl (by simp only [okRoom, rmCO, rmX6_ordersByAll, rmX6_needDeck, rmX6_needKind, rmX6_needRange]; omega) rfl (Nat.le_of_ble_eq_true rfl) dX6_ordersByAll_67 rfl rfl ?_
    exact hret 3 18 _ _ _ _ () dX6_ordersByAll_70 ⟨(by rw [tn_nI hxkc]; exact thr_0 (and_t h_x h_y) h_z (decide_eq_true (by omega))), by rw [tn_nI hxkc, tn_nI hykc, tn_nI hzkc]⟩ rfl (Nat.le_of_ble_eq_true rfl) (Nat.le_of_ble_eq_true rfl)
  ·
    exact r_throw (cls := eISE) (text := "too many orders to go through") KX (by decide +kernel) (List.mem_of_getElem? (i := 1) rfl) (List.mem_of_getElem? (i := 2) rfl) (by decide +kernel) hat_X6_ordersByAll_ISE hng_ISE hot_ISE dX6_ordersByAll_34 dX6_ordersByAll_37 dX6_ordersByAll_38 dX6_ordersByAll_40 dX6_ordersByAll_43 (by decide) (by rw [tn_nI hxkc]; exact px_3 (and_t h_x h_y) h_z (decide_eq_false (by omega)) rfl)

def rmX6_playRound : Room := { frames := 1, cells := 0, slots := 0, locals := 23 }
theorem hin_X6_playRound_6 : ∀ w ∈ wsX60, w ∈ wsX6_playRound := fun _ h => List.mem_cons_of_mem _ (List.mem_append_left _ (List.mem_append_left _ (List.mem_append_left _ (List.mem_append_left _ (List.mem_append_right _ h)))))
theorem hin_X6_playRound_4 : ∀ w ∈ wsX40, w ∈ wsX6_playRound := fun _ h => List.mem_cons_of_mem _ (List.mem_append_left _ (List.mem_append_left _ (List.mem_append_left _ (List.mem_append_right _ h))))
theorem hin_X6_playRound_5 : ∀ w ∈ wsX50, w ∈ wsX6_playRound := fun _ h => List.mem_cons_of_mem _ (List.mem_append_left _ (List.mem_append_left _ (List.mem_append_right _ h)))
theorem hin_X6_playRound_3 : ∀ w ∈ wsX30, w ∈ wsX6_playRound := fun _ h => List.mem_cons_of_mem _ (List.mem_append_left _ (List.mem_append_right _ h))
theorem hin_X6_playRound_1 : ∀ w ∈ wsX10, w ∈ wsX6_playRound := fun _ h => List.mem_cons_of_mem _ (List.mem_append_right _ h)
set_option maxHeartbeats 4000000 in
set_option maxRecDepth 100000 in
theorem c_X6_playRound (l : Launch) (D : va_G) (a : Nat → Nat) (c : Nat → ClassId) (S J : St) (hV : V S) (i : Nat) (hi : i < 10) (hr1 : J 28 i < 80) (hr2 : J 29 i < 80) (ha1 : J 6 1 < 100) (ha2 : J 7 1 < 100) : Cv l yX6_playRound wsX6_playRound rmX6_playRound D (tyW c) [.ref (a 0), .int (nI i)] (wC a c S J) (fun J1 : St => roundPost S J i J1) (fun J1 => wC a c S J1) := by
  refine Cv.of (lv0 := [(0, .ref (a 0)), (1, .int (nI i))]) (by decide +kernel) rfl (Nat.le_of_ble_eq_true rfl) rfl (fun G K hret => ?_)
  have hk1 := V_kind hV (J 28 i)
  have hk2 := V_kind hV (J 29 i)
  refine r_aload_n K dX6_playRound_0 rfl ?_
  refine r_get K hin_X6_playRound_6 0 (wC_g0 _ _ _ _) rfl 1 (by decide) (List.mem_of_getElem? (i := 1) rfl) rfl dX6_playRound_1 ?_
  refine r_get K hin_X6_playRound_4 2 (wC_g2 _ _ _ _) rfl 0 (by decide) (List.mem_of_getElem? (i := 2) rfl) rfl dX6_playRound_4 ?_
  refine r_aload_n K dX6_playRound_7 rfl ?_
  refine r_get K hin_X6_playRound_6 0 (wC_g0 _ _ _ _) rfl 5 (by decide) (List.mem_of_getElem? (i := 3) rfl) rfl dX6_playRound_8 ?_
  refine r_get K hin_X6_playRound_5 6 (wC_g6 _ _ _ _) rfl 0 (by decide) (List.mem_of_getElem? (i := 4) rfl) rfl dX6_playRound_11 ?_
  refine r_get K hin_X6_playRound_3 8 (wC_g8 _ _ _ _) rfl 0 (by decide) (List.mem_of_getElem? (i := 5) rfl) rfl dX6_playRound_14 ?_
  refine r_iload_n K dX6_playRound_17 rfl ?_
  refine r_iald K 28 0 (wC_g28 _ _ _ _) rfl (by omega) (by decide) dX6_playRound_18 ?_
  refine r_iald K 15 0 (wC_g15 _ _ _ _) rfl (by omega) (by decide) dX6_playRound_19 ?_
  have hf1 := V_kind hV (J 28 i)
  refine r_istore_n (lv' := [(0, .ref (a 0)), (1, .int (nI i)), (2, .int (nI (S 15 (J 28 i))))]) K dX6_playRound_20 (by decide) rfl ?_
  refine r_aload_n K dX6_playRound_21 rfl ?_
  refine r_get K hin_X6_playRound_6 0 (wC_g0 _ _ _ _) rfl 1 (by decide) (List.mem_of_getElem? (i := 1) rfl) rfl dX6_playRound_22 ?_
  refine r_get K hin_X6_playRound_4 2 (wC_g2 _ _ _ _) rfl 0 (by decide) (List.mem_of_getElem? (i := 2) rfl) rfl dX6_playRound_25 ?_
  refine r_aload_n K dX6_playRound_28 rfl ?_
  refine r_get K hin_X6_playRound_6 0 (wC_g0 _ _ _ _) rfl 6 (by decide) (List.mem_of_getElem? (i := 6) rfl) rfl dX6_playRound_29 ?_
  refine r_get K hin_X6_playRound_5 7 (wC_g7 _ _ _ _) rfl 0 (by decide) (List.mem_of_getElem? (i := 4) rfl) rfl dX6_playRound_32 ?_
  refine r_get K hin_X6_playRound_3 9 (wC_g9 _ _ _ _) rfl 0 (by decide) (List.mem_of_getElem? (i := 5) rfl) rfl dX6_playRound_35 ?_
  refine r_iload_n K dX6_playRound_38 rfl ?_
  refine r_iald K 29 0 (wC_g29 _ _ _ _) rfl (by omega) (by decide) dX6_playRound_39 ?_
  refine r_iald K 15 0 (wC_g15 _ _ _ _) rfl (by omega) (by decide) dX6_playRound_40 ?_
  have hf2 := V_kind hV (J 29 i)
  refine r_istore_n (lv' := [(0, .ref (a 0)), (1, .int (nI i)), (2, .int (nI (S 15 (J 28 i)))), (3, .int (nI (S 15 (J 29 i))))]) K dX6_playRound_41 (by decide) rfl ?_
  refine r_aload_n K dX6_playRound_42 rfl ?_
  refine r_get K hin_X6_playRound_6 0 (wC_g0 _ _ _ _) rfl 0 (by decide) (List.mem_of_getElem? (i := 7) rfl) rfl dX6_playRound_43 ?_
  refine r_get K hin_X6_playRound_1 1 (wC_g1 _ _ _ _) rfl 0 (by decide) (List.mem_of_getElem? (i := 8) rfl) rfl dX6_playRound_46 ?_
  refine r_iload_n K dX6_playRound_49 rfl ?_
  refine r_iald K 10 0 (wC_g10 _ _ _ _) rfl (by omega) (by decide) dX6_playRound_50 ?_
  have hf3 := V_b hV 10 (S 15 (J 28 i))
  refine r_aload_n K dX6_playRound_51 rfl ?_
  refine r_get K hin_X6_playRound_6 0 (wC_g0 _ _ _ _) rfl 5 (by decide) (List.mem_of_getElem? (i := 3) rfl) rfl dX6_playRound_52 ?_
  refine r_get K hin_X6_playRound_5 6 (wC_g6 _ _ _ _) rfl 2 (by decide) (List.mem_of_getElem? (i := 9) rfl) rfl dX6_playRound_55 ?_
  refine r_iadd K dX6_playRound_58 ?_
  refine r_istore (lv' := [(0, .ref (a 0)), (1, .int (nI i)), (2, .int (nI (S 15 (J 28 i)))), (3, .int (nI (S 15 (J 29 i)))), (4, .int (nI (S 10 (S 15 (J 28 i)) + J 6 1)))]) K dX6_playRound_59 (by decide) rfl ?_
  refine r_aload_n K dX6_playRound_61 rfl ?_
  refine r_get K hin_X6_playRound_6 0 (wC_g0 _ _ _ _) rfl 0 (by decide) (List.mem_of_getElem? (i := 7) rfl) rfl dX6_playRound_62 ?_
  refine r_get K hin_X6_playRound_1 1 (wC_g1 _ _ _ _) rfl 0 (by decide) (List.mem_of_getElem? (i := 8) rfl) rfl dX6_playRound_65 ?_
  refine r_iload_n K dX6_playRound_68 rfl ?_
  refine r_iald K 10 0 (wC_g10 _ _ _ _) rfl (by omega) (by decide) dX6_playRound_69 ?_
  have hf4 := V_b hV 10 (S 15 (J 29 i))
  refine r_aload_n K dX6_playRound_70 rfl ?_
  refine r_get K hin_X6_playRound_6 0 (wC_g0 _ _ _ _) rfl 6 (by decide) (List.mem_of_getElem? (i := 6) rfl) rfl dX6_playRound_71 ?_
  refine r_get K hin_X6_playRound_5 7 (wC_g7 _ _ _ _) rfl 2 (by decide) (List.mem_of_getElem? (i := 9) rfl) rfl dX6_playRound_74 ?_
  refine r_iadd K dX6_playRound_77 ?_
  refine r_istore (lv' := [(0, .ref (a 0)), (1, .int (nI i)), (2, .int (nI (S 15 (J 28 i)))), (3, .int (nI (S 15 (J 29 i)))), (4, .int (nI (S 10 (S 15 (J 28 i)) + J 6 1))), (5, .int (nI (S 10 (S 15 (J 29 i)) + J 7 1)))]) K dX6_playRound_78 (by decide) rfl ?_
  refine r_aload_n K dX6_playRound_80 rfl ?_
  refine r_get K hin_X6_playRound_6 0 (wC_g0 _ _ _ _) rfl 0 (by decide) (List.mem_of_getElem? (i := 7) rfl) rfl dX6_playRound_81 ?_
  refine r_get K hin_X6_playRound_1 1 (wC_g1 _ _ _ _) rfl 1 (by decide) (List.mem_of_getElem? (i := 10) rfl) rfl dX6_playRound_84 ?_
  refine r_iload_n K dX6_playRound_87 rfl ?_
  refine r_iald K 11 0 (wC_g11 _ _ _ _) rfl (by omega) (by decide) dX6_playRound_88 ?_
  have hf5 := V_b hV 11 (S 15 (J 28 i))
  refine r_istore (lv' := [(0, .ref (a 0)), (1, .int (nI i)), (2, .int (nI (S 15 (J 28 i)))), (3, .int (nI (S 15 (J 29 i)))), (4, .int (nI (S 10 (S 15 (J 28 i)) + J 6 1))), (5, .int (nI (S 10 (S 15 (J 29 i)) + J 7 1))), (6, .int (nI (S 11 (S 15 (J 28 i)))))]) K dX6_playRound_89 (by decide) rfl ?_
  refine r_aload_n K dX6_playRound_91 rfl ?_
  refine r_get K hin_X6_playRound_6 0 (wC_g0 _ _ _ _) rfl 0 (by decide) (List.mem_of_getElem? (i := 7) rfl) rfl dX6_playRound_92 ?_
  refine r_get K hin_X6_playRound_1 1 (wC_g1 _ _ _ _) rfl 1 (by decide) (List.mem_of_getElem? (i := 10) rfl) rfl dX6_playRound_95 ?_
  refine r_iload_n K dX6_playRound_98 rfl ?_
  refine r_iald K 11 0 (wC_g11 _ _ _ _) rfl (by omega) (by decide) dX6_playRound_99 ?_
  have hf6 := V_b hV 11 (S 15 (J 29 i))
  refine r_istore (lv' := [(0, .ref (a 0)), (1, .int (nI i)), (2, .int (nI (S 15 (J 28 i)))), (3, .int (nI (S 15 (J 29 i)))), (4, .int (nI (S 10 (S 15 (J 28 i)) + J 6 1))), (5, .int (nI (S 10 (S 15 (J 29 i)) + J 7 1))), (6, .int (nI (S 11 (S 15 (J 28 i))))), (7, .int (nI (S 11 (S 15 (J 29 i)))))]) K dX6_playRound_100 (by decide) rfl ?_
  refine r_aload_n K dX6_playRound_102 rfl ?_
  refine r_get K hin_X6_playRound_6 0 (wC_g0 _ _ _ _) rfl 5 (by decide) (List.mem_of_getElem? (i := 3) rfl) rfl dX6_playRound_103 ?_
  refine r_iload K dX6_playRound_106 rfl ?_
  refine r_iload K dX6_playRound_108 rfl ?_
  refine r_ic_le K 117 dX6_playRound_110 (by decide) (by omega) (by omega) (fun h7 => ?_) (fun h7 => ?_)
  ·
    refine r_iconst K (nI 0) dX6_playRound_117 (by decide) ?_
    refine r_iload K dX6_playRound_118 rfl ?_
    refine r_iload K dX6_playRound_120 rfl ?_
    refine r_callVv (rest := []) K (c_X5_endRound_6 l D a c S J false (S 11 (S 15 (J 28 i))) (S 11 (S 15 (J 29 i))) (by omega) (by omega)) 3 gX6_playRound_X5_endRound rfl (by decide +kernel) rfl (by decide) 6 (wC_g6 _ _ _ _) rfl rfl (Nat.le_of_ble_eq_true rfl) dX6_playRound_122 (fun J8 hpJ8 => ?_)
    obtain ⟨hoJ8, hp0J8, hp1J8⟩ := hpJ8
    refine r_aload_n K dX6_playRound_125 rfl ?_
    refine r_get K hin_X6_playRound_6 0 (wC_g0 _ _ _ _) rfl 6 (by decide) (List.mem_of_getElem? (i := 6) rfl) rfl dX6_playRound_126 ?_
    refine r_iload K dX6_playRound_129 rfl ?_
    refine r_iload K dX6_playRound_131 rfl ?_
    refine r_ic_le K 140 dX6_playRound_133 (by decide) (by omega) (by omega) (fun h9 => ?_) (fun h9 => ?_)
    ·
      refine r_iconst K (nI 0) dX6_playRound_140 (by decide) ?_
      refine r_iload K dX6_playRound_141 rfl ?_
      refine r_iload K dX6_playRound_143 rfl ?_
      refine r_callVv (rest := []) K (c_X5_endRound_7 l D a c S J8 false (S 11 (S 15 (J 29 i))) (S 11 (S 15 (J 28 i))) (by omega) (by omega)) 3 gX6_playRound_X5_endRound rfl (by decide +kernel) rfl (by decide) 7 (wC_g7 _ _ _ _) rfl rfl (Nat.le_of_ble_eq_true rfl) dX6_playRound_145 (fun J10 hpJ10 => ?_)
      obtain ⟨hoJ10, hp0J10, hp1J10⟩ := hpJ10
      refine hret 0 0 _ _ _ J10 dX6_playRound_148 ⟨fun g h6 h7 => (hoJ10 g h7).trans (hoJ8 g h6), ?_, ?_, ?_, ?_⟩ rfl (Nat.le_of_ble_eq_true rfl) (Nat.le_of_ble_eq_true rfl)
      · rw [hoJ10 6 (by decide), hp0J8, decide_eq_false (show ¬ S 10 (S 15 (J 29 i)) + J 7 1 < S 10 (S 15 (J 28 i)) + J 6 1 by omega)]
      · rw [hoJ10 6 (by decide), hp1J8, decide_eq_false (show ¬ S 10 (S 15 (J 29 i)) + J 7 1 < S 10 (S 15 (J 28 i)) + J 6 1 by omega)]
      · rw [hp0J10, hoJ8 7 (by decide), decide_eq_false (show ¬ S 10 (S 15 (J 28 i)) + J 6 1 < S 10 (S 15 (J 29 i)) + J 7 1 by omega)]
      · rw [hp1J10, decide_eq_false (show ¬ S 10 (S 15 (J 28 i)) + J 6 1 < S 10 (S 15 (J 29 i)) + J 7 1 by omega)]
    ·
      refine r_iconst K (nI 1) dX6_playRound_136 (by decide) ?_
      refine r_goto K 141 dX6_playRound_137 (by decide) ?_
      refine r_iload K dX6_playRound_141 rfl ?_
      refine r_iload K dX6_playRound_143 rfl ?_
      refine r_callVv (rest := []) K (c_X5_endRound_7 l D a c S J8 true (S 11 (S 15 (J 29 i))) (S 11 (S 15 (J 28 i))) (by omega) (by omega)) 3 gX6_playRound_X5_endRound rfl (by decide +kernel) rfl (by decide) 7 (wC_g7 _ _ _ _) rfl rfl (Nat.le_of_ble_eq_true rfl) dX6_playRound_145 (fun J11 hpJ11 => ?_)
      obtain ⟨hoJ11, hp0J11, hp1J11⟩ := hpJ11
      refine hret 0 0 _ _ _ J11 dX6_playRound_148 ⟨fun g h6 h7 => (hoJ11 g h7).trans (hoJ8 g h6), ?_, ?_, ?_, ?_⟩ rfl (Nat.le_of_ble_eq_true rfl) (Nat.le_of_ble_eq_true rfl)
      · rw [hoJ11 6 (by decide), hp0J8, decide_eq_false (show ¬ S 10 (S 15 (J 29 i)) + J 7 1 < S 10 (S 15 (J 28 i)) + J 6 1 by omega)]
      · rw [hoJ11 6 (by decide), hp1J8, decide_eq_false (show ¬ S 10 (S 15 (J 29 i)) + J 7 1 < S 10 (S 15 (J 28 i)) + J 6 1 by omega)]
      · rw [hp0J11, hoJ8 7 (by decide), decide_eq_true (show S 10 (S 15 (J 28 i)) + J 6 1 < S 10 (S 15 (J 29 i)) + J 7 1 by omega)]
      · rw [hp1J11, decide_eq_true (show S 10 (S 15 (J 28 i)) + J 6 1 < S 10 (S 15 (J 29 i)) + J 7 1 by omega)]
  ·
    refine r_iconst K (nI 1) dX6_playRound_113 (by decide) ?_
    refine r_goto K 118 dX6_playRound_114 (by decide) ?_
    refine r_iload K dX6_playRound_118 rfl ?_
    refine r_iload K dX6_playRound_120 rfl ?_
    refine r_callVv (rest := []) K (c_X5_endRound_6 l D a c S J true (S 11 (S 15 (J 28 i))) (S 11 (S 15 (J 29 i))) (by omega) (by omega)) 3 gX6_playRound_X5_endRound rfl (by decide +kernel) rfl (by decide) 6 (wC_g6 _ _ _ _) rfl rfl (Nat.le_of_ble_eq_true rfl) dX6_playRound_122 (fun J12 hpJ12 => ?_)
    obtain ⟨hoJ12, hp0J12, hp1J12⟩ := hpJ12
    refine r_aload_n K dX6_playRound_125 rfl ?_
    refine r_get K hin_X6_playRound_6 0 (wC_g0 _ _ _ _) rfl 6 (by decide) (List.mem_of_getElem? (i := 6) rfl) rfl dX6_playRound_126 ?_
    refine r_iload K dX6_playRound_129 rfl ?_
    refine r_iload K dX6_playRound_131 rfl ?_
    refine r_ic_le K 140 dX6_playRound_133 (by decide) (by omega) (by omega) (fun h13 => ?_) (fun h13 => ?_)
    ·
      refine r_iconst K (nI 0) dX6_playRound_140 (by decide) ?_
      refine r_iload K dX6_playRound_141 rfl ?_
      refine r_iload K dX6_playRound_143 rfl ?_
      refine r_callVv (rest := []) K (c_X5_endRound_7 l D a c S J12 false (S 11 (S 15 (J 29 i))) (S 11 (S 15 (J 28 i))) (by omega) (by omega)) 3 gX6_playRound_X5_endRound rfl (by decide +kernel) rfl (by decide) 7 (wC_g7 _ _ _ _) rfl rfl (Nat.le_of_ble_eq_true rfl) dX6_playRound_145 (fun J14 hpJ14 => ?_)
      obtain ⟨hoJ14, hp0J14, hp1J14⟩ := hpJ14
      refine hret 0 0 _ _ _ J14 dX6_playRound_148 ⟨fun g h6 h7 => (hoJ14 g h7).trans (hoJ12 g h6), ?_, ?_, ?_, ?_⟩ rfl (Nat.le_of_ble_eq_true rfl) (Nat.le_of_ble_eq_true rfl)
      · rw [hoJ14 6 (by decide), hp0J12, decide_eq_true (show S 10 (S 15 (J 29 i)) + J 7 1 < S 10 (S 15 (J 28 i)) + J 6 1 by omega)]
      · rw [hoJ14 6 (by decide), hp1J12, decide_eq_true (show S 10 (S 15 (J 29 i)) + J 7 1 < S 10 (S 15 (J 28 i)) + J 6 1 by omega)]
      · rw [hp0J14, hoJ12 7 (by decide), decide_eq_false (show ¬ S 10 (S 15 (J 28 i)) + J 6 1 < S 10 (S 15 (J 29 i)) + J 7 1 by omega)]
      · rw [hp1J14, decide_eq_false (show ¬ S 10 (S 15 (J 28 i)) + J 6 1 < S 10 (S 15 (J 29 i)) + J 7 1 by omega)]
    ·
      exact (show False by omega).elim

def rmX6_giveWins : Room := { frames := 2, cells := 0, slots := 0, locals := 48 }
theorem hin_X6_giveWins_6 : ∀ w ∈ wsX60, w ∈ wsX6_giveWins := fun _ h => List.mem_cons_of_mem _ (List.mem_append_left _ (List.mem_append_left _ (List.mem_append_left _ (List.mem_append_right _ h))))
theorem hin_X6_giveWins_1 : ∀ w ∈ wsX10, w ∈ wsX6_giveWins := fun _ h => List.mem_cons_of_mem _ (List.mem_append_left _ (List.mem_append_left _ (List.mem_append_right _ h)))
theorem hin_X6_giveWins_0 : ∀ w ∈ wsX00, w ∈ wsX6_giveWins := fun _ h => List.mem_cons_of_mem _ (List.mem_append_left _ (List.mem_append_right _ h))
theorem hin_X6_giveWins_4 : ∀ w ∈ wsX40, w ∈ wsX6_giveWins := fun _ h => List.mem_cons_of_mem _ (List.mem_append_right _ h)
set_option maxHeartbeats 4000000 in
set_option maxRecDepth 100000 in
theorem c_X6_giveWins (l : Launch) (D : va_G) (a : Nat → Nat) (c : Nat → ClassId) (S J : St) (hV : V S) (hw14 : ∀ k, S 14 k < 999999) (d : Nat) (hd : d < 12) : Csv l yX6_giveWins wsX6_giveWins rmX6_giveWins D (tyW c) [.ref (a 0), .int (nI d)] (wC a c S J) (wC a c (gwS S d 16) J) := by
  refine Cv.of (lv0 := [(0, .ref (a 0)), (1, .int (nI d))]) (by decide +kernel) rfl (Nat.le_of_ble_eq_true rfl) rfl (fun G K hret => ?_)
  refine r_iconst K (nI 0) dX6_giveWins_0 (by decide) ?_
  refine r_istore_n (lv' := [(0, .ref (a 0)), (1, .int (nI d)), (2, .int (nI 0))]) K dX6_giveWins_1 (by decide) rfl ?_
  have L1 : ∀ (z : Nat) (i : Nat) (Sx : St), 16 < i + z → (i ≤ 16) → (Sx = gwS S d i) → G 0 0 (wC a c Sx J) [(0, .ref (a 0)), (1, .int (nI d)), (2, .int (nI i))] 2 [] := by
    intro z
    induction z with
    | zero => intro i Sx hz hi hS; exact absurd hz (by omega)
    | succ z ih =>
      intro i Sx hz hi hS
      refine r_iload_n K dX6_giveWins_2 rfl ?_
      refine r_bipush K (nI 16) dX6_giveWins_3 (by decide) ?_
      refine r_ic_ge K 43 dX6_giveWins_5 (by decide) (by omega) (by decide) (fun h2 => ?_) (fun h2 => ?_)
      ·
        exact hret 0 0 _ _ _ () dX6_giveWins_43 trivial (by rw [hS, show i = 16 by omega]) (Nat.le_of_ble_eq_true rfl) (Nat.le_of_ble_eq_true rfl)
      ·
        refine r_aload_n K dX6_giveWins_8 rfl ?_
        refine r_get K hin_X6_giveWins_6 0 (wC_g0 _ _ _ _) rfl 2 (by decide) (List.mem_of_getElem? (i := 1) rfl) rfl dX6_giveWins_9 ?_
        refine r_iload_n K dX6_giveWins_12 rfl ?_
        refine r_iload_n K dX6_giveWins_13 rfl ?_
        refine r_aload_n K dX6_giveWins_14 rfl ?_
        refine r_get K hin_X6_giveWins_6 0 (wC_g0 _ _ _ _) rfl 1 (by decide) (List.mem_of_getElem? (i := 2) rfl) rfl dX6_giveWins_15 ?_
        have hVx : V Sx := by rw [hS]; exact gwS_V hV hw14 d i
        have hmo : mo Sx d i = mo S d i := mo_cong (by rw [hS]; exact gwS_ne (by decide) i) (by rw [hS]; exact gwS_ne (by decide) i) (by rw [hS]; exact gwS_ne (by omega) i)
        have hmo10 := mo_le hVx d i
        refine r_callVs (rest := []) K (c_X0_countOf l D a c Sx J hVx d i hd (by omega)) 3 gX6_giveWins_X0_countOf rfl (by decide +kernel) rfl (by decide) 3 (wC_g3 _ _ _ _) rfl rfl (Nat.le_of_ble_eq_true rfl) dX6_giveWins_18 rfl rfl ?_
        refine r_if_le K 37 dX6_giveWins_21 (by decide) (by omega) (fun h3 => ?_) (fun h3 => ?_)
        ·
          refine r_iinc (lv' := [(0, .ref (a 0)), (1, .int (nI d)), (2, .int (nI (i + 1)))]) K dX6_giveWins_37 rfl (nI_1 _) (by decide) rfl ?_
          refine r_goto K 2 dX6_giveWins_40 (by decide) ?_
          exact ih (i + 1) Sx (by omega) (by omega) (by rw [hS]; exact (gwS_n (by omega)).symm)
        ·
          refine r_aload_n K dX6_giveWins_24 rfl ?_
          refine r_get K hin_X6_giveWins_6 0 (wC_g0 _ _ _ _) rfl 0 (by decide) (List.mem_of_getElem? (i := 3) rfl) rfl dX6_giveWins_25 ?_
          refine r_get K hin_X6_giveWins_1 1 (wC_g1 _ _ _ _) rfl 4 (by decide) (List.mem_of_getElem? (i := 4) rfl) rfl dX6_giveWins_28 ?_
          refine r_iload_n K dX6_giveWins_31 rfl ?_
          refine r_dup2 K dX6_giveWins_32 rfl rfl ?_
          refine r_iald K 14 0 (wC_g14 _ _ _ _) rfl (by omega) (by decide) dX6_giveWins_33 ?_
          refine r_iconst K (nI 1) dX6_giveWins_34 (by decide) ?_
          refine r_iadd K dX6_giveWins_35 ?_
          refine r_iast K 14 0 (wC_g14 _ _ _ _) rfl (by omega) (by decide) dX6_giveWins_36 (wC_s14 _ _ _ _ _ _) ?_
          refine r_iinc (lv' := [(0, .ref (a 0)), (1, .int (nI d)), (2, .int (nI (i + 1)))]) K dX6_giveWins_37 rfl (nI_1 _) (by decide) rfl ?_
          refine r_goto K 2 dX6_giveWins_40 (by decide) ?_
          exact ih (i + 1) _ (by omega) (by omega) (by rw [hS, gwS_y (by omega), gwS_hi i (Nat.le_refl _)])
  exact L1 17 0 S (by omega) (by omega) rfl

def rmX6_play : Room := { frames := 7, cells := 7, slots := 42, locals := 111 }
theorem hin_X6_play_6 : ∀ w ∈ wsX60, w ∈ wsX6_play := fun _ h => List.mem_cons_of_mem _ (List.mem_append_left _ (List.mem_append_left _ (List.mem_append_left _ (List.mem_append_left _ (List.mem_append_left _ (List.mem_append_left _ (List.mem_append_left _ (List.mem_append_left _ (List.mem_append_right _ h)))))))))
theorem hin_X6_play_0 : ∀ w ∈ wsX00, w ∈ wsX6_play := fun _ h => List.mem_cons_of_mem _ (List.mem_append_left _ (List.mem_append_left _ (List.mem_append_left _ (List.mem_append_left _ (List.mem_append_left _ (List.mem_append_left _ (List.mem_append_left _ (List.mem_append_right _ h))))))))
theorem hin_X6_play_5 : ∀ w ∈ wsX50, w ∈ wsX6_play := fun _ h => List.mem_cons_of_mem _ (List.mem_append_left _ (List.mem_append_left _ (List.mem_append_left _ (List.mem_append_left _ (List.mem_append_left _ (List.mem_append_left _ (List.mem_append_right _ h)))))))
theorem hin_X6_play_4 : ∀ w ∈ wsX40, w ∈ wsX6_play := fun _ h => List.mem_cons_of_mem _ (List.mem_append_left _ (List.mem_append_left _ (List.mem_append_left _ (List.mem_append_left _ (List.mem_append_left _ (List.mem_append_right _ h))))))
theorem hin_X6_play_1 : ∀ w ∈ wsX10, w ∈ wsX6_play := fun _ h => List.mem_cons_of_mem _ (List.mem_append_left _ (List.mem_append_left _ (List.mem_append_left _ (List.mem_append_left _ (List.mem_append_right _ h)))))
theorem hin_X6_play_3 : ∀ w ∈ wsX30, w ∈ wsX6_play := fun _ h => List.mem_cons_of_mem _ (List.mem_append_left _ (List.mem_append_left _ (List.mem_append_left _ (List.mem_append_right _ h))))
theorem hat_X6_play_IAE : ∀ w ∈ (vx_atS RX6 126 eIAE nmRE).filter goodWord, w ∈ wsX6_play := fun _ h => List.mem_cons_of_mem _ (List.mem_append_left _ (List.mem_append_left _ (List.mem_append_right _ h)))
set_option maxHeartbeats 4000000 in
set_option maxRecDepth 100000 in
theorem c_X6_play (l : Launch) (D : va_G) (a : Nat → Nat) (c : Nat → ClassId) (S J : St) (hl0 : l.stackTraces = false) (hV : V S) (hw14 : ∀ k, S 14 k < 999999) (x : Int32) (y : Int32) (p : Int32) (q : Int32) : Xi l yX6_play wsX6_play rmX6_play D (tyW c) [.ref (a 0), .int x, .int y, .int p, .int q] (wC a c S J) (pxN eIOB eIAE eISE (thr (inB x 0 ((S 3 0 : Nat) - 1) && inB y 0 ((S 3 0 : Nat) - 1)) (sdB p && (sdB q && decide (S 18 (tn x) ≠ S 18 (tn y)))) (alw S (tn x) && alw S (tn y)))) (fun r (J1 : St) => thr (inB x 0 ((S 3 0 : Nat) - 1) && inB y 0 ((S 3 0 : Nat) - 1)) (sdB p && (sdB q && decide (S 18 (tn x) ≠ S 18 (tn y)))) (alw S (tn x) && alw S (tn y)) = 0 ∧ r = nI (gmF S (tn x) (tn y) (tn p) (tn q)).1 - nI (gmF S (tn x) (tn y) (tn p) (tn q)).2.2.1) (fun J1 : St => wC a c (wonS S (tn x) (tn y) (gmF S (tn x) (tn y) (tn p) (tn q)).1 (gmF S (tn x) (tn y) (tn p) (tn q)).2.2.1) J1) := by
  refine Xi.of (lv0 := [(0, .ref (a 0)), (1, .int x), (2, .int y), (3, .int p), (4, .int q)]) hl0 (by decide +kernel) rfl (Nat.le_of_ble_eq_true rfl) rfl (fun G KX hret => ?_)
  have K := KX.ok
  have hdk := V_decks hV
  refine r_aload_n K dX6_play_0 rfl ?_
  refine r_iload_n K dX6_play_1 rfl ?_
  refine r_xcallVv (rest := []) KX (c_X6_needDeck l D a c S J hl0 hV x) (fun E h => px_1 (and_f1 h.1) h.2) 1 gX6_play_X6_needDeck rfl (by decide +kernel) rfl (by decide) (by decide) 0 (wC_g0 _ _ _ _) rfl rfl (Nat.le_of_ble_eq_true rfl) dX6_play_2 (fun _ hc1 => ?_)
  have h_x := hc1
  obtain ⟨xk, hxka, hxkb, rfl, hxkc⟩ := inB_ex (by decide) hc1
  refine r_aload_n K dX6_play_5 rfl ?_
  refine r_iload_n K dX6_play_6 rfl ?_
  refine r_xcallVv (rest := []) KX (c_X6_needDeck l D a c S J hl0 hV y) (fun E h => px_1 (and_f2 h.1) h.2) 1 gX6_play_X6_needDeck rfl (by decide +kernel) rfl (by decide) (by decide) 0 (wC_g0 _ _ _ _) rfl rfl (Nat.le_of_ble_eq_true rfl) dX6_play_7 (fun _ hc2 => ?_)
  have h_y := hc2
  obtain ⟨yk, hyka, hykb, rfl, hykc⟩ := inB_ex (by decide) hc2
  refine r_iload_n K dX6_play_10 rfl ?_
  refine r_xcallSv (rest := []) KX (c_X6_needSeed l D a c S J hl0 p) (fun E h => px_2 (and_t h_x h_y) (and_f1 h.1) h.2) 1 gX6_play_X6_needSeed rfl (by decide +kernel) rfl (by decide) (by decide) rfl (Nat.le_of_ble_eq_true rfl) dX6_play_11 (fun _ hc3 => ?_)
  have h_p := hc3
  obtain ⟨pk, hpkc, rfl⟩ := sdB_ex hc3
  refine r_iload K dX6_play_14 rfl ?_
  refine r_xcallSv (rest := []) KX (c_X6_needSeed l D a c S J hl0 q) (fun E h => px_2 (and_t h_x h_y) (and_f2 (and_f1 h.1)) h.2) 1 gX6_play_X6_needSeed rfl (by decide +kernel) rfl (by decide) (by decide) rfl (Nat.le_of_ble_eq_true rfl) dX6_play_16 (fun _ hc4 => ?_)
  have h_q := hc4
  obtain ⟨qk, hqkc, rfl⟩ := sdB_ex hc4
  refine r_aload_n K dX6_play_19 rfl ?_
  refine r_get K hin_X6_play_6 0 (wC_g0 _ _ _ _) rfl 2 (by decide) (List.mem_of_getElem? (i := 3) rfl) rfl dX6_play_20 ?_
  refine r_get K hin_X6_play_0 3 (wC_g3 _ _ _ _) rfl 0 (by decide) (List.mem_of_getElem? (i := 4) rfl) rfl dX6_play_23 ?_
  refine r_iload_n K dX6_play_26 rfl ?_
  refine r_iald K 18 0 (wC_g18 _ _ _ _) rfl (by omega) (by decide) dX6_play_27 ?_
  have hf5 := V_b hV 18 xk
  refine r_aload_n K dX6_play_28 rfl ?_
  refine r_get K hin_X6_play_6 0 (wC_g0 _ _ _ _) rfl 2 (by decide) (List.mem_of_getElem? (i := 3) rfl) rfl dX6_play_29 ?_
  refine r_get K hin_X6_play_0 3 (wC_g3 _ _ _ _) rfl 0 (by decide) (List.mem_of_getElem? (i := 4) rfl) rfl dX6_play_32 ?_
  refine r_iload_n K dX6_play_35 rfl ?_
  refine r_iald K 18 0 (wC_g18 _ _ _ _) rfl (by omega) (by decide) dX6_play_36 ?_
  have hf6 := V_b hV 18 yk
  refine r_ic_ne K 50 dX6_play_37 (by decide) (by omega) (by omega) (fun h7 => ?_) (fun h7 => ?_)
  ·
    have hown9 := h7
    refine r_aload_n K dX6_play_50 rfl ?_
    refine r_iload_n K dX6_play_51 rfl ?_
    refine r_xcallVv (rest := []) KX (c_X6_needAllowed l D a c S J hl0 hV xk (by omega)) (fun E h => (by rw [tn_nI hxkc, tn_nI hykc]; exact px_3 (and_t h_x h_y) (and_t h_p (and_t h_q (decide_eq_true hown9))) (and_f1 h.1) h.2)) 1 gX6_play_X6_needAllowed rfl (by decide +kernel) rfl (by decide) (by decide) 0 (wC_g0 _ _ _ _) rfl rfl (Nat.le_of_ble_eq_true rfl) dX6_play_52 (fun _ hc8 => ?_)
    have hal_xk := hc8
    refine r_aload_n K dX6_play_55 rfl ?_
    refine r_iload_n K dX6_play_56 rfl ?_
    refine r_xcallVv (rest := []) KX (c_X6_needAllowed l D a c S J hl0 hV yk (by omega)) (fun E h => (by rw [tn_nI hxkc, tn_nI hykc]; exact px_3 (and_t h_x h_y) (and_t h_p (and_t h_q (decide_eq_true hown9))) (and_f2 h.1) h.2)) 1 gX6_play_X6_needAllowed rfl (by decide +kernel) rfl (by decide) (by decide) 0 (wC_g0 _ _ _ _) rfl rfl (Nat.le_of_ble_eq_true rfl) dX6_play_57 (fun _ hc9 => ?_)
    have hal_yk := hc9
    have hsx : S 19 xk = S 3 1 := alw_sz hal_xk
    have hsy : S 19 yk = S 3 1 := alw_sz hal_yk
    have hfs := V_fsize hV
    refine r_aload_n K dX6_play_60 rfl ?_
    refine r_get K hin_X6_play_6 0 (wC_g0 _ _ _ _) rfl 5 (by decide) (List.mem_of_getElem? (i := 5) rfl) rfl dX6_play_61 ?_
    refine r_aload_n K dX6_play_64 rfl ?_
    refine r_get K hin_X6_play_6 0 (wC_g0 _ _ _ _) rfl 2 (by decide) (List.mem_of_getElem? (i := 3) rfl) rfl dX6_play_65 ?_
    refine r_iload_n K dX6_play_68 rfl ?_
    refine r_iload_n K dX6_play_69 rfl ?_
    refine r_callVv (rest := []) K (c_X5_start_6 l D a c S J hV xk pk (by omega) (by omega) hpkc) 3 gX6_play_X5_start rfl (by decide +kernel) rfl (by decide) 6 (wC_g6 _ _ _ _) rfl rfl (Nat.le_of_ble_eq_true rfl) dX6_play_70 (fun J1 hpJ1 => ?_)
    obtain ⟨hoJ1, hrJ1, hz0J1, hz1J1⟩ := hpJ1
    refine r_aload_n K dX6_play_73 rfl ?_
    refine r_get K hin_X6_play_6 0 (wC_g0 _ _ _ _) rfl 6 (by decide) (List.mem_of_getElem? (i := 6) rfl) rfl dX6_play_74 ?_
    refine r_aload_n K dX6_play_77 rfl ?_
    refine r_get K hin_X6_play_6 0 (wC_g0 _ _ _ _) rfl 2 (by decide) (List.mem_of_getElem? (i := 3) rfl) rfl dX6_play_78 ?_
    refine r_iload_n K dX6_play_81 rfl ?_
    refine r_iload K dX6_play_82 rfl ?_
    refine r_callVv (rest := []) K (c_X5_start_7 l D a c S J1 hV yk qk (by omega) (by omega) hqkc) 3 gX6_play_X5_start rfl (by decide +kernel) rfl (by decide) 7 (wC_g7 _ _ _ _) rfl rfl (Nat.le_of_ble_eq_true rfl) dX6_play_84 (fun J2 hpJ2 => ?_)
    obtain ⟨hoJ2, hrJ2, hz0J2, hz1J2⟩ := hpJ2
    refine r_iconst K (nI 0) dX6_play_87 (by decide) ?_
    refine r_istore (lv' := [(0, .ref (a 0)), (1, .int (nI xk)), (2, .int (nI yk)), (3, .int (nI pk)), (4, .int (nI qk)), (5, .int (nI 0))]) K dX6_play_88 (by decide) rfl ?_
    have L10 : ∀ (z : Nat) (i : Nat) (Jx : St), S 3 1 < i + z → (i ≤ S 3 1) → (∀ p, p < S 19 xk → Jx 28 p = shuf S xk pk p) → (∀ p, p < S 19 yk → Jx 29 p = shuf S yk qk p) → (Jx 6 0 = (gm S (shuf S xk pk) (shuf S yk qk) i).1) → (Jx 6 1 = (gm S (shuf S xk pk) (shuf S yk qk) i).2.1) → (Jx 7 0 = (gm S (shuf S xk pk) (shuf S yk qk) i).2.2.1) → (Jx 7 1 = (gm S (shuf S xk pk) (shuf S yk qk) i).2.2.2) → G 6 36 (wC a c S Jx) [(0, .ref (a 0)), (1, .int (nI xk)), (2, .int (nI yk)), (3, .int (nI pk)), (4, .int (nI qk)), (5, .int (nI i))] 90 [] := by
      intro z
      induction z with
      | zero => intro i Jx hz hi hx28 hx29 hg1 hg2 hg3 hg4; exact absurd hz (by omega)
      | succ z ih =>
        intro i Jx hz hi hx28 hx29 hg1 hg2 hg3 hg4
        refine r_iload K dX6_play_90 rfl ?_
        refine r_aload_n K dX6_play_92 rfl ?_
        refine r_get K hin_X6_play_6 0 (wC_g0 _ _ _ _) rfl 2 (by decide) (List.mem_of_getElem? (i := 3) rfl) rfl dX6_play_93 ?_
        refine r_get K hin_X6_play_0 3 (wC_g3 _ _ _ _) rfl 4 (by decide) (List.mem_of_getElem? (i := 7) rfl) rfl dX6_play_96 ?_
        have hf11 := V_b hV 3 1
        refine r_ic_ge K 114 dX6_play_99 (by decide) (by omega) (by omega) (fun h12 => ?_) (fun h12 => ?_)
        ·
          refine r_aload_n K dX6_play_114 rfl ?_
          refine r_get K hin_X6_play_6 0 (wC_g0 _ _ _ _) rfl 5 (by decide) (List.mem_of_getElem? (i := 5) rfl) rfl dX6_play_115 ?_
          refine r_get K hin_X6_play_5 6 (wC_g6 _ _ _ _) rfl 1 (by decide) (List.mem_of_getElem? (i := 8) rfl) rfl dX6_play_118 ?_
          refine r_aload_n K dX6_play_121 rfl ?_
          refine r_get K hin_X6_play_6 0 (wC_g0 _ _ _ _) rfl 6 (by decide) (List.mem_of_getElem? (i := 6) rfl) rfl dX6_play_122 ?_
          refine r_get K hin_X6_play_5 7 (wC_g7 _ _ _ _) rfl 1 (by decide) (List.mem_of_getElem? (i := 8) rfl) rfl dX6_play_125 ?_
          refine r_isubR K dX6_play_128 ?_
          have hin : i = S 3 1 := by omega
          subst hin
          have hgl := gm_le S (shuf S xk pk) (shuf S yk qk) (S 3 1)
          rw [hg1, hg3]
          obtain ⟨A, hA⟩ : ∃ A, A = (gmF S xk yk pk qk).1 := ⟨_, rfl⟩
          obtain ⟨B, hB⟩ : ∃ B, B = (gmF S xk yk pk qk).2.2.1 := ⟨_, rfl⟩
          have hA30 : A < 2 ^ 30 := by rw [hA]; exact Nat.lt_of_le_of_lt hgl.1 (by omega)
          have hB30 : B < 2 ^ 30 := by rw [hB]; exact Nat.lt_of_le_of_lt hgl.2.2.1 (by omega)
          refine r_top (show _ = nI A - nI B from by rw [hA, hB]; rfl) ?_
          refine r_istore (lv' := [(0, .ref (a 0)), (1, .int (nI xk)), (2, .int (nI yk)), (3, .int (nI pk)), (4, .int (nI qk)), (5, .int (nI A - nI B))]) K dX6_play_129 (by decide) rfl ?_
          refine r_iload K dX6_play_131 rfl ?_
          refine r_if_leR K 141 dX6_play_133 (by decide) (fun h13 => ?_) (fun h13 => ?_)
          ·
            refine r_iload K dX6_play_141 rfl ?_
            refine r_if_geR K 151 dX6_play_143 (by decide) (fun h14 => ?_) (fun h14 => ?_)
            ·
              refine r_iload K dX6_play_151 rfl ?_
              exact hret 6 36 _ _ _ _ _ dX6_play_153 ⟨(by rw [tn_nI hxkc, tn_nI hykc]; exact thr_0 (and_t h_x h_y) (and_t h_p (and_t h_q (decide_eq_true hown9))) (and_t hal_xk hal_yk)), by rw [tn_nI hxkc, tn_nI hykc, tn_nI hpkc, tn_nI hqkc, ← hA, ← hB]⟩ (by rw [tn_nI hxkc, tn_nI hykc, tn_nI hpkc, tn_nI hqkc, ← hA, ← hB, show wonS S xk yk A B = _ from (if_neg (by have := (sub_le hA30 hB30).mp h13; omega)).trans (if_neg (by have := (sub_ge hA30 hB30).mp h14; omega))]) (Nat.le_of_ble_eq_true rfl) (Nat.le_of_ble_eq_true rfl)
            ·
              refine r_aload_n K dX6_play_146 rfl ?_
              refine r_iload_n K dX6_play_147 rfl ?_
              refine r_callVsv (rest := []) K (c_X6_giveWins l D a c S Jx hV hw14 yk (by omega)) 1 gX6_play_X6_giveWins rfl (by decide +kernel) rfl (by decide) 0 (wC_g0 _ _ _ _) rfl rfl (Nat.le_of_ble_eq_true rfl) dX6_play_148 rfl rfl ?_
              refine r_iload K dX6_play_151 rfl ?_
              exact hret 6 36 _ _ _ _ _ dX6_play_153 ⟨(by rw [tn_nI hxkc, tn_nI hykc]; exact thr_0 (and_t h_x h_y) (and_t h_p (and_t h_q (decide_eq_true hown9))) (and_t hal_xk hal_yk)), by rw [tn_nI hxkc, tn_nI hykc, tn_nI hpkc, tn_nI hqkc, ← hA, ← hB]⟩ (by rw [tn_nI hxkc, tn_nI hykc, tn_nI hpkc, tn_nI hqkc, ← hA, ← hB, show wonS S xk yk A B = _ from (if_neg (by have := (sub_le hA30 hB30).mp h13; omega)).trans (if_pos (by have : ¬ B ≤ A := fun q => h14 ((sub_ge hA30 hB30).mpr q); omega))]) (Nat.le_of_ble_eq_true rfl) (Nat.le_of_ble_eq_true rfl)
          ·
            refine r_aload_n K dX6_play_136 rfl ?_
            refine r_iload_n K dX6_play_137 rfl ?_
            refine r_callVsv (rest := []) K (c_X6_giveWins l D a c S Jx hV hw14 xk (by omega)) 1 gX6_play_X6_giveWins rfl (by decide +kernel) rfl (by decide) 0 (wC_g0 _ _ _ _) rfl rfl (Nat.le_of_ble_eq_true rfl) dX6_play_138 rfl rfl ?_
            refine r_iload K dX6_play_141 rfl ?_
            refine r_if_geR K 151 dX6_play_143 (by decide) (fun h15 => ?_) (fun h15 => ?_)
            ·
              refine r_iload K dX6_play_151 rfl ?_
              exact hret 6 36 _ _ _ _ _ dX6_play_153 ⟨(by rw [tn_nI hxkc, tn_nI hykc]; exact thr_0 (and_t h_x h_y) (and_t h_p (and_t h_q (decide_eq_true hown9))) (and_t hal_xk hal_yk)), by rw [tn_nI hxkc, tn_nI hykc, tn_nI hpkc, tn_nI hqkc, ← hA, ← hB]⟩ (by rw [tn_nI hxkc, tn_nI hykc, tn_nI hpkc, tn_nI hqkc, ← hA, ← hB, show wonS S xk yk A B = _ from if_pos (by have : ¬ A ≤ B := fun q => h13 ((sub_le hA30 hB30).mpr q); omega)]) (Nat.le_of_ble_eq_true rfl) (Nat.le_of_ble_eq_true rfl)
            ·
              exact absurd ((sub_ge hA30 hB30).mpr (by have : ¬ A ≤ B := fun q => h13 ((sub_le hA30 hB30).mpr q); omega)) h15
        ·
          refine r_aload_n K dX6_play_102 rfl ?_
          refine r_iload K dX6_play_103 rfl ?_
          have hb1 : Jx 28 i < 80 := by rw [hx28 i (by omega)]; exact shuf_lt hV (by omega) _ _
          have hb2 : Jx 29 i < 80 := by rw [hx29 i (by omega)]; exact shuf_lt hV (by omega) _ _
          have hgl := gm_le S (shuf S xk pk) (shuf S yk qk) i
          refine r_callVv (rest := []) K (c_X6_playRound l D a c S Jx hV i (by omega) hb1 hb2 (by rw [hg2]; omega) (by rw [hg4]; omega)) 1 gX6_play_X6_playRound rfl (by decide +kernel) rfl (by decide) 0 (wC_g0 _ _ _ _) rfl rfl (Nat.le_of_ble_eq_true rfl) dX6_play_105 (fun Jy hpy => ?_)
          obtain ⟨hoy, hy1, hy2, hy3, hy4⟩ := hpy
          rw [hx28 i (by omega), hx29 i (by omega), hg1, hg2, hg4] at hy1
          rw [hx28 i (by omega), hx29 i (by omega), hg2, hg4] at hy2
          rw [hx28 i (by omega), hx29 i (by omega), hg2, hg3, hg4] at hy3
          rw [hx28 i (by omega), hx29 i (by omega), hg2, hg4] at hy4
          refine r_iinc (lv' := [(0, .ref (a 0)), (1, .int (nI xk)), (2, .int (nI yk)), (3, .int (nI pk)), (4, .int (nI qk)), (5, .int (nI (i + 1)))]) K dX6_play_108 rfl (nI_1 _) (by decide) rfl ?_
          refine r_goto K 90 dX6_play_111 (by decide) ?_
          exact ih (i + 1) Jy (by omega) (by omega) (fun p hp => (congrFun (hoy 28 (by decide) (by decide)) p).trans (hx28 p hp)) (fun p hp => (congrFun (hoy 29 (by decide) (by decide)) p).trans (hx29 p hp)) hy1 hy2 hy3 hy4
    exact L10 (S 3 1 + 1) 0 J2 (by omega) (by omega) (fun p hp => (congrFun (hoJ2 28 (by decide) (by decide)) p).trans (hrJ1 p hp)) hrJ2 ((congrFun (hoJ2 6 (by decide) (by decide)) 0).trans hz0J1) ((congrFun (hoJ2 6 (by decide) (by decide)) 1).trans hz1J1) hz0J2 hz1J2
  ·
    exact r_throw (cls := eIAE) (text := "both decks have the same owner") KX (by decide +kernel) (List.mem_of_getElem? (i := 1) rfl) (List.mem_of_getElem? (i := 2) rfl) (by decide +kernel) hat_X6_play_IAE hng_IAE hot_IAE dX6_play_40 dX6_play_43 dX6_play_44 dX6_play_46 dX6_play_49 (by decide) (by rw [tn_nI hxkc, tn_nI hykc]; exact px_2 (and_t h_x h_y) (and_f2 (and_f2 (decide_eq_false (fun q => q h7)))) rfl)
