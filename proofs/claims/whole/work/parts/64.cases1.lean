set_option maxHeartbeats 4000000 in
set_option maxRecDepth 100000 in
theorem case_cut (l : Launch) (D : va_G) (a b : Nat → Nat) (c : Nat → ClassId) (o : Nat) (hl0 : l.stackTraces = false) {G : Gt} {sb L : Nat} {xs : Nat → Int32} (KE : OkE l room_1 G cL_law 7 wsL_law RL D (tyW c)) (KS : OkS l room_1 G cL_law 7 wsL_law RL D (tyW c) sb L xs) {m k n i : Nat} (S J : St) (f : Nat → Int64) (J2 : St) (hI : Inv m S) (hm : m ≤ 600) (hi : i + 5 ≤ L) (hL : L ≤ 2560) (hk : k + 10 ≤ 602188) (hn : n + 60 ≤ 7289539) (NX : Next G sb a b o c (m + 1) k n i) : G k n (wL a b o c S J f J2) (lvL sb (a 0) (b 0) o i) 568 [] := by
  have K := KE.ok
  have hV := hI.V hm
  have hO := hI.2.2.1
  unfold wL lvL
  obtain ⟨x, hx_⟩ : ∃ x : Int32, x = xs (i + 1) := ⟨_, rfl⟩
  obtain ⟨y, hy_⟩ : ∃ x : Int32, x = xs (i + 2) := ⟨_, rfl⟩
  refine r_aload_n K dL_law_568 rfl ?_
  refine r_aload_n K dL_law_569 rfl ?_
  refine r_iload K dL_law_570 rfl ?_
  refine r_iconst K (nI 1) dL_law_572 (by decide) ?_
  refine r_iadd K dL_law_573 ?_
  refine r_sld KS (by omega) hL dL_law_574 ?_
  refine r_top hx_.symm ?_
  refine r_aload_n K dL_law_575 rfl ?_
  refine r_iload K dL_law_576 rfl ?_
  refine r_iconst K (nI 2) dL_law_578 (by decide) ?_
  refine r_iadd K dL_law_579 ?_
  refine r_sld KS (by omega) hL dL_law_580 ?_
  refine r_top hy_.symm ?_
  refine r_aload_n K dL_law_581 rfl ?_
  refine r_callW (rest := []) (z := wM b c S J2) KE (c_L_cut l D a c S J o f hl0 hV x y) 4 gL_law_L_cut rfl (by decide +kernel) rfl ⟨⟨Nat.le_of_ble_eq_true rfl, Nat.le_of_ble_eq_true rfl⟩, (by show k + 2 ≤ 602188; omega), (by show n + 12 ≤ 7289539; omega)⟩ rfl (Nat.le_of_ble_eq_true rfl) dL_law_582 ?_
  rintro _ u ⟨rfl, hv⟩
  refine r_istore (lv' := [(0, .ref sb), (1, .ref (a 0)), (2, .ref (b 0)), (3, .ref o), (4, .int (nI i)), (5, .int (nI (thr (inB x 0 ((S 3 0 : Nat) - 1) && inB y 0 ((S 19 (tn x) : Nat) - 1)) (true) (true))))]) K dL_law_585 (by decide) rfl ?_
  refine r_aload_n K dL_law_587 rfl ?_
  refine r_aload_n K dL_law_588 rfl ?_
  refine r_iload K dL_law_589 rfl ?_
  refine r_iconst K (nI 1) dL_law_591 (by decide) ?_
  refine r_iadd K dL_law_592 ?_
  refine r_sld KS (by omega) hL dL_law_593 ?_
  refine r_top hx_.symm ?_
  refine r_aload_n K dL_law_594 rfl ?_
  refine r_iload K dL_law_595 rfl ?_
  refine r_iconst K (nI 2) dL_law_597 (by decide) ?_
  refine r_iadd K dL_law_598 ?_
  refine r_sld KS (by omega) hL dL_law_599 ?_
  refine r_top hy_.symm ?_
  refine r_callVr (rest := []) (z := (wC a c (if thr (inB x 0 ((S 3 0 : Nat) - 1) && inB y 0 ((S 19 (tn x) : Nat) - 1)) (true) (true) = 0 then (shl (up S 19 (tn x) (S 19 (tn x) - 1)) (tn x) (tn y) (S 19 (tn x) - 1 - tn y)) else S) u.1 ++ lo o c u.2)) K (c_X7_cut l D b c S J2 hV x y) 2 gL_law_X7_cut rfl (by decide +kernel) rfl ⟨⟨Nat.le_of_ble_eq_true rfl, Nat.le_of_ble_eq_true rfl⟩, (by show k + 2 + 0 ≤ 602188; omega), (by show n + 12 + 0 ≤ 7289539; omega)⟩ 0 (wM_g0 _ _ _ _) rfl rfl (Nat.le_of_ble_eq_true rfl) dL_law_600 ?_
  rintro r2 J3 ⟨hJ, hv2⟩
  refine r_istore (lv' := [(0, .ref sb), (1, .ref (a 0)), (2, .ref (b 0)), (3, .ref o), (4, .int (nI i)), (5, .int (nI (thr (inB x 0 ((S 3 0 : Nat) - 1) && inB y 0 ((S 19 (tn x) : Nat) - 1)) (true) (true)))), (6, .int r2)]) K dL_law_603 (by decide) rfl ?_
  refine r_aload_n K dL_law_605 rfl ?_
  refine r_callVr (rest := []) (z := (wC a c (if thr (inB x 0 ((S 3 0 : Nat) - 1) && inB y 0 ((S 19 (tn x) : Nat) - 1)) (true) (true) = 0 then (shl (up S 19 (tn x) (S 19 (tn x) - 1)) (tn x) (tn y) (S 19 (tn x) - 1 - tn y)) else S) u.1 ++ lo o c u.2)) (w := wM b c (if thr (inB x 0 ((S 3 0 : Nat) - 1) && inB y 0 ((S 19 (tn x) : Nat) - 1)) (true) (true) = 0 then shl (up S 19 (tn x) (S 19 (tn x) - 1)) (tn x) (tn y) (S 19 (tn x) - 1 - tn y) else S) J3) K (c_X7_thrown l D b c (if thr (inB x 0 ((S 3 0 : Nat) - 1) && inB y 0 ((S 19 (tn x) : Nat) - 1)) (true) (true) = 0 then shl (up S 19 (tn x) (S 19 (tn x) - 1)) (tn x) (tn y) (S 19 (tn x) - 1 - tn y) else S) J3) 0 gL_law_X7_thrown rfl (by decide +kernel) rfl ⟨⟨Nat.le_of_ble_eq_true rfl, Nat.le_of_ble_eq_true rfl⟩, (by show k + 2 + 0 + 0 ≤ 602188; omega), (by show n + 12 + 0 + 0 ≤ 7289539; omega)⟩ 0 (wM_g0 _ _ _ _) rfl rfl (Nat.le_of_ble_eq_true rfl) dL_law_606 ?_
  rintro _ _ rfl
  refine r_top (congrArg nI (hJ)) ?_
  refine r_iload K dL_law_609 rfl ?_
  refine r_ic_eq K 616 dL_law_611 (by decide) (Nat.lt_of_le_of_lt (thr_le3 _ _ _) (by decide)) (Nat.lt_of_le_of_lt (thr_le3 _ _ _) (by decide)) (fun _ => ?_) (fun h => absurd rfl h)
  refine r_iload K dL_law_616 rfl ?_
  refine r_if_ne K 633 dL_law_618 (by decide) (Nat.lt_of_le_of_lt (thr_le3 _ _ _) (by decide)) (fun h0 => ?_) (fun h0 => ?_)
  ·
    refine r_goto K 1592 dL_law_633 (by decide) ?_
    refine r_pick [0, 1, 2, 3, 4] K rfl ?_
    refine r_w (ws' := wL a b o c S u.1 u.2 J3) (by unfold wL; rw [if_neg h0]) ?_
    exact NX _ _ S u.1 u.2 J3 (by show k + 2 + 0 + 0 ≤ k + 10; omega) (by show n + 12 + 0 + 0 ≤ n + 60; omega) (hI.mono (by omega))
  ·
    have h02 := h0
    obtain ⟨hb1, hb2, hb3⟩ := thr_eq0 h0
    refine r_aload_n K dL_law_621 rfl ?_
    refine r_iconst K (nI 0) dL_law_622 (by decide) ?_
    refine r_lald0 K (f := u.2) 42 3 rfl rfl (by decide) dL_law_623 ?_
    refine r_iload K dL_law_624 rfl ?_
    refine r_i2lR K dL_law_626 ?_
    refine r_lcmpR K dL_law_627 ?_
    refine r_top (show lg_cmp (u.2 0) r2.toInt64 = nI 0 from by rw [hv h0, hv2 h02]; exact lcmp_0 _) ?_
    refine r_if_eq K 633 dL_law_628 (by decide) (by decide) (fun _ => ?_) (fun h => absurd rfl h)
    refine r_goto K 1592 dL_law_633 (by decide) ?_
    refine r_pick [0, 1, 2, 3, 4] K rfl ?_
    refine r_w (ws' := wL a b o c (shl (up S 19 (tn x) (S 19 (tn x) - 1)) (tn x) (tn y) (S 19 (tn x) - 1 - tn y)) u.1 u.2 J3) (by unfold wL; rw [if_pos h0]) ?_
    exact NX _ _ (shl (up S 19 (tn x) (S 19 (tn x) - 1)) (tn x) (tn y) (S 19 (tn x) - 1 - tn y)) u.1 u.2 J3 (by show k + 2 + 0 + 0 ≤ k + 10; omega) (by show n + 12 + 0 + 0 ≤ n + 60; omega) ((inv_cut hI (by have := inB_tn (by decide) (Bool.and_eq_true_iff.mp hb1).1; have := V_decks hV; omega)).mono (by omega))

set_option maxHeartbeats 4000000 in
set_option maxRecDepth 100000 in
theorem case_play (l : Launch) (D : va_G) (a b : Nat → Nat) (c : Nat → ClassId) (o : Nat) (hl0 : l.stackTraces = false) {G : Gt} {sb L : Nat} {xs : Nat → Int32} (KE : OkE l room_1 G cL_law 7 wsL_law RL D (tyW c)) (KS : OkS l room_1 G cL_law 7 wsL_law RL D (tyW c) sb L xs) {m k n i : Nat} (S J : St) (f : Nat → Int64) (J2 : St) (hI : Inv m S) (hm : m ≤ 600) (hi : i + 5 ≤ L) (hL : L ≤ 2560) (hk : k + 10 ≤ 602188) (hn : n + 60 ≤ 7289539) (NX : Next G sb a b o c (m + 1) k n i) : G k n (wL a b o c S J f J2) (lvL sb (a 0) (b 0) o i) 636 [] := by
  have K := KE.ok
  have hV := hI.V hm
  have hO := hI.2.2.1
  unfold wL lvL
  obtain ⟨x, hx_⟩ : ∃ x : Int32, x = xs (i + 1) := ⟨_, rfl⟩
  obtain ⟨y, hy_⟩ : ∃ x : Int32, x = xs (i + 2) := ⟨_, rfl⟩
  obtain ⟨p, hp_⟩ : ∃ x : Int32, x = xs (i + 3) := ⟨_, rfl⟩
  obtain ⟨q, hq_⟩ : ∃ x : Int32, x = xs (i + 4) := ⟨_, rfl⟩
  refine r_aload_n K dL_law_636 rfl ?_
  refine r_aload_n K dL_law_637 rfl ?_
  refine r_iload K dL_law_638 rfl ?_
  refine r_iconst K (nI 1) dL_law_640 (by decide) ?_
  refine r_iadd K dL_law_641 ?_
  refine r_sld KS (by omega) hL dL_law_642 ?_
  refine r_top hx_.symm ?_
  refine r_aload_n K dL_law_643 rfl ?_
  refine r_iload K dL_law_644 rfl ?_
  refine r_iconst K (nI 2) dL_law_646 (by decide) ?_
  refine r_iadd K dL_law_647 ?_
  refine r_sld KS (by omega) hL dL_law_648 ?_
  refine r_top hy_.symm ?_
  refine r_aload_n K dL_law_649 rfl ?_
  refine r_iload K dL_law_650 rfl ?_
  refine r_iconst K (nI 3) dL_law_652 (by decide) ?_
  refine r_iadd K dL_law_653 ?_
  refine r_sld KS (by omega) hL dL_law_654 ?_
  refine r_top hp_.symm ?_
  refine r_aload_n K dL_law_655 rfl ?_
  refine r_iload K dL_law_656 rfl ?_
  refine r_iconst K (nI 4) dL_law_658 (by decide) ?_
  refine r_iadd K dL_law_659 ?_
  refine r_sld KS (by omega) hL dL_law_660 ?_
  refine r_top hq_.symm ?_
  refine r_aload_n K dL_law_661 rfl ?_
  refine r_callW (rest := []) (z := wM b c S J2) KE (c_L_play l D a c S J o f hl0 hV (hI.small hm 14) x y p q) 6 gL_law_L_play rfl (by decide +kernel) rfl ⟨⟨Nat.le_of_ble_eq_true rfl, Nat.le_of_ble_eq_true rfl⟩, (by show k + 7 ≤ 602188; omega), (by show n + 42 ≤ 7289539; omega)⟩ rfl (Nat.le_of_ble_eq_true rfl) dL_law_662 ?_
  rintro _ u ⟨rfl, hv⟩
  refine r_istore (lv' := [(0, .ref sb), (1, .ref (a 0)), (2, .ref (b 0)), (3, .ref o), (4, .int (nI i)), (5, .int (nI (thr (inB x 0 ((S 3 0 : Nat) - 1) && inB y 0 ((S 3 0 : Nat) - 1)) (sdB p && (sdB q && decide (S 18 (tn x) ≠ S 18 (tn y)))) (alw S (tn x) && alw S (tn y)))))]) K dL_law_665 (by decide) rfl ?_
  refine r_aload_n K dL_law_667 rfl ?_
  refine r_aload_n K dL_law_668 rfl ?_
  refine r_iload K dL_law_669 rfl ?_
  refine r_iconst K (nI 1) dL_law_671 (by decide) ?_
  refine r_iadd K dL_law_672 ?_
  refine r_sld KS (by omega) hL dL_law_673 ?_
  refine r_top hx_.symm ?_
  refine r_aload_n K dL_law_674 rfl ?_
  refine r_iload K dL_law_675 rfl ?_
  refine r_iconst K (nI 2) dL_law_677 (by decide) ?_
  refine r_iadd K dL_law_678 ?_
  refine r_sld KS (by omega) hL dL_law_679 ?_
  refine r_top hy_.symm ?_
  refine r_aload_n K dL_law_680 rfl ?_
  refine r_iload K dL_law_681 rfl ?_
  refine r_iconst K (nI 3) dL_law_683 (by decide) ?_
  refine r_iadd K dL_law_684 ?_
  refine r_sld KS (by omega) hL dL_law_685 ?_
  refine r_top hp_.symm ?_
  refine r_aload_n K dL_law_686 rfl ?_
  refine r_iload K dL_law_687 rfl ?_
  refine r_iconst K (nI 4) dL_law_689 (by decide) ?_
  refine r_iadd K dL_law_690 ?_
  refine r_sld KS (by omega) hL dL_law_691 ?_
  refine r_top hq_.symm ?_
  refine r_callVr (rest := []) (z := (wC a c (if thr (inB x 0 ((S 3 0 : Nat) - 1) && inB y 0 ((S 3 0 : Nat) - 1)) (sdB p && (sdB q && decide (S 18 (tn x) ≠ S 18 (tn y)))) (alw S (tn x) && alw S (tn y)) = 0 then (wonS S (tn x) (tn y) (gmF S (tn x) (tn y) (tn p) (tn q)).1 (gmF S (tn x) (tn y) (tn p) (tn q)).2.2.1) else S) u.1 ++ lo o c u.2)) K (c_X7_play l D b c S J2 hV (hI.small hm 14) x y p q) 4 gL_law_X7_play rfl (by decide +kernel) rfl ⟨⟨Nat.le_of_ble_eq_true rfl, Nat.le_of_ble_eq_true rfl⟩, (by show k + 7 + 0 ≤ 602188; omega), (by show n + 42 + 0 ≤ 7289539; omega)⟩ 0 (wM_g0 _ _ _ _) rfl rfl (Nat.le_of_ble_eq_true rfl) dL_law_692 ?_
  rintro r2 J3 ⟨hJ, hv2⟩
  refine r_istore (lv' := [(0, .ref sb), (1, .ref (a 0)), (2, .ref (b 0)), (3, .ref o), (4, .int (nI i)), (5, .int (nI (thr (inB x 0 ((S 3 0 : Nat) - 1) && inB y 0 ((S 3 0 : Nat) - 1)) (sdB p && (sdB q && decide (S 18 (tn x) ≠ S 18 (tn y)))) (alw S (tn x) && alw S (tn y))))), (6, .int r2)]) K dL_law_695 (by decide) rfl ?_
  refine r_aload_n K dL_law_697 rfl ?_
  refine r_callVr (rest := []) (z := (wC a c (if thr (inB x 0 ((S 3 0 : Nat) - 1) && inB y 0 ((S 3 0 : Nat) - 1)) (sdB p && (sdB q && decide (S 18 (tn x) ≠ S 18 (tn y)))) (alw S (tn x) && alw S (tn y)) = 0 then (wonS S (tn x) (tn y) (gmF S (tn x) (tn y) (tn p) (tn q)).1 (gmF S (tn x) (tn y) (tn p) (tn q)).2.2.1) else S) u.1 ++ lo o c u.2)) (w := wM b c (if thr (inB x 0 ((S 3 0 : Nat) - 1) && inB y 0 ((S 3 0 : Nat) - 1)) ((inB x 0 ((S 3 0 : Nat) - 1) && inB y 0 ((S 3 0 : Nat) - 1)) && (sdB p && (sdB q && decide (S 18 (tn x) ≠ S 18 (tn y))))) (((inB x 0 ((S 3 0 : Nat) - 1) && inB y 0 ((S 3 0 : Nat) - 1)) && (sdB p && (sdB q && decide (S 18 (tn x) ≠ S 18 (tn y))))) && (alw S (tn x) && alw S (tn y))) = 0 then wonS S (tn x) (tn y) (gmF S (tn x) (tn y) (tn p) (tn q)).1 (gmF S (tn x) (tn y) (tn p) (tn q)).2.2.1 else S) J3) K (c_X7_thrown l D b c (if thr (inB x 0 ((S 3 0 : Nat) - 1) && inB y 0 ((S 3 0 : Nat) - 1)) ((inB x 0 ((S 3 0 : Nat) - 1) && inB y 0 ((S 3 0 : Nat) - 1)) && (sdB p && (sdB q && decide (S 18 (tn x) ≠ S 18 (tn y))))) (((inB x 0 ((S 3 0 : Nat) - 1) && inB y 0 ((S 3 0 : Nat) - 1)) && (sdB p && (sdB q && decide (S 18 (tn x) ≠ S 18 (tn y))))) && (alw S (tn x) && alw S (tn y))) = 0 then wonS S (tn x) (tn y) (gmF S (tn x) (tn y) (tn p) (tn q)).1 (gmF S (tn x) (tn y) (tn p) (tn q)).2.2.1 else S) J3) 0 gL_law_X7_thrown rfl (by decide +kernel) rfl ⟨⟨Nat.le_of_ble_eq_true rfl, Nat.le_of_ble_eq_true rfl⟩, (by show k + 7 + 0 + 0 ≤ 602188; omega), (by show n + 42 + 0 + 0 ≤ 7289539; omega)⟩ 0 (wM_g0 _ _ _ _) rfl rfl (Nat.le_of_ble_eq_true rfl) dL_law_698 ?_
  rintro _ _ rfl
  have hth : thr (inB x 0 ((S 3 0 : Nat) - 1) && inB y 0 ((S 3 0 : Nat) - 1)) ((inB x 0 ((S 3 0 : Nat) - 1) && inB y 0 ((S 3 0 : Nat) - 1)) && (sdB p && (sdB q && decide (S 18 (tn x) ≠ S 18 (tn y))))) (((inB x 0 ((S 3 0 : Nat) - 1) && inB y 0 ((S 3 0 : Nat) - 1)) && (sdB p && (sdB q && decide (S 18 (tn x) ≠ S 18 (tn y))))) && (alw S (tn x) && alw S (tn y))) = thr (inB x 0 ((S 3 0 : Nat) - 1) && inB y 0 ((S 3 0 : Nat) - 1)) (sdB p && (sdB q && decide (S 18 (tn x) ≠ S 18 (tn y)))) (alw S (tn x) && alw S (tn y)) := thr_m4 _ _ _
  refine r_top (congrArg nI (hJ.trans hth)) ?_
  refine r_iload K dL_law_701 rfl ?_
  refine r_ic_eq K 708 dL_law_703 (by decide) (Nat.lt_of_le_of_lt (thr_le3 _ _ _) (by decide)) (Nat.lt_of_le_of_lt (thr_le3 _ _ _) (by decide)) (fun _ => ?_) (fun h => absurd rfl h)
  refine r_iload K dL_law_708 rfl ?_
  refine r_if_ne K 725 dL_law_710 (by decide) (Nat.lt_of_le_of_lt (thr_le3 _ _ _) (by decide)) (fun h0 => ?_) (fun h0 => ?_)
  ·
    refine r_goto K 1592 dL_law_725 (by decide) ?_
    refine r_pick [0, 1, 2, 3, 4] K rfl ?_
    refine r_w (ws' := wL a b o c S u.1 u.2 J3) (by unfold wL; rw [if_neg h0, if_neg (fun q => h0 (hth.symm.trans q))]) ?_
    exact NX _ _ S u.1 u.2 J3 (by show k + 7 + 0 + 0 ≤ k + 10; omega) (by show n + 42 + 0 + 0 ≤ n + 60; omega) (hI.mono (by omega))
  ·
    have h02 := hth.trans h0
    obtain ⟨hb1, hb2, hb3⟩ := thr_eq0 h0
    refine r_aload_n K dL_law_713 rfl ?_
    refine r_iconst K (nI 0) dL_law_714 (by decide) ?_
    refine r_lald0 K (f := u.2) 42 3 rfl rfl (by decide) dL_law_715 ?_
    refine r_iload K dL_law_716 rfl ?_
    refine r_i2lR K dL_law_718 ?_
    refine r_lcmpR K dL_law_719 ?_
    refine r_top (show lg_cmp (u.2 0) r2.toInt64 = nI 0 from by rw [hv h0, hv2 h02]; exact lcmp_0 _) ?_
    refine r_if_eq K 725 dL_law_720 (by decide) (by decide) (fun _ => ?_) (fun h => absurd rfl h)
    refine r_goto K 1592 dL_law_725 (by decide) ?_
    refine r_pick [0, 1, 2, 3, 4] K rfl ?_
    refine r_w (ws' := wL a b o c (wonS S (tn x) (tn y) (gmF S (tn x) (tn y) (tn p) (tn q)).1 (gmF S (tn x) (tn y) (tn p) (tn q)).2.2.1) u.1 u.2 J3) (by unfold wL; rw [if_pos h0, if_pos h02]) ?_
    exact NX _ _ (wonS S (tn x) (tn y) (gmF S (tn x) (tn y) (tn p) (tn q)).1 (gmF S (tn x) (tn y) (tn p) (tn q)).2.2.1) u.1 u.2 J3 (by show k + 7 + 0 + 0 ≤ k + 10; omega) (by show n + 42 + 0 + 0 ≤ n + 60; omega) (inv_won hI _ _ _ _)

set_option maxHeartbeats 4000000 in
set_option maxRecDepth 100000 in
theorem case_offer (l : Launch) (D : va_G) (a b : Nat → Nat) (c : Nat → ClassId) (o : Nat) (hl0 : l.stackTraces = false) {G : Gt} {sb L : Nat} {xs : Nat → Int32} (KE : OkE l room_1 G cL_law 7 wsL_law RL D (tyW c)) (KS : OkS l room_1 G cL_law 7 wsL_law RL D (tyW c) sb L xs) {m k n i : Nat} (S J : St) (f : Nat → Int64) (J2 : St) (hI : Inv m S) (hm : m ≤ 600) (hi : i + 5 ≤ L) (hL : L ≤ 2560) (hk : k + 10 ≤ 602188) (hn : n + 60 ≤ 7289539) (NX : Next G sb a b o c (m + 1) k n i) : G k n (wL a b o c S J f J2) (lvL sb (a 0) (b 0) o i) 728 [] := by
  have K := KE.ok
  have hV := hI.V hm
  have hO := hI.2.2.1
  unfold wL lvL
  obtain ⟨x, hx_⟩ : ∃ x : Int32, x = xs (i + 1) := ⟨_, rfl⟩
  obtain ⟨y, hy_⟩ : ∃ x : Int32, x = xs (i + 2) := ⟨_, rfl⟩
  refine r_aload_n K dL_law_728 rfl ?_
  refine r_aload_n K dL_law_729 rfl ?_
  refine r_iload K dL_law_730 rfl ?_
  refine r_iconst K (nI 1) dL_law_732 (by decide) ?_
  refine r_iadd K dL_law_733 ?_
  refine r_sld KS (by omega) hL dL_law_734 ?_
  refine r_top hx_.symm ?_
  refine r_aload_n K dL_law_735 rfl ?_
  refine r_iload K dL_law_736 rfl ?_
  refine r_iconst K (nI 2) dL_law_738 (by decide) ?_
  refine r_iadd K dL_law_739 ?_
  refine r_sld KS (by omega) hL dL_law_740 ?_
  refine r_top hy_.symm ?_
  refine r_aload_n K dL_law_741 rfl ?_
  refine r_callW (rest := []) (z := wM b c S J2) KE (c_L_offer l D a c S J o f hl0 hV x y) 4 gL_law_L_offer rfl (by decide +kernel) rfl ⟨⟨Nat.le_of_ble_eq_true rfl, Nat.le_of_ble_eq_true rfl⟩, (by show k + 3 ≤ 602188; omega), (by show n + 18 ≤ 7289539; omega)⟩ rfl (Nat.le_of_ble_eq_true rfl) dL_law_742 ?_
  rintro _ u ⟨rfl, hv⟩
  refine r_istore (lv' := [(0, .ref sb), (1, .ref (a 0)), (2, .ref (b 0)), (3, .ref o), (4, .int (nI i)), (5, .int (nI (thr (inB x 0 ((S 2 0 : Nat) - 1) && inB y 0 15) (decide (S 15 (tn x) ≠ tn y)) (!liveB S (tn x) && decide (S 4 0 < 40)))))]) K dL_law_745 (by decide) rfl ?_
  refine r_aload_n K dL_law_747 rfl ?_
  refine r_aload_n K dL_law_748 rfl ?_
  refine r_iload K dL_law_749 rfl ?_
  refine r_iconst K (nI 1) dL_law_751 (by decide) ?_
  refine r_iadd K dL_law_752 ?_
  refine r_sld KS (by omega) hL dL_law_753 ?_
  refine r_top hx_.symm ?_
  refine r_aload_n K dL_law_754 rfl ?_
  refine r_iload K dL_law_755 rfl ?_
  refine r_iconst K (nI 2) dL_law_757 (by decide) ?_
  refine r_iadd K dL_law_758 ?_
  refine r_sld KS (by omega) hL dL_law_759 ?_
  refine r_top hy_.symm ?_
  refine r_callVr (rest := []) (z := (wC a c (if thr (inB x 0 ((S 2 0 : Nat) - 1) && inB y 0 15) (decide (S 15 (tn x) ≠ tn y)) (!liveB S (tn x) && decide (S 4 0 < 40)) = 0 then (up (up (up (up (up (up S 21 (S 4 0) (tn x)) 22 (S 4 0) (S 15 (tn x))) 23 (S 4 0) (tn y)) 24 (S 4 0) (S 17 (tn x))) 25 (S 4 0) 1) 4 0 (S 4 0 + 1)) else S) u.1 ++ lo o c u.2)) K (c_X7_offer l D b c S J2 hV x y) 2 gL_law_X7_offer rfl (by decide +kernel) rfl ⟨⟨Nat.le_of_ble_eq_true rfl, Nat.le_of_ble_eq_true rfl⟩, (by show k + 3 + 0 ≤ 602188; omega), (by show n + 18 + 0 ≤ 7289539; omega)⟩ 0 (wM_g0 _ _ _ _) rfl rfl (Nat.le_of_ble_eq_true rfl) dL_law_760 ?_
  rintro r2 J3 ⟨hJ, hv2⟩
  refine r_istore (lv' := [(0, .ref sb), (1, .ref (a 0)), (2, .ref (b 0)), (3, .ref o), (4, .int (nI i)), (5, .int (nI (thr (inB x 0 ((S 2 0 : Nat) - 1) && inB y 0 15) (decide (S 15 (tn x) ≠ tn y)) (!liveB S (tn x) && decide (S 4 0 < 40))))), (6, .int r2)]) K dL_law_763 (by decide) rfl ?_
  refine r_aload_n K dL_law_765 rfl ?_
  refine r_callVr (rest := []) (z := (wC a c (if thr (inB x 0 ((S 2 0 : Nat) - 1) && inB y 0 15) (decide (S 15 (tn x) ≠ tn y)) (!liveB S (tn x) && decide (S 4 0 < 40)) = 0 then (up (up (up (up (up (up S 21 (S 4 0) (tn x)) 22 (S 4 0) (S 15 (tn x))) 23 (S 4 0) (tn y)) 24 (S 4 0) (S 17 (tn x))) 25 (S 4 0) 1) 4 0 (S 4 0 + 1)) else S) u.1 ++ lo o c u.2)) (w := wM b c (if thr (inB x 0 ((S 2 0 : Nat) - 1) && inB y 0 15) ((inB x 0 ((S 2 0 : Nat) - 1) && inB y 0 15) && decide (S 15 (tn x) ≠ tn y)) (frB S x) = 0 then up (up (up (up S 21 (S 4 0) (tn x)) 24 (S 4 0) (S 17 (tn x))) 23 (S 4 0) (tn y)) 4 0 (S 4 0 + 1) else S) J3) K (c_X7_thrown l D b c (if thr (inB x 0 ((S 2 0 : Nat) - 1) && inB y 0 15) ((inB x 0 ((S 2 0 : Nat) - 1) && inB y 0 15) && decide (S 15 (tn x) ≠ tn y)) (frB S x) = 0 then up (up (up (up S 21 (S 4 0) (tn x)) 24 (S 4 0) (S 17 (tn x))) 23 (S 4 0) (tn y)) 4 0 (S 4 0 + 1) else S) J3) 0 gL_law_X7_thrown rfl (by decide +kernel) rfl ⟨⟨Nat.le_of_ble_eq_true rfl, Nat.le_of_ble_eq_true rfl⟩, (by show k + 3 + 0 + 0 ≤ 602188; omega), (by show n + 18 + 0 + 0 ≤ 7289539; omega)⟩ 0 (wM_g0 _ _ _ _) rfl rfl (Nat.le_of_ble_eq_true rfl) dL_law_766 ?_
  rintro _ _ rfl
  have hth : thr (inB x 0 ((S 2 0 : Nat) - 1) && inB y 0 15) ((inB x 0 ((S 2 0 : Nat) - 1) && inB y 0 15) && decide (S 15 (tn x) ≠ tn y)) (frB S x) = thr (inB x 0 ((S 2 0 : Nat) - 1) && inB y 0 15) (decide (S 15 (tn x) ≠ tn y)) (!liveB S (tn x) && decide (S 4 0 < 40)) := thr_m5 (fun h => by have e := inB_self (by decide) (Bool.and_eq_true_iff.mp h).1; have h8 := inB_tn (by decide) (Bool.and_eq_true_iff.mp h).1; have h9 := V_cards hV; exact (congrArg (frB S) e).trans (fr_live hO (fun o => V_b hV 21 o) (by omega)))
  refine r_top (congrArg nI (hJ.trans hth)) ?_
  refine r_iload K dL_law_769 rfl ?_
  refine r_ic_eq K 776 dL_law_771 (by decide) (Nat.lt_of_le_of_lt (thr_le3 _ _ _) (by decide)) (Nat.lt_of_le_of_lt (thr_le3 _ _ _) (by decide)) (fun _ => ?_) (fun h => absurd rfl h)
  refine r_iload K dL_law_776 rfl ?_
  refine r_if_ne K 793 dL_law_778 (by decide) (Nat.lt_of_le_of_lt (thr_le3 _ _ _) (by decide)) (fun h0 => ?_) (fun h0 => ?_)
  ·
    refine r_goto K 1592 dL_law_793 (by decide) ?_
    refine r_pick [0, 1, 2, 3, 4] K rfl ?_
    refine r_w (ws' := wL a b o c S u.1 u.2 J3) (by unfold wL; rw [if_neg h0, if_neg (fun q => h0 (hth.symm.trans q))]) ?_
    exact NX _ _ S u.1 u.2 J3 (by show k + 3 + 0 + 0 ≤ k + 10; omega) (by show n + 18 + 0 + 0 ≤ n + 60; omega) (hI.mono (by omega))
  ·
    have h02 := hth.trans h0
    obtain ⟨hb1, hb2, hb3⟩ := thr_eq0 h0
    refine r_aload_n K dL_law_781 rfl ?_
    refine r_iconst K (nI 0) dL_law_782 (by decide) ?_
    refine r_lald0 K (f := u.2) 42 3 rfl rfl (by decide) dL_law_783 ?_
    refine r_iload K dL_law_784 rfl ?_
    refine r_i2lR K dL_law_786 ?_
    refine r_lcmpR K dL_law_787 ?_
    refine r_top (show lg_cmp (u.2 0) r2.toInt64 = nI 0 from by rw [hv h0, hv2 h02]; exact lcmp_0 _) ?_
    refine r_if_eq K 793 dL_law_788 (by decide) (by decide) (fun _ => ?_) (fun h => absurd rfl h)
    refine r_goto K 1592 dL_law_793 (by decide) ?_
    refine r_pick [0, 1, 2, 3, 4] K rfl ?_
    refine r_w (ws' := wL a b o c (offS S (tn x) (tn y)) u.1 u.2 J3) (by unfold wL; rw [if_pos h0, if_pos h02, (wM_cong offS_M)]; rfl) ?_
    exact NX _ _ (offS S (tn x) (tn y)) u.1 u.2 J3 (by show k + 3 + 0 + 0 ≤ k + 10; omega) (by show n + 18 + 0 + 0 ≤ n + 60; omega) ((inv_offer hI (by have := inB_tn (by decide) (Bool.and_eq_true_iff.mp hb1).1; omega) (by have := inB_tn (by decide) (Bool.and_eq_true_iff.mp hb1).2; omega) (by have h9 := (Bool.and_eq_true_iff.mp hb3).1; simpa using h9) (of_decide_eq_true (Bool.and_eq_true_iff.mp hb3).2)).mono (by omega))

set_option maxHeartbeats 4000000 in
set_option maxRecDepth 100000 in
theorem case_takeBack (l : Launch) (D : va_G) (a b : Nat → Nat) (c : Nat → ClassId) (o : Nat) (hl0 : l.stackTraces = false) {G : Gt} {sb L : Nat} {xs : Nat → Int32} (KE : OkE l room_1 G cL_law 7 wsL_law RL D (tyW c)) (KS : OkS l room_1 G cL_law 7 wsL_law RL D (tyW c) sb L xs) {m k n i : Nat} (S J : St) (f : Nat → Int64) (J2 : St) (hI : Inv m S) (hm : m ≤ 600) (hi : i + 5 ≤ L) (hL : L ≤ 2560) (hk : k + 10 ≤ 602188) (hn : n + 60 ≤ 7289539) (NX : Next G sb a b o c (m + 1) k n i) : G k n (wL a b o c S J f J2) (lvL sb (a 0) (b 0) o i) 796 [] := by
  have K := KE.ok
  have hV := hI.V hm
  have hO := hI.2.2.1
  unfold wL lvL
  obtain ⟨x, hx_⟩ : ∃ x : Int32, x = xs (i + 1) := ⟨_, rfl⟩
  refine r_aload_n K dL_law_796 rfl ?_
  refine r_aload_n K dL_law_797 rfl ?_
  refine r_iload K dL_law_798 rfl ?_
  refine r_iconst K (nI 1) dL_law_800 (by decide) ?_
  refine r_iadd K dL_law_801 ?_
  refine r_sld KS (by omega) hL dL_law_802 ?_
  refine r_top hx_.symm ?_
  refine r_aload_n K dL_law_803 rfl ?_
  refine r_callW (rest := []) (z := wM b c S J2) KE (c_L_takeBack l D a c S J o f hl0 hV x) 3 gL_law_L_takeBack rfl (by decide +kernel) rfl ⟨⟨Nat.le_of_ble_eq_true rfl, Nat.le_of_ble_eq_true rfl⟩, (by show k + 2 ≤ 602188; omega), (by show n + 12 ≤ 7289539; omega)⟩ rfl (Nat.le_of_ble_eq_true rfl) dL_law_804 ?_
  rintro _ u ⟨rfl, hv⟩
  refine r_istore (lv' := [(0, .ref sb), (1, .ref (a 0)), (2, .ref (b 0)), (3, .ref o), (4, .int (nI i)), (5, .int (nI (thr (inB x 0 ((S 4 0 : Nat) - 1)) (decide (S 25 (tn x) ≠ 0)) (true))))]) K dL_law_807 (by decide) rfl ?_
  refine r_aload_n K dL_law_809 rfl ?_
  refine r_aload_n K dL_law_810 rfl ?_
  refine r_iload K dL_law_811 rfl ?_
  refine r_iconst K (nI 1) dL_law_813 (by decide) ?_
  refine r_iadd K dL_law_814 ?_
  refine r_sld KS (by omega) hL dL_law_815 ?_
  refine r_top hx_.symm ?_
  refine r_callVr (rest := []) (z := (wC a c (if thr (inB x 0 ((S 4 0 : Nat) - 1)) (decide (S 25 (tn x) ≠ 0)) (true) = 0 then (up S 25 (tn x) 0) else S) u.1 ++ lo o c u.2)) K (c_X7_takeBack l D b c S J2 hV x) 1 gL_law_X7_takeBack rfl (by decide +kernel) rfl ⟨⟨Nat.le_of_ble_eq_true rfl, Nat.le_of_ble_eq_true rfl⟩, (by show k + 2 + 0 ≤ 602188; omega), (by show n + 12 + 0 ≤ 7289539; omega)⟩ 0 (wM_g0 _ _ _ _) rfl rfl (Nat.le_of_ble_eq_true rfl) dL_law_816 ?_
  rintro r2 J3 ⟨hJ, hv2⟩
  refine r_istore (lv' := [(0, .ref sb), (1, .ref (a 0)), (2, .ref (b 0)), (3, .ref o), (4, .int (nI i)), (5, .int (nI (thr (inB x 0 ((S 4 0 : Nat) - 1)) (decide (S 25 (tn x) ≠ 0)) (true)))), (6, .int r2)]) K dL_law_819 (by decide) rfl ?_
  refine r_aload_n K dL_law_821 rfl ?_
  refine r_callVr (rest := []) (z := (wC a c (if thr (inB x 0 ((S 4 0 : Nat) - 1)) (decide (S 25 (tn x) ≠ 0)) (true) = 0 then (up S 25 (tn x) 0) else S) u.1 ++ lo o c u.2)) (w := wM b c (if thr (inB x 0 ((S 4 0 : Nat) - 1)) (inB x 0 ((S 4 0 : Nat) - 1) && opB S (tn x)) (true) = 0 then up S 27 (tn x) 1 else S) J3) K (c_X7_thrown l D b c (if thr (inB x 0 ((S 4 0 : Nat) - 1)) (inB x 0 ((S 4 0 : Nat) - 1) && opB S (tn x)) (true) = 0 then up S 27 (tn x) 1 else S) J3) 0 gL_law_X7_thrown rfl (by decide +kernel) rfl ⟨⟨Nat.le_of_ble_eq_true rfl, Nat.le_of_ble_eq_true rfl⟩, (by show k + 2 + 0 + 0 ≤ 602188; omega), (by show n + 12 + 0 + 0 ≤ 7289539; omega)⟩ 0 (wM_g0 _ _ _ _) rfl rfl (Nat.le_of_ble_eq_true rfl) dL_law_822 ?_
  rintro _ _ rfl
  have hth : thr (inB x 0 ((S 4 0 : Nat) - 1)) (inB x 0 ((S 4 0 : Nat) - 1) && opB S (tn x)) (true) = thr (inB x 0 ((S 4 0 : Nat) - 1)) (decide (S 25 (tn x) ≠ 0)) (true) := thr_m3 (fun h => hO.op (by have := inB_tn (by decide) h; omega))
  refine r_top (congrArg nI (hJ.trans hth)) ?_
  refine r_iload K dL_law_825 rfl ?_
  refine r_ic_eq K 832 dL_law_827 (by decide) (Nat.lt_of_le_of_lt (thr_le3 _ _ _) (by decide)) (Nat.lt_of_le_of_lt (thr_le3 _ _ _) (by decide)) (fun _ => ?_) (fun h => absurd rfl h)
  refine r_iload K dL_law_832 rfl ?_
  refine r_if_ne K 849 dL_law_834 (by decide) (Nat.lt_of_le_of_lt (thr_le3 _ _ _) (by decide)) (fun h0 => ?_) (fun h0 => ?_)
  ·
    refine r_goto K 1592 dL_law_849 (by decide) ?_
    refine r_pick [0, 1, 2, 3, 4] K rfl ?_
    refine r_w (ws' := wL a b o c S u.1 u.2 J3) (by unfold wL; rw [if_neg h0, if_neg (fun q => h0 (hth.symm.trans q))]) ?_
    exact NX _ _ S u.1 u.2 J3 (by show k + 2 + 0 + 0 ≤ k + 10; omega) (by show n + 12 + 0 + 0 ≤ n + 60; omega) (hI.mono (by omega))
  ·
    have h02 := hth.trans h0
    obtain ⟨hb1, hb2, hb3⟩ := thr_eq0 h0
    refine r_aload_n K dL_law_837 rfl ?_
    refine r_iconst K (nI 0) dL_law_838 (by decide) ?_
    refine r_lald0 K (f := u.2) 42 3 rfl rfl (by decide) dL_law_839 ?_
    refine r_iload K dL_law_840 rfl ?_
    refine r_i2lR K dL_law_842 ?_
    refine r_lcmpR K dL_law_843 ?_
    refine r_top (show lg_cmp (u.2 0) r2.toInt64 = nI 0 from by rw [hv h0, hv2 h02]; exact lcmp_0 _) ?_
    refine r_if_eq K 849 dL_law_844 (by decide) (by decide) (fun _ => ?_) (fun h => absurd rfl h)
    refine r_goto K 1592 dL_law_849 (by decide) ?_
    refine r_pick [0, 1, 2, 3, 4] K rfl ?_
    refine r_w (ws' := wL a b o c (tbS S (tn x)) u.1 u.2 J3) (by unfold wL; rw [if_pos h0, if_pos h02, (wC_cong tbS_C), (wM_cong tbS_M)]) ?_
    exact NX _ _ (tbS S (tn x)) u.1 u.2 J3 (by show k + 2 + 0 + 0 ≤ k + 10; omega) (by show n + 12 + 0 + 0 ≤ n + 60; omega) ((inv_takeBack hI (by have := inB_tn (by decide) hb1; omega)).mono (by omega))

set_option maxHeartbeats 4000000 in
set_option maxRecDepth 100000 in
theorem case_trade (l : Launch) (D : va_G) (a b : Nat → Nat) (c : Nat → ClassId) (o : Nat) (hl0 : l.stackTraces = false) {G : Gt} {sb L : Nat} {xs : Nat → Int32} (KE : OkE l room_1 G cL_law 7 wsL_law RL D (tyW c)) (KS : OkS l room_1 G cL_law 7 wsL_law RL D (tyW c) sb L xs) {m k n i : Nat} (S J : St) (f : Nat → Int64) (J2 : St) (hI : Inv m S) (hm : m ≤ 600) (hi : i + 5 ≤ L) (hL : L ≤ 2560) (hk : k + 10 ≤ 602188) (hn : n + 60 ≤ 7289539) (NX : Next G sb a b o c (m + 1) k n i) : G k n (wL a b o c S J f J2) (lvL sb (a 0) (b 0) o i) 852 [] := by
  have K := KE.ok
  have hV := hI.V hm
  have hO := hI.2.2.1
  unfold wL lvL
  refine r_w (ws' := wC a c S J ++ (lo o c f ++ wM b c S J2)) (List.append_assoc _ _ _) ?_
  refine r_aload_n K dL_law_852 rfl ?_
  refine r_callVl (rest := []) (z := lo o c f ++ wM b c S J2) K (c_X6_trade l D a c S J hV) 0 gL_law_X6_trade rfl (by decide +kernel) rfl ⟨⟨Nat.le_of_ble_eq_true rfl, Nat.le_of_ble_eq_true rfl⟩, (by show k + 0 ≤ 602188; omega), (by show n + 0 ≤ 7289539; omega)⟩ 0 (wC_g0 _ _ _ _) rfl rfl (Nat.le_of_ble_eq_true rfl) dL_law_853 ?_
  rintro _ J3 rfl
  refine r_w (ws' := (wC a c (trC S (lstO (frl S)) (lenO (frl S))) J3 ++ lo o c f) ++ wM b c S J2) (List.append_assoc _ _ _).symm ?_
  refine r_aload_n K dL_law_856 rfl ?_
  refine r_callVr (rest := [.int (nI (lenO (frl S)))]) (z := wC a c (trC S (lstO (frl S)) (lenO (frl S))) J3 ++ lo o c f) K (c_X7_trade l D b c S J2 hV hO.Lk) 0 gL_law_X7_trade rfl (by decide +kernel) rfl ⟨⟨Nat.le_of_ble_eq_true rfl, Nat.le_of_ble_eq_true rfl⟩, (by show k + 0 + 0 ≤ 602188; omega), (by show n + 0 + 0 ≤ 7289539; omega)⟩ 0 (wM_g0 _ _ _ _) rfl rfl (Nat.le_of_ble_eq_true rfl) dL_law_857 ?_
  rintro _ J4 rfl
  refine r_ic_eqR K 1592 dL_law_860 (by decide) (fun _ => ?_) (fun h => absurd rfl h)
  refine r_w (ws' := wL a b o c (trX S (lstO (frl S)) (lenO (frl S))) J3 f J4) (by unfold wL; rw [wC_cong (trX_C _), wM_cong (trX_M _)]) ?_
  exact NX _ _ (trX S (lstO (frl S)) (lenO (frl S))) J3 f J4 (by show k + 0 + 0 ≤ k + 10; omega) (by show n + 0 + 0 ≤ n + 60; omega) ((inv_trade hI).mono (by omega))

set_option maxHeartbeats 4000000 in
set_option maxRecDepth 100000 in
theorem case_cards (l : Launch) (D : va_G) (a b : Nat → Nat) (c : Nat → ClassId) (o : Nat) (hl0 : l.stackTraces = false) {G : Gt} {sb L : Nat} {xs : Nat → Int32} (KE : OkE l room_1 G cL_law 7 wsL_law RL D (tyW c)) (KS : OkS l room_1 G cL_law 7 wsL_law RL D (tyW c) sb L xs) {m k n i : Nat} (S J : St) (f : Nat → Int64) (J2 : St) (hI : Inv m S) (hm : m ≤ 600) (hi : i + 5 ≤ L) (hL : L ≤ 2560) (hk : k + 10 ≤ 602188) (hn : n + 60 ≤ 7289539) (NX : Next G sb a b o c (m + 1) k n i) : G k n (wL a b o c S J f J2) (lvL sb (a 0) (b 0) o i) 865 [] := by
  have K := KE.ok
  have hV := hI.V hm
  have hO := hI.2.2.1
  unfold wL lvL
  refine r_w (ws' := wC a c S J ++ (lo o c f ++ wM b c S J2)) (List.append_assoc _ _ _) ?_
  refine r_aload_n K dL_law_865 rfl ?_
  refine r_callVl (rest := []) (z := lo o c f ++ wM b c S J2) K (c_X6_cards l D a c S J hV) 0 gL_law_X6_cards rfl (by decide +kernel) rfl ⟨⟨Nat.le_of_ble_eq_true rfl, Nat.le_of_ble_eq_true rfl⟩, (by show k + 0 ≤ 602188; omega), (by show n + 0 ≤ 7289539; omega)⟩ 0 (wC_g0 _ _ _ _) rfl rfl (Nat.le_of_ble_eq_true rfl) dL_law_866 ?_
  rintro _ _ rfl
  refine r_w (ws' := (wC a c S J ++ lo o c f) ++ wM b c S J2) (List.append_assoc _ _ _).symm ?_
  refine r_aload_n K dL_law_869 rfl ?_
  refine r_callVr (rest := [.int (nI (S 2 0))]) (z := wC a c S J ++ lo o c f) K (c_X7_cards l D b c S J2 hV) 0 gL_law_X7_cards rfl (by decide +kernel) rfl ⟨⟨Nat.le_of_ble_eq_true rfl, Nat.le_of_ble_eq_true rfl⟩, (by show k + 0 + 0 ≤ 602188; omega), (by show n + 0 + 0 ≤ 7289539; omega)⟩ 0 (wM_g0 _ _ _ _) rfl rfl (Nat.le_of_ble_eq_true rfl) dL_law_870 ?_
  rintro _ _ rfl
  refine r_ic_eqR K 1592 dL_law_873 (by decide) (fun _ => ?_) (fun h => absurd rfl h)
  exact NX _ _ S J f (up J2 0 0 0) (by show k + 0 + 0 ≤ k + 10; omega) (by show n + 0 + 0 ≤ n + 60; omega) (hI.mono (by omega))
