/-! The law's loop, and the law from its entry. -/
section WHOLE
set_option maxHeartbeats 4000000 in
set_option maxRecDepth 100000 in
theorem law_loop (l : Launch) (D : va_G) (a b : Nat → Nat) (c : Nat → ClassId) (o : Nat) (hl0 : l.stackTraces = false) {G : Gt} {sb L : Nat} {xs : Nat → Int32} (KE : OkE l room_1 G cL_law 7 wsL_law RL D (tyW c)) (KS : OkS l room_1 G cL_law 7 wsL_law RL D (tyW c) sb L xs) (hL : L ≤ 2560) (hend : ∀ (k n : Nat) (ws : va_W) (lv : List (Nat × Value)), k ≤ 602188 → n ≤ 7289539 → G k n ws lv 1599 [.int (nI 1)]) :
    ∀ (z i m k n : Nat) (S J : St) (f : Nat → Int64) (J2 : St), L < i + z → i = 5 * m → i ≤ L → Inv m S → k ≤ 200 + 10 * m → n ≤ 3000 + 60 * m → G k n (wL a b o c S J f J2) (lvL sb (a 0) (b 0) o i) 23 [] := by
  have K := KE.ok
  intro z
  induction z with
  | zero => intro i m k n S J f J2 hz hm hi hI hk hn; exact absurd hz (by omega)
  | succ z ih =>
    intro i m k n S J f J2 hz hm hi hI hk hn
    refine r_lv (lv' := [(0, .ref sb), (1, .ref (a 0)), (2, .ref (b 0)), (3, .ref o), (4, .int (nI i))]) rfl ?_
    refine r_iload K dL_law_23 rfl ?_
    refine r_aload_n K dL_law_25 rfl ?_
    refine r_slen KS dL_law_26 ?_
    refine r_iconst K (nI 5) dL_law_27 (by decide) ?_
    refine r_isubR K dL_law_28 ?_
    refine r_ic_gtR K 1598 dL_law_29 (by decide) (fun _ => ?_) (fun hg => ?_)
    · refine r_iconst K (nI 1) dL_law_1598 (by decide) ?_
      exact hend _ _ _ _ (by omega) (by omega)
    · have h5 : i + 5 ≤ L := by
        have : ¬ L < i + 5 := fun q => hg ((loop_gt (by omega) (by omega)).mpr q)
        omega
      have hm6 : m ≤ 600 := by omega
      have NX : Next G sb a b o c (m + 1) k n i := by
        intro k' n' S' J' f' J2' hk' hn' hI'
        refine r_lv (lv' := [(0, .ref sb), (1, .ref (a 0)), (2, .ref (b 0)), (3, .ref o), (4, .int (nI i))]) rfl ?_
        refine r_iinc (lv' := [(0, .ref sb), (1, .ref (a 0)), (2, .ref (b 0)), (3, .ref o), (4, .int (nI (i + 5)))]) K dL_law_1592 rfl (nI_add _ _) (by decide) rfl ?_
        refine r_goto K 23 dL_law_1595 (by decide) ?_
        exact ih (i + 5) (m + 1) k' n' S' J' f' J2' (by omega) (by omega) (by omega) hI' (by omega) (by omega)
      refine r_aload_n K dL_law_32 rfl ?_
      refine r_iload K dL_law_33 rfl ?_
      refine r_sld KS (by omega) hL dL_law_35 ?_
      refine r_bipush K (nI 31) dL_law_36 (by decide) ?_
      refine r_iandR K dL_law_38 ?_
      obtain ⟨t, ht, he⟩ := and31 (xs i)
      refine r_top he ?_
      by_cases h23 : t < 23
      · rcases (show t = 0 ∨ t = 1 ∨ t = 2 ∨ t = 3 ∨ t = 4 ∨ t = 5 ∨ t = 6 ∨ t = 7 ∨ t = 8 ∨ t = 9 ∨ t = 10 ∨ t = 11 ∨ t = 12 ∨ t = 13 ∨ t = 14 ∨ t = 15 ∨ t = 16 ∨ t = 17 ∨ t = 18 ∨ t = 19 ∨ t = 20 ∨ t = 21 ∨ t = 22 by omega) with rfl | rfl | rfl | rfl | rfl | rfl | rfl | rfl | rfl | rfl | rfl | rfl | rfl | rfl | rfl | rfl | rfl | rfl | rfl | rfl | rfl | rfl | rfl
        · exact r_tin K 144 dL_law_39 (by decide) (by decide) rfl (by decide) (case_setKind l D a b c o hl0 KE KS S J f J2 hI hm6 h5 hL (by omega) (by omega) NX)
        · exact r_tin K 224 dL_law_39 (by decide) (by decide) rfl (by decide) (case_setFormat l D a b c o hl0 KE KS S J f J2 hI hm6 h5 hL (by omega) (by omega) NX)
        · exact r_tin K 292 dL_law_39 (by decide) (by decide) rfl (by decide) (case_ban l D a b c o hl0 KE KS S J f J2 hI hm6 h5 hL (by omega) (by omega) NX)
        · exact r_tin K 376 dL_law_39 (by decide) (by decide) rfl (by decide) (case_print l D a b c o hl0 KE KS S J f J2 hI hm6 h5 hL (by omega) (by omega) NX)
        · exact r_tin K 444 dL_law_39 (by decide) (by decide) rfl (by decide) (case_deck l D a b c o hl0 KE KS S J f J2 hI hm6 h5 hL (by omega) (by omega) NX)
        · exact r_tin K 500 dL_law_39 (by decide) (by decide) rfl (by decide) (case_add l D a b c o hl0 KE KS S J f J2 hI hm6 h5 hL (by omega) (by omega) NX)
        · exact r_tin K 568 dL_law_39 (by decide) (by decide) rfl (by decide) (case_cut l D a b c o hl0 KE KS S J f J2 hI hm6 h5 hL (by omega) (by omega) NX)
        · exact r_tin K 636 dL_law_39 (by decide) (by decide) rfl (by decide) (case_play l D a b c o hl0 KE KS S J f J2 hI hm6 h5 hL (by omega) (by omega) NX)
        · exact r_tin K 728 dL_law_39 (by decide) (by decide) rfl (by decide) (case_offer l D a b c o hl0 KE KS S J f J2 hI hm6 h5 hL (by omega) (by omega) NX)
        · exact r_tin K 796 dL_law_39 (by decide) (by decide) rfl (by decide) (case_takeBack l D a b c o hl0 KE KS S J f J2 hI hm6 h5 hL (by omega) (by omega) NX)
        · exact r_tin K 852 dL_law_39 (by decide) (by decide) rfl (by decide) (case_trade l D a b c o hl0 KE KS S J f J2 hI hm6 h5 hL (by omega) (by omega) NX)
        · exact r_tin K 865 dL_law_39 (by decide) (by decide) rfl (by decide) (case_cards l D a b c o hl0 KE KS S J f J2 hI hm6 h5 hL (by omega) (by omega) NX)
        · exact r_tin K 878 dL_law_39 (by decide) (by decide) rfl (by decide) (case_printOf l D a b c o hl0 KE KS S J f J2 hI hm6 h5 hL (by omega) (by omega) NX)
        · exact r_tin K 934 dL_law_39 (by decide) (by decide) rfl (by decide) (case_collectorOf l D a b c o hl0 KE KS S J f J2 hI hm6 h5 hL (by omega) (by omega) NX)
        · exact r_tin K 990 dL_law_39 (by decide) (by decide) rfl (by decide) (case_has l D a b c o hl0 KE KS S J f J2 hI hm6 h5 hL (by omega) (by omega) NX)
        · exact r_tin K 1058 dL_law_39 (by decide) (by decide) rfl (by decide) (case_wins l D a b c o hl0 KE KS S J f J2 hI hm6 h5 hL (by omega) (by omega) NX)
        · exact r_tin K 1114 dL_law_39 (by decide) (by decide) rfl (by decide) (case_price l D a b c o hl0 KE KS S J f J2 hI hm6 h5 hL (by omega) (by omega) NX)
        · exact r_tin K 1170 dL_law_39 (by decide) (by decide) rfl (by decide) (case_isAllowed l D a b c o hl0 KE KS S J f J2 hI hm6 h5 hL (by omega) (by omega) NX)
        · exact r_tin K 1233 dL_law_39 (by decide) (by decide) rfl (by decide) (case_shuffled l D a b c o hl0 KE KS S J f J2 hI hm6 h5 hL (by omega) (by omega) NX)
        · exact r_tin K 1313 dL_law_39 (by decide) (by decide) rfl (by decide) (case_orders l D a b c o hl0 KE KS S J f J2 hI hm6 h5 hL (by omega) (by omega) NX)
        · exact r_tin K 1393 dL_law_39 (by decide) (by decide) rfl (by decide) (case_ordersByAll l D a b c o hl0 KE KS S J f J2 hI hm6 h5 hL (by omega) (by omega) NX)
        · exact r_tin K 1473 dL_law_39 (by decide) (by decide) rfl (by decide) (case_isOpen l D a b c o hl0 KE KS S J f J2 hI hm6 h5 hL (by omega) (by omega) NX)
        · exact r_tin K 1536 dL_law_39 (by decide) (by decide) rfl (by decide) (case_ring l D a b c o hl0 KE KS S J f J2 hI hm6 h5 hL (by omega) (by omega) NX)
      · exact r_tout K 1592 dL_law_39 (by omega) (by omega) (by decide) (NX k n S J f J2 (by omega) (by omega) (hI.mono (by omega)))

set_option maxHeartbeats 4000000 in
set_option maxRecDepth 100000 in
theorem law_run (l : Launch) (D : va_G) (c : Nat → ClassId) (hl0 : l.stackTraces = false) {G : Gt} {sb L : Nat} {xs : Nat → Int32} (KE : OkE l room_1 G cL_law 7 wsL_law RL D (tyW c)) (KS : OkS l room_1 G cL_law 7 wsL_law RL D (tyW c) sb L xs) (KN : OkNI l room_1 G cL_law 7 wsL_law RL D (tyW c)) (hL : L ≤ 2560)
    (hend : ∀ (k n : Nat) (ws : va_W) (lv : List (Nat × Value)), k ≤ 602188 → n ≤ 7289539 → G k n ws lv 1599 [.int (nI 1)]) : G 0 0 [] [(0, .ref sb)] 0 [] := by
  have K := KE.ok
  refine r_newo K (ci := 6) (fs := [.null, .null, .null, .null, .null, .null, .null]) inlX6 tyX6 tyX6_ok rfl q_cl6 q_ins6 q_ini6 (fun j hj => by rcases (show j = 0 ∨ j = 1 ∨ j = 2 ∨ j = 3 ∨ j = 4 ∨ j = 5 ∨ j = 6 by omega) with rfl | rfl | rfl | rfl | rfl | rfl | rfl <;> rfl) (by decide) dL_law_0 (fun q1 => ?_)
  refine r_dup K dL_law_3 rfl ?_
  refine r_callIn (rest := [.ref q1]) (z := []) (w := [(q1, .inr (6, [.null, .null, .null, .null, .null, .null, .null]))]) KN (c_X6_init l D c q1) gL_law_X6_init rfl q_ml6 q_ini6 q_im6 rfl (by decide +kernel) (by decide) rfl (Nat.le_of_ble_eq_true rfl) dL_law_4 (fun a ha => ?_)
  refine r_astore_n (lv' := [(0, .ref sb), (1, .ref q1)]) K dL_law_7 (by decide) rfl ?_
  refine r_newo K (ci := 7) (fs := [.null, .null, .null, .null, .null, .int 0, .int 0, .int 0, .null, .null, .null, .int 0, .null, .null, .null, .null, .int 0, .null, .null, .null, .null, .null, .int 0]) inlX7 tyX7 tyX7_ok rfl q_cl7 q_ins7 q_ini7 (fun j hj => by rcases (show j = 0 ∨ j = 1 ∨ j = 2 ∨ j = 3 ∨ j = 4 ∨ j = 5 ∨ j = 6 ∨ j = 7 ∨ j = 8 ∨ j = 9 ∨ j = 10 ∨ j = 11 ∨ j = 12 ∨ j = 13 ∨ j = 14 ∨ j = 15 ∨ j = 16 ∨ j = 17 ∨ j = 18 ∨ j = 19 ∨ j = 20 ∨ j = 21 ∨ j = 22 by omega) with rfl | rfl | rfl | rfl | rfl | rfl | rfl | rfl | rfl | rfl | rfl | rfl | rfl | rfl | rfl | rfl | rfl | rfl | rfl | rfl | rfl | rfl | rfl <;> rfl) (by decide) dL_law_8 (fun q2 => ?_)
  refine r_dup K dL_law_11 rfl ?_
  refine r_callIn (rest := [.ref q2]) (z := [] ++ wC a c S0 Z0) (w := [(q2, .inr (7, [.null, .null, .null, .null, .null, .int 0, .int 0, .int 0, .null, .null, .null, .int 0, .null, .null, .null, .null, .int 0, .null, .null, .null, .null, .null, .int 0]))]) KN (c_X7_init l D c q2) gL_law_X7_init rfl q_ml7 q_ini7 q_im7 rfl (by decide +kernel) (by decide) rfl (Nat.le_of_ble_eq_true rfl) dL_law_12 (fun b hb => ?_)
  refine r_astore_n (lv' := [(0, .ref sb), (1, .ref q1), (2, .ref q2)]) K dL_law_15 (by decide) rfl ?_
  refine r_iconst K (nI 1) dL_law_16 (by decide) ?_
  refine r_newaL K q_al (by decide) (by decide) dL_law_17 (fun o => ?_)
  refine r_astore_n (lv' := [(0, .ref sb), (1, .ref q1), (2, .ref q2), (3, .ref o)]) K dL_law_19 (by decide) rfl ?_
  refine r_iconst K (nI 0) dL_law_20 (by decide) ?_
  refine r_istore (lv' := [(0, .ref sb), (1, .ref q1), (2, .ref q2), (3, .ref o), (4, .int (nI 0))]) K dL_law_21 (by decide) rfl ?_
  refine r_perm (ws' := wL a b o c S0 Z0 (fun _ => 0) Z0) K [0, 1, 2, 3, 4, 5, 6, 7, 8, 9, 10, 11, 12, 13, 14, 15, 16, 17, 18, 19, 20, 21, 22, 23, 24, 25, 26, 27, 28, 29, 30, 31, 32, 33, 34, 35, 36, 37, 38, 39, 40, 41, 60, 42, 43, 44, 45, 46, 47, 48, 49, 50, 51, 52, 53, 54, 55, 56, 57, 58, 59] (by decide +kernel) rfl ?_
  refine r_lv (lv' := lvL sb (a 0) (b 0) o 0) (by rw [show a 0 = q1 from ha, show b 0 = q2 from hb]; rfl) ?_
  exact law_loop l D a b c o hl0 KE KS hL hend (L + 1) 0 0 _ _ S0 Z0 (fun _ => 0) Z0 (by omega) rfl (Nat.zero_le _) inv_0 (by decide) (by decide)
/-- YOUR PART: from the entry, for every script of at most 2560 ints, the law comes to its end with true -/
theorem whole_start {p : Program} {e : Env} {s : State} {m : MethodId} {below : List Frame} {meth : Method} {c : Code} (l : Launch) (hflags : l.flags = flags0) {b L : Nat} {xs : Nat → Int32} (hL : L ≤ 2560) (C0 : lw_At p s m meth c b L xs) : W p l e room_1 s m #[Value.ref b] below meth c s.heap [] 0 0 (lw_Z below #[Value.ref b] s) (entryFrame m ([Value.ref b] : List Value).toArray 7) := by
  obtain ⟨D, c0, hK, hSE, hNC, hNI⟩ := start_facts C0
  obtain ⟨hx, hb, hr, hml, hown, hts, hX, hbl, hlocks, hgv⟩ := id C0
  have hl0 : l.stackTraces = false := by
    unfold Launch.stackTraces
    rw [hflags]
    decide +kernel
  have hw : ∀ w ∈ wsL_law, w.before #[Value.ref b] s = true := fun w h => hts w (wsL_law_in w h)
  have hF : Fx p l e room_1 s m #[Value.ref b] below meth c (lw_Z below #[Value.ref b] s) (fun q => s.heap.size ≤ q) s.heap (Wh p l e room_1 s m #[Value.ref b] below meth c (lw_Z below #[Value.ref b] s) D (fun q => s.heap.size ≤ q) s.heap 7) cL_law 7 wsL_law RL D (tyW c0) := ⟨rfl, hx, hb, hml, hown, hw, hK, fun _ h => h⟩
  have KE : OkE l room_1 _ cL_law 7 wsL_law RL D (tyW c0) := ⟨p, e, s, m, _, below, meth, c, _, _, hF, hSE, hNC⟩
  have KS : OkS l room_1 _ cL_law 7 wsL_law RL D (tyW c0) b L xs := ⟨p, e, s, m, _, below, meth, c, _, _, _, hF, hX, hbl, Nat.not_le.mpr hbl⟩
  have KN : OkNI l room_1 _ cL_law 7 wsL_law RL D (tyW c0) := ⟨p, e, s, m, _, below, meth, c, _, _, _, hF, hNI⟩
  rw [lg_entry_eq]
  refine law_run l D c0 hl0 KE KS KN hL ?_ s.heap [] _ (fun k q h => by simp at h) ⟨fun i j p q h => by simp at h, fun k q h => by simp at h⟩ va_S.rf (entry_has (av := [.ref b]) (Nat.le_of_ble_eq_true rfl) rfl)
  intro k n ws lv hk hn H locs ls hP hD hS hl
  refine va_forget hS.2.2 (W.widen hk hn ?_)
  exact lw_ret hx hb hr hlocks dL_law_1599
end WHOLE
