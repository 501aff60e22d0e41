set_option maxHeartbeats 4000000 in
set_option maxRecDepth 100000 in
theorem case_printOf (l : Launch) (D : va_G) (a b : Nat → Nat) (c : Nat → ClassId) (o : Nat) (hl0 : l.stackTraces = false) {G : Gt} {sb L : Nat} {xs : Nat → Int32} (KE : OkE l room_1 G cL_law 7 wsL_law RL D (tyW c)) (KS : OkS l room_1 G cL_law 7 wsL_law RL D (tyW c) sb L xs) {m k n i : Nat} (S J : St) (f : Nat → Int64) (J2 : St) (hI : Inv m S) (hm : m ≤ 600) (hi : i + 5 ≤ L) (hL : L ≤ 2560) (hk : k + 10 ≤ 602188) (hn : n + 60 ≤ 7289539) (NX : Next G sb a b o c (m + 1) k n i) : G k n (wL a b o c S J f J2) (lvL sb (a 0) (b 0) o i) 878 [] := by
  have K := KE.ok
  have hV := hI.V hm
  have hO := hI.2.2.1
  unfold wL lvL
  obtain ⟨x, hx_⟩ : ∃ x : Int32, x = xs (i + 1) := ⟨_, rfl⟩
  refine r_aload_n K dL_law_878 rfl ?_
  refine r_aload_n K dL_law_879 rfl ?_
  refine r_iload K dL_law_880 rfl ?_
  refine r_iconst K (nI 1) dL_law_882 (by decide) ?_
  refine r_iadd K dL_law_883 ?_
  refine r_sld KS (by omega) hL dL_law_884 ?_
  refine r_top hx_.symm ?_
  refine r_aload_n K dL_law_885 rfl ?_
  refine r_callW (rest := []) (z := wM b c S J2) KE (c_L_printOf l D a c S J o f hl0 hV x) 3 gL_law_L_printOf rfl (by decide +kernel) rfl ⟨⟨Nat.le_of_ble_eq_true rfl, Nat.le_of_ble_eq_true rfl⟩, (by show k + 1 ≤ 602188; omega), (by show n + 6 ≤ 7289539; omega)⟩ rfl (Nat.le_of_ble_eq_true rfl) dL_law_886 ?_
  rintro _ u ⟨rfl, hv⟩
  refine r_istore (lv' := [(0, .ref sb), (1, .ref (a 0)), (2, .ref (b 0)), (3, .ref o), (4, .int (nI i)), (5, .int (nI (thr (inB x 0 ((S 2 0 : Nat) - 1)) (true) (true))))]) K dL_law_889 (by decide) rfl ?_
  refine r_aload_n K dL_law_891 rfl ?_
  refine r_aload_n K dL_law_892 rfl ?_
  refine r_iload K dL_law_893 rfl ?_
  refine r_iconst K (nI 1) dL_law_895 (by decide) ?_
  refine r_iadd K dL_law_896 ?_
  refine r_sld KS (by omega) hL dL_law_897 ?_
  refine r_top hx_.symm ?_
  refine r_callVr (rest := []) (z := (wC a c (if thr (inB x 0 ((S 2 0 : Nat) - 1)) (true) (true) = 0 then (S) else S) u.1 ++ lo o c u.2)) K (c_X7_printOf l D b c S J2 hV x) 1 gL_law_X7_printOf rfl (by decide +kernel) rfl ⟨⟨Nat.le_of_ble_eq_true rfl, Nat.le_of_ble_eq_true rfl⟩, (by show k + 1 + 0 ≤ 602188; omega), (by show n + 6 + 0 ≤ 7289539; omega)⟩ 0 (wM_g0 _ _ _ _) rfl rfl (Nat.le_of_ble_eq_true rfl) dL_law_898 ?_
  rintro r2 J3 ⟨hJ, hv2⟩
  refine r_istore (lv' := [(0, .ref sb), (1, .ref (a 0)), (2, .ref (b 0)), (3, .ref o), (4, .int (nI i)), (5, .int (nI (thr (inB x 0 ((S 2 0 : Nat) - 1)) (true) (true)))), (6, .int r2)]) K dL_law_901 (by decide) rfl ?_
  refine r_aload_n K dL_law_903 rfl ?_
  refine r_callVr (rest := []) (z := (wC a c (if thr (inB x 0 ((S 2 0 : Nat) - 1)) (true) (true) = 0 then (S) else S) u.1 ++ lo o c u.2)) (w := wM b c S J3) K (c_X7_thrown l D b c S J3) 0 gL_law_X7_thrown rfl (by decide +kernel) rfl ⟨⟨Nat.le_of_ble_eq_true rfl, Nat.le_of_ble_eq_true rfl⟩, (by show k + 1 + 0 + 0 ≤ 602188; omega), (by show n + 6 + 0 + 0 ≤ 7289539; omega)⟩ 0 (wM_g0 _ _ _ _) rfl rfl (Nat.le_of_ble_eq_true rfl) dL_law_904 ?_
  rintro _ _ rfl
  refine r_top (congrArg nI (hJ)) ?_
  refine r_iload K dL_law_907 rfl ?_
  refine r_ic_eq K 914 dL_law_909 (by decide) (Nat.lt_of_le_of_lt (thr_le3 _ _ _) (by decide)) (Nat.lt_of_le_of_lt (thr_le3 _ _ _) (by decide)) (fun _ => ?_) (fun h => absurd rfl h)
  refine r_iload K dL_law_914 rfl ?_
  refine r_if_ne K 931 dL_law_916 (by decide) (Nat.lt_of_le_of_lt (thr_le3 _ _ _) (by decide)) (fun h0 => ?_) (fun h0 => ?_)
  ·
    refine r_goto K 1592 dL_law_931 (by decide) ?_
    refine r_pick [0, 1, 2, 3, 4] K rfl ?_
    refine r_w (ws' := wL a b o c S u.1 u.2 J3) (by unfold wL; rw [if_neg h0]) ?_
    exact NX _ _ S u.1 u.2 J3 (by show k + 1 + 0 + 0 ≤ k + 10; omega) (by show n + 6 + 0 + 0 ≤ n + 60; omega) (hI.mono (by omega))
  ·
    have h02 := h0
    obtain ⟨hb1, hb2, hb3⟩ := thr_eq0 h0
    refine r_aload_n K dL_law_919 rfl ?_
    refine r_iconst K (nI 0) dL_law_920 (by decide) ?_
    refine r_lald0 K (f := u.2) 42 3 rfl rfl (by decide) dL_law_921 ?_
    refine r_iload K dL_law_922 rfl ?_
    refine r_i2lR K dL_law_924 ?_
    refine r_lcmpR K dL_law_925 ?_
    refine r_top (show lg_cmp (u.2 0) r2.toInt64 = nI 0 from by rw [hv h0, hv2 h02]; exact lcmp_0 _) ?_
    refine r_if_eq K 931 dL_law_926 (by decide) (by decide) (fun _ => ?_) (fun h => absurd rfl h)
    refine r_goto K 1592 dL_law_931 (by decide) ?_
    refine r_pick [0, 1, 2, 3, 4] K rfl ?_
    refine r_w (ws' := wL a b o c (S) u.1 u.2 J3) (by unfold wL; rw [if_pos h0]) ?_
    exact NX _ _ (S) u.1 u.2 J3 (by show k + 1 + 0 + 0 ≤ k + 10; omega) (by show n + 6 + 0 + 0 ≤ n + 60; omega) (hI.mono (by omega))

set_option maxHeartbeats 4000000 in
set_option maxRecDepth 100000 in
theorem case_collectorOf (l : Launch) (D : va_G) (a b : Nat → Nat) (c : Nat → ClassId) (o : Nat) (hl0 : l.stackTraces = false) {G : Gt} {sb L : Nat} {xs : Nat → Int32} (KE : OkE l room_1 G cL_law 7 wsL_law RL D (tyW c)) (KS : OkS l room_1 G cL_law 7 wsL_law RL D (tyW c) sb L xs) {m k n i : Nat} (S J : St) (f : Nat → Int64) (J2 : St) (hI : Inv m S) (hm : m ≤ 600) (hi : i + 5 ≤ L) (hL : L ≤ 2560) (hk : k + 10 ≤ 602188) (hn : n + 60 ≤ 7289539) (NX : Next G sb a b o c (m + 1) k n i) : G k n (wL a b o c S J f J2) (lvL sb (a 0) (b 0) o i) 934 [] := by
  have K := KE.ok
  have hV := hI.V hm
  have hO := hI.2.2.1
  unfold wL lvL
  obtain ⟨x, hx_⟩ : ∃ x : Int32, x = xs (i + 1) := ⟨_, rfl⟩
  refine r_aload_n K dL_law_934 rfl ?_
  refine r_aload_n K dL_law_935 rfl ?_
  refine r_iload K dL_law_936 rfl ?_
  refine r_iconst K (nI 1) dL_law_938 (by decide) ?_
  refine r_iadd K dL_law_939 ?_
  refine r_sld KS (by omega) hL dL_law_940 ?_
  refine r_top hx_.symm ?_
  refine r_aload_n K dL_law_941 rfl ?_
  refine r_callW (rest := []) (z := wM b c S J2) KE (c_L_collectorOf l D a c S J o f hl0 hV x) 3 gL_law_L_collectorOf rfl (by decide +kernel) rfl ⟨⟨Nat.le_of_ble_eq_true rfl, Nat.le_of_ble_eq_true rfl⟩, (by show k + 1 ≤ 602188; omega), (by show n + 6 ≤ 7289539; omega)⟩ rfl (Nat.le_of_ble_eq_true rfl) dL_law_942 ?_
  rintro _ u ⟨rfl, hv⟩
  refine r_istore (lv' := [(0, .ref sb), (1, .ref (a 0)), (2, .ref (b 0)), (3, .ref o), (4, .int (nI i)), (5, .int (nI (thr (inB x 0 ((S 2 0 : Nat) - 1)) (true) (true))))]) K dL_law_945 (by decide) rfl ?_
  refine r_aload_n K dL_law_947 rfl ?_
  refine r_aload_n K dL_law_948 rfl ?_
  refine r_iload K dL_law_949 rfl ?_
  refine r_iconst K (nI 1) dL_law_951 (by decide) ?_
  refine r_iadd K dL_law_952 ?_
  refine r_sld KS (by omega) hL dL_law_953 ?_
  refine r_top hx_.symm ?_
  refine r_callVr (rest := []) (z := (wC a c (if thr (inB x 0 ((S 2 0 : Nat) - 1)) (true) (true) = 0 then (S) else S) u.1 ++ lo o c u.2)) K (c_X7_collectorOf l D b c S J2 hV x) 1 gL_law_X7_collectorOf rfl (by decide +kernel) rfl ⟨⟨Nat.le_of_ble_eq_true rfl, Nat.le_of_ble_eq_true rfl⟩, (by show k + 1 + 0 ≤ 602188; omega), (by show n + 6 + 0 ≤ 7289539; omega)⟩ 0 (wM_g0 _ _ _ _) rfl rfl (Nat.le_of_ble_eq_true rfl) dL_law_954 ?_
  rintro r2 J3 ⟨hJ, hv2⟩
  refine r_istore (lv' := [(0, .ref sb), (1, .ref (a 0)), (2, .ref (b 0)), (3, .ref o), (4, .int (nI i)), (5, .int (nI (thr (inB x 0 ((S 2 0 : Nat) - 1)) (true) (true)))), (6, .int r2)]) K dL_law_957 (by decide) rfl ?_
  refine r_aload_n K dL_law_959 rfl ?_
  refine r_callVr (rest := []) (z := (wC a c (if thr (inB x 0 ((S 2 0 : Nat) - 1)) (true) (true) = 0 then (S) else S) u.1 ++ lo o c u.2)) (w := wM b c S J3) K (c_X7_thrown l D b c S J3) 0 gL_law_X7_thrown rfl (by decide +kernel) rfl ⟨⟨Nat.le_of_ble_eq_true rfl, Nat.le_of_ble_eq_true rfl⟩, (by show k + 1 + 0 + 0 ≤ 602188; omega), (by show n + 6 + 0 + 0 ≤ 7289539; omega)⟩ 0 (wM_g0 _ _ _ _) rfl rfl (Nat.le_of_ble_eq_true rfl) dL_law_960 ?_
  rintro _ _ rfl
  refine r_top (congrArg nI (hJ)) ?_
  refine r_iload K dL_law_963 rfl ?_
  refine r_ic_eq K 970 dL_law_965 (by decide) (Nat.lt_of_le_of_lt (thr_le3 _ _ _) (by decide)) (Nat.lt_of_le_of_lt (thr_le3 _ _ _) (by decide)) (fun _ => ?_) (fun h => absurd rfl h)
  refine r_iload K dL_law_970 rfl ?_
  refine r_if_ne K 987 dL_law_972 (by decide) (Nat.lt_of_le_of_lt (thr_le3 _ _ _) (by decide)) (fun h0 => ?_) (fun h0 => ?_)
  ·
    refine r_goto K 1592 dL_law_987 (by decide) ?_
    refine r_pick [0, 1, 2, 3, 4] K rfl ?_
    refine r_w (ws' := wL a b o c S u.1 u.2 J3) (by unfold wL; rw [if_neg h0]) ?_
    exact NX _ _ S u.1 u.2 J3 (by show k + 1 + 0 + 0 ≤ k + 10; omega) (by show n + 6 + 0 + 0 ≤ n + 60; omega) (hI.mono (by omega))
  ·
    have h02 := h0
    obtain ⟨hb1, hb2, hb3⟩ := thr_eq0 h0
    refine r_aload_n K dL_law_975 rfl ?_
    refine r_iconst K (nI 0) dL_law_976 (by decide) ?_
    refine r_lald0 K (f := u.2) 42 3 rfl rfl (by decide) dL_law_977 ?_
    refine r_iload K dL_law_978 rfl ?_
    refine r_i2lR K dL_law_980 ?_
    refine r_lcmpR K dL_law_981 ?_
    refine r_top (show lg_cmp (u.2 0) r2.toInt64 = nI 0 from by rw [hv h0, hv2 h02]; exact lcmp_0 _) ?_
    refine r_if_eq K 987 dL_law_982 (by decide) (by decide) (fun _ => ?_) (fun h => absurd rfl h)
    refine r_goto K 1592 dL_law_987 (by decide) ?_
    refine r_pick [0, 1, 2, 3, 4] K rfl ?_
    refine r_w (ws' := wL a b o c (S) u.1 u.2 J3) (by unfold wL; rw [if_pos h0]) ?_
    exact NX _ _ (S) u.1 u.2 J3 (by show k + 1 + 0 + 0 ≤ k + 10; omega) (by show n + 6 + 0 + 0 ≤ n + 60; omega) (hI.mono (by omega))

set_option maxHeartbeats 4000000 in
set_option maxRecDepth 100000 in
theorem case_has (l : Launch) (D : va_G) (a b : Nat → Nat) (c : Nat → ClassId) (o : Nat) (hl0 : l.stackTraces = false) {G : Gt} {sb L : Nat} {xs : Nat → Int32} (KE : OkE l room_1 G cL_law 7 wsL_law RL D (tyW c)) (KS : OkS l room_1 G cL_law 7 wsL_law RL D (tyW c) sb L xs) {m k n i : Nat} (S J : St) (f : Nat → Int64) (J2 : St) (hI : Inv m S) (hm : m ≤ 600) (hi : i + 5 ≤ L) (hL : L ≤ 2560) (hk : k + 10 ≤ 602188) (hn : n + 60 ≤ 7289539) (NX : Next G sb a b o c (m + 1) k n i) : G k n (wL a b o c S J f J2) (lvL sb (a 0) (b 0) o i) 990 [] := by
  have K := KE.ok
  have hV := hI.V hm
  have hO := hI.2.2.1
  unfold wL lvL
  obtain ⟨x, hx_⟩ : ∃ x : Int32, x = xs (i + 1) := ⟨_, rfl⟩
  obtain ⟨y, hy_⟩ : ∃ x : Int32, x = xs (i + 2) := ⟨_, rfl⟩
  refine r_aload_n K dL_law_990 rfl ?_
  refine r_aload_n K dL_law_991 rfl ?_
  refine r_iload K dL_law_992 rfl ?_
  refine r_iconst K (nI 1) dL_law_994 (by decide) ?_
  refine r_iadd K dL_law_995 ?_
  refine r_sld KS (by omega) hL dL_law_996 ?_
  refine r_top hx_.symm ?_
  refine r_aload_n K dL_law_997 rfl ?_
  refine r_iload K dL_law_998 rfl ?_
  refine r_iconst K (nI 2) dL_law_1000 (by decide) ?_
  refine r_iadd K dL_law_1001 ?_
  refine r_sld KS (by omega) hL dL_law_1002 ?_
  refine r_top hy_.symm ?_
  refine r_aload_n K dL_law_1003 rfl ?_
  refine r_callW (rest := []) (z := wM b c S J2) KE (c_L_has l D a c S J o f hl0 hV x y) 4 gL_law_L_has rfl (by decide +kernel) rfl ⟨⟨Nat.le_of_ble_eq_true rfl, Nat.le_of_ble_eq_true rfl⟩, (by show k + 2 ≤ 602188; omega), (by show n + 12 ≤ 7289539; omega)⟩ rfl (Nat.le_of_ble_eq_true rfl) dL_law_1004 ?_
  rintro _ u ⟨rfl, hv⟩
  refine r_istore (lv' := [(0, .ref sb), (1, .ref (a 0)), (2, .ref (b 0)), (3, .ref o), (4, .int (nI i)), (5, .int (nI (thr (inB x 0 5 && inB y 0 15) (true) (true))))]) K dL_law_1007 (by decide) rfl ?_
  refine r_aload_n K dL_law_1009 rfl ?_
  refine r_aload_n K dL_law_1010 rfl ?_
  refine r_iload K dL_law_1011 rfl ?_
  refine r_iconst K (nI 1) dL_law_1013 (by decide) ?_
  refine r_iadd K dL_law_1014 ?_
  refine r_sld KS (by omega) hL dL_law_1015 ?_
  refine r_top hx_.symm ?_
  refine r_aload_n K dL_law_1016 rfl ?_
  refine r_iload K dL_law_1017 rfl ?_
  refine r_iconst K (nI 2) dL_law_1019 (by decide) ?_
  refine r_iadd K dL_law_1020 ?_
  refine r_sld KS (by omega) hL dL_law_1021 ?_
  refine r_top hy_.symm ?_
  refine r_callVr (rest := []) (z := (wC a c (if thr (inB x 0 5 && inB y 0 15) (true) (true) = 0 then (S) else S) u.1 ++ lo o c u.2)) K (c_X7_has l D b c S J2 hV x y) 2 gL_law_X7_has rfl (by decide +kernel) rfl ⟨⟨Nat.le_of_ble_eq_true rfl, Nat.le_of_ble_eq_true rfl⟩, (by show k + 2 + 0 ≤ 602188; omega), (by show n + 12 + 0 ≤ 7289539; omega)⟩ 0 (wM_g0 _ _ _ _) rfl rfl (Nat.le_of_ble_eq_true rfl) dL_law_1022 ?_
  rintro r2 J3 ⟨hJ, hv2⟩
  refine r_istore (lv' := [(0, .ref sb), (1, .ref (a 0)), (2, .ref (b 0)), (3, .ref o), (4, .int (nI i)), (5, .int (nI (thr (inB x 0 5 && inB y 0 15) (true) (true)))), (6, .int r2)]) K dL_law_1025 (by decide) rfl ?_
  refine r_aload_n K dL_law_1027 rfl ?_
  refine r_callVr (rest := []) (z := (wC a c (if thr (inB x 0 5 && inB y 0 15) (true) (true) = 0 then (S) else S) u.1 ++ lo o c u.2)) (w := wM b c S J3) K (c_X7_thrown l D b c S J3) 0 gL_law_X7_thrown rfl (by decide +kernel) rfl ⟨⟨Nat.le_of_ble_eq_true rfl, Nat.le_of_ble_eq_true rfl⟩, (by show k + 2 + 0 + 0 ≤ 602188; omega), (by show n + 12 + 0 + 0 ≤ 7289539; omega)⟩ 0 (wM_g0 _ _ _ _) rfl rfl (Nat.le_of_ble_eq_true rfl) dL_law_1028 ?_
  rintro _ _ rfl
  refine r_top (congrArg nI (hJ)) ?_
  refine r_iload K dL_law_1031 rfl ?_
  refine r_ic_eq K 1038 dL_law_1033 (by decide) (Nat.lt_of_le_of_lt (thr_le3 _ _ _) (by decide)) (Nat.lt_of_le_of_lt (thr_le3 _ _ _) (by decide)) (fun _ => ?_) (fun h => absurd rfl h)
  refine r_iload K dL_law_1038 rfl ?_
  refine r_if_ne K 1055 dL_law_1040 (by decide) (Nat.lt_of_le_of_lt (thr_le3 _ _ _) (by decide)) (fun h0 => ?_) (fun h0 => ?_)
  ·
    refine r_goto K 1592 dL_law_1055 (by decide) ?_
    refine r_pick [0, 1, 2, 3, 4] K rfl ?_
    refine r_w (ws' := wL a b o c S u.1 u.2 J3) (by unfold wL; rw [if_neg h0]) ?_
    exact NX _ _ S u.1 u.2 J3 (by show k + 2 + 0 + 0 ≤ k + 10; omega) (by show n + 12 + 0 + 0 ≤ n + 60; omega) (hI.mono (by omega))
  ·
    have h02 := h0
    obtain ⟨hb1, hb2, hb3⟩ := thr_eq0 h0
    refine r_aload_n K dL_law_1043 rfl ?_
    refine r_iconst K (nI 0) dL_law_1044 (by decide) ?_
    refine r_lald0 K (f := u.2) 42 3 rfl rfl (by decide) dL_law_1045 ?_
    refine r_iload K dL_law_1046 rfl ?_
    refine r_i2lR K dL_law_1048 ?_
    refine r_lcmpR K dL_law_1049 ?_
    refine r_top (show lg_cmp (u.2 0) r2.toInt64 = nI 0 from by rw [hv h0, hv2 h02]; exact lcmp_0 _) ?_
    refine r_if_eq K 1055 dL_law_1050 (by decide) (by decide) (fun _ => ?_) (fun h => absurd rfl h)
    refine r_goto K 1592 dL_law_1055 (by decide) ?_
    refine r_pick [0, 1, 2, 3, 4] K rfl ?_
    refine r_w (ws' := wL a b o c (S) u.1 u.2 J3) (by unfold wL; rw [if_pos h0]) ?_
    exact NX _ _ (S) u.1 u.2 J3 (by show k + 2 + 0 + 0 ≤ k + 10; omega) (by show n + 12 + 0 + 0 ≤ n + 60; omega) (hI.mono (by omega))

set_option maxHeartbeats 4000000 in
set_option maxRecDepth 100000 in
theorem case_wins (l : Launch) (D : va_G) (a b : Nat → Nat) (c : Nat → ClassId) (o : Nat) (hl0 : l.stackTraces = false) {G : Gt} {sb L : Nat} {xs : Nat → Int32} (KE : OkE l room_1 G cL_law 7 wsL_law RL D (tyW c)) (KS : OkS l room_1 G cL_law 7 wsL_law RL D (tyW c) sb L xs) {m k n i : Nat} (S J : St) (f : Nat → Int64) (J2 : St) (hI : Inv m S) (hm : m ≤ 600) (hi : i + 5 ≤ L) (hL : L ≤ 2560) (hk : k + 10 ≤ 602188) (hn : n + 60 ≤ 7289539) (NX : Next G sb a b o c (m + 1) k n i) : G k n (wL a b o c S J f J2) (lvL sb (a 0) (b 0) o i) 1058 [] := by
  have K := KE.ok
  have hV := hI.V hm
  have hO := hI.2.2.1
  unfold wL lvL
  obtain ⟨x, hx_⟩ : ∃ x : Int32, x = xs (i + 1) := ⟨_, rfl⟩
  refine r_aload_n K dL_law_1058 rfl ?_
  refine r_aload_n K dL_law_1059 rfl ?_
  refine r_iload K dL_law_1060 rfl ?_
  refine r_iconst K (nI 1) dL_law_1062 (by decide) ?_
  refine r_iadd K dL_law_1063 ?_
  refine r_sld KS (by omega) hL dL_law_1064 ?_
  refine r_top hx_.symm ?_
  refine r_aload_n K dL_law_1065 rfl ?_
  refine r_callW (rest := []) (z := wM b c S J2) KE (c_L_wins l D a c S J o f hl0 hV x) 3 gL_law_L_wins rfl (by decide +kernel) rfl ⟨⟨Nat.le_of_ble_eq_true rfl, Nat.le_of_ble_eq_true rfl⟩, (by show k + 1 ≤ 602188; omega), (by show n + 6 ≤ 7289539; omega)⟩ rfl (Nat.le_of_ble_eq_true rfl) dL_law_1066 ?_
  rintro _ u ⟨rfl, hv⟩
  refine r_istore (lv' := [(0, .ref sb), (1, .ref (a 0)), (2, .ref (b 0)), (3, .ref o), (4, .int (nI i)), (5, .int (nI (thr (inB x 0 15) (true) (true))))]) K dL_law_1069 (by decide) rfl ?_
  refine r_aload_n K dL_law_1071 rfl ?_
  refine r_aload_n K dL_law_1072 rfl ?_
  refine r_iload K dL_law_1073 rfl ?_
  refine r_iconst K (nI 1) dL_law_1075 (by decide) ?_
  refine r_iadd K dL_law_1076 ?_
  refine r_sld KS (by omega) hL dL_law_1077 ?_
  refine r_top hx_.symm ?_
  refine r_callVr (rest := []) (z := (wC a c (if thr (inB x 0 15) (true) (true) = 0 then (S) else S) u.1 ++ lo o c u.2)) K (c_X7_wins l D b c S J2 hV x) 1 gL_law_X7_wins rfl (by decide +kernel) rfl ⟨⟨Nat.le_of_ble_eq_true rfl, Nat.le_of_ble_eq_true rfl⟩, (by show k + 1 + 0 ≤ 602188; omega), (by show n + 6 + 0 ≤ 7289539; omega)⟩ 0 (wM_g0 _ _ _ _) rfl rfl (Nat.le_of_ble_eq_true rfl) dL_law_1078 ?_
  rintro r2 J3 ⟨hJ, hv2⟩
  refine r_istore (lv' := [(0, .ref sb), (1, .ref (a 0)), (2, .ref (b 0)), (3, .ref o), (4, .int (nI i)), (5, .int (nI (thr (inB x 0 15) (true) (true)))), (6, .int r2)]) K dL_law_1081 (by decide) rfl ?_
  refine r_aload_n K dL_law_1083 rfl ?_
  refine r_callVr (rest := []) (z := (wC a c (if thr (inB x 0 15) (true) (true) = 0 then (S) else S) u.1 ++ lo o c u.2)) (w := wM b c S J3) K (c_X7_thrown l D b c S J3) 0 gL_law_X7_thrown rfl (by decide +kernel) rfl ⟨⟨Nat.le_of_ble_eq_true rfl, Nat.le_of_ble_eq_true rfl⟩, (by show k + 1 + 0 + 0 ≤ 602188; omega), (by show n + 6 + 0 + 0 ≤ 7289539; omega)⟩ 0 (wM_g0 _ _ _ _) rfl rfl (Nat.le_of_ble_eq_true rfl) dL_law_1084 ?_
  rintro _ _ rfl
  refine r_top (congrArg nI (hJ)) ?_
  refine r_iload K dL_law_1087 rfl ?_
  refine r_ic_eq K 1094 dL_law_1089 (by decide) (Nat.lt_of_le_of_lt (thr_le3 _ _ _) (by decide)) (Nat.lt_of_le_of_lt (thr_le3 _ _ _) (by decide)) (fun _ => ?_) (fun h => absurd rfl h)
  refine r_iload K dL_law_1094 rfl ?_
  refine r_if_ne K 1111 dL_law_1096 (by decide) (Nat.lt_of_le_of_lt (thr_le3 _ _ _) (by decide)) (fun h0 => ?_) (fun h0 => ?_)
  ·
    refine r_goto K 1592 dL_law_1111 (by decide) ?_
    refine r_pick [0, 1, 2, 3, 4] K rfl ?_
    refine r_w (ws' := wL a b o c S u.1 u.2 J3) (by unfold wL; rw [if_neg h0]) ?_
    exact NX _ _ S u.1 u.2 J3 (by show k + 1 + 0 + 0 ≤ k + 10; omega) (by show n + 6 + 0 + 0 ≤ n + 60; omega) (hI.mono (by omega))
  ·
    have h02 := h0
    obtain ⟨hb1, hb2, hb3⟩ := thr_eq0 h0
    refine r_aload_n K dL_law_1099 rfl ?_
    refine r_iconst K (nI 0) dL_law_1100 (by decide) ?_
    refine r_lald0 K (f := u.2) 42 3 rfl rfl (by decide) dL_law_1101 ?_
    refine r_iload K dL_law_1102 rfl ?_
    refine r_i2lR K dL_law_1104 ?_
    refine r_lcmpR K dL_law_1105 ?_
    refine r_top (show lg_cmp (u.2 0) r2.toInt64 = nI 0 from by rw [hv h0, hv2 h02]; exact lcmp_0 _) ?_
    refine r_if_eq K 1111 dL_law_1106 (by decide) (by decide) (fun _ => ?_) (fun h => absurd rfl h)
    refine r_goto K 1592 dL_law_1111 (by decide) ?_
    refine r_pick [0, 1, 2, 3, 4] K rfl ?_
    refine r_w (ws' := wL a b o c (S) u.1 u.2 J3) (by unfold wL; rw [if_pos h0]) ?_
    exact NX _ _ (S) u.1 u.2 J3 (by show k + 1 + 0 + 0 ≤ k + 10; omega) (by show n + 6 + 0 + 0 ≤ n + 60; omega) (hI.mono (by omega))

set_option maxHeartbeats 4000000 in
set_option maxRecDepth 100000 in
theorem case_price (l : Launch) (D : va_G) (a b : Nat → Nat) (c : Nat → ClassId) (o : Nat) (hl0 : l.stackTraces = false) {G : Gt} {sb L : Nat} {xs : Nat → Int32} (KE : OkE l room_1 G cL_law 7 wsL_law RL D (tyW c)) (KS : OkS l room_1 G cL_law 7 wsL_law RL D (tyW c) sb L xs) {m k n i : Nat} (S J : St) (f : Nat → Int64) (J2 : St) (hI : Inv m S) (hm : m ≤ 600) (hi : i + 5 ≤ L) (hL : L ≤ 2560) (hk : k + 10 ≤ 602188) (hn : n + 60 ≤ 7289539) (NX : Next G sb a b o c (m + 1) k n i) : G k n (wL a b o c S J f J2) (lvL sb (a 0) (b 0) o i) 1114 [] := by
  have K := KE.ok
  have hV := hI.V hm
  have hO := hI.2.2.1
  unfold wL lvL
  obtain ⟨x, hx_⟩ : ∃ x : Int32, x = xs (i + 1) := ⟨_, rfl⟩
  refine r_aload_n K dL_law_1114 rfl ?_
  refine r_aload_n K dL_law_1115 rfl ?_
  refine r_iload K dL_law_1116 rfl ?_
  refine r_iconst K (nI 1) dL_law_1118 (by decide) ?_
  refine r_iadd K dL_law_1119 ?_
  refine r_sld KS (by omega) hL dL_law_1120 ?_
  refine r_top hx_.symm ?_
  refine r_aload_n K dL_law_1121 rfl ?_
  refine r_callW (rest := []) (z := wM b c S J2) KE (c_L_price l D a c S J o f hl0 hV x) 3 gL_law_L_price rfl (by decide +kernel) rfl ⟨⟨Nat.le_of_ble_eq_true rfl, Nat.le_of_ble_eq_true rfl⟩, (by show k + 1 ≤ 602188; omega), (by show n + 6 ≤ 7289539; omega)⟩ rfl (Nat.le_of_ble_eq_true rfl) dL_law_1122 ?_
  rintro _ u ⟨rfl, hv⟩
  refine r_istore (lv' := [(0, .ref sb), (1, .ref (a 0)), (2, .ref (b 0)), (3, .ref o), (4, .int (nI i)), (5, .int (nI (thr (inB x 0 15) (true) (true))))]) K dL_law_1125 (by decide) rfl ?_
  refine r_aload_n K dL_law_1127 rfl ?_
  refine r_aload_n K dL_law_1128 rfl ?_
  refine r_iload K dL_law_1129 rfl ?_
  refine r_iconst K (nI 1) dL_law_1131 (by decide) ?_
  refine r_iadd K dL_law_1132 ?_
  refine r_sld KS (by omega) hL dL_law_1133 ?_
  refine r_top hx_.symm ?_
  refine r_callVr (rest := []) (z := (wC a c (if thr (inB x 0 15) (true) (true) = 0 then (S) else S) u.1 ++ lo o c u.2)) K (c_X7_price l D b c S J2 hV x) 1 gL_law_X7_price rfl (by decide +kernel) rfl ⟨⟨Nat.le_of_ble_eq_true rfl, Nat.le_of_ble_eq_true rfl⟩, (by show k + 1 + 0 ≤ 602188; omega), (by show n + 6 + 0 ≤ 7289539; omega)⟩ 0 (wM_g0 _ _ _ _) rfl rfl (Nat.le_of_ble_eq_true rfl) dL_law_1134 ?_
  rintro r2 J3 ⟨hJ, hv2⟩
  refine r_istore (lv' := [(0, .ref sb), (1, .ref (a 0)), (2, .ref (b 0)), (3, .ref o), (4, .int (nI i)), (5, .int (nI (thr (inB x 0 15) (true) (true)))), (6, .int r2)]) K dL_law_1137 (by decide) rfl ?_
  refine r_aload_n K dL_law_1139 rfl ?_
  refine r_callVr (rest := []) (z := (wC a c (if thr (inB x 0 15) (true) (true) = 0 then (S) else S) u.1 ++ lo o c u.2)) (w := wM b c S J3) K (c_X7_thrown l D b c S J3) 0 gL_law_X7_thrown rfl (by decide +kernel) rfl ⟨⟨Nat.le_of_ble_eq_true rfl, Nat.le_of_ble_eq_true rfl⟩, (by show k + 1 + 0 + 0 ≤ 602188; omega), (by show n + 6 + 0 + 0 ≤ 7289539; omega)⟩ 0 (wM_g0 _ _ _ _) rfl rfl (Nat.le_of_ble_eq_true rfl) dL_law_1140 ?_
  rintro _ _ rfl
  refine r_top (congrArg nI (hJ)) ?_
  refine r_iload K dL_law_1143 rfl ?_
  refine r_ic_eq K 1150 dL_law_1145 (by decide) (Nat.lt_of_le_of_lt (thr_le3 _ _ _) (by decide)) (Nat.lt_of_le_of_lt (thr_le3 _ _ _) (by decide)) (fun _ => ?_) (fun h => absurd rfl h)
  refine r_iload K dL_law_1150 rfl ?_
  refine r_if_ne K 1167 dL_law_1152 (by decide) (Nat.lt_of_le_of_lt (thr_le3 _ _ _) (by decide)) (fun h0 => ?_) (fun h0 => ?_)
  ·
    refine r_goto K 1592 dL_law_1167 (by decide) ?_
    refine r_pick [0, 1, 2, 3, 4] K rfl ?_
    refine r_w (ws' := wL a b o c S u.1 u.2 J3) (by unfold wL; rw [if_neg h0]) ?_
    exact NX _ _ S u.1 u.2 J3 (by show k + 1 + 0 + 0 ≤ k + 10; omega) (by show n + 6 + 0 + 0 ≤ n + 60; omega) (hI.mono (by omega))
  ·
    have h02 := h0
    obtain ⟨hb1, hb2, hb3⟩ := thr_eq0 h0
    refine r_aload_n K dL_law_1155 rfl ?_
    refine r_iconst K (nI 0) dL_law_1156 (by decide) ?_
    refine r_lald0 K (f := u.2) 42 3 rfl rfl (by decide) dL_law_1157 ?_
    refine r_iload K dL_law_1158 rfl ?_
    refine r_i2lR K dL_law_1160 ?_
    refine r_lcmpR K dL_law_1161 ?_
    refine r_top (show lg_cmp (u.2 0) r2.toInt64 = nI 0 from by rw [hv h0, hv2 h02]; exact lcmp_0 _) ?_
    refine r_if_eq K 1167 dL_law_1162 (by decide) (by decide) (fun _ => ?_) (fun h => absurd rfl h)
    refine r_goto K 1592 dL_law_1167 (by decide) ?_
    refine r_pick [0, 1, 2, 3, 4] K rfl ?_
    refine r_w (ws' := wL a b o c (S) u.1 u.2 J3) (by unfold wL; rw [if_pos h0]) ?_
    exact NX _ _ (S) u.1 u.2 J3 (by show k + 1 + 0 + 0 ≤ k + 10; omega) (by show n + 6 + 0 + 0 ≤ n + 60; omega) (hI.mono (by omega))

set_option maxHeartbeats 4000000 in
set_option maxRecDepth 100000 in
theorem case_isAllowed (l : Launch) (D : va_G) (a b : Nat → Nat) (c : Nat → ClassId) (o : Nat) (hl0 : l.stackTraces = false) {G : Gt} {sb L : Nat} {xs : Nat → Int32} (KE : OkE l room_1 G cL_law 7 wsL_law RL D (tyW c)) (KS : OkS l room_1 G cL_law 7 wsL_law RL D (tyW c) sb L xs) {m k n i : Nat} (S J : St) (f : Nat → Int64) (J2 : St) (hI : Inv m S) (hm : m ≤ 600) (hi : i + 5 ≤ L) (hL : L ≤ 2560) (hk : k + 10 ≤ 602188) (hn : n + 60 ≤ 7289539) (NX : Next G sb a b o c (m + 1) k n i) : G k n (wL a b o c S J f J2) (lvL sb (a 0) (b 0) o i) 1170 [] := by
  have K := KE.ok
  have hV := hI.V hm
  have hO := hI.2.2.1
  unfold wL lvL
  obtain ⟨x, hx_⟩ : ∃ x : Int32, x = xs (i + 1) := ⟨_, rfl⟩
  refine r_aload_n K dL_law_1170 rfl ?_
  refine r_aload_n K dL_law_1171 rfl ?_
  refine r_iload K dL_law_1172 rfl ?_
  refine r_iconst K (nI 1) dL_law_1174 (by decide) ?_
  refine r_iadd K dL_law_1175 ?_
  refine r_sld KS (by omega) hL dL_law_1176 ?_
  refine r_top hx_.symm ?_
  refine r_aload_n K dL_law_1177 rfl ?_
  refine r_callW (rest := []) (z := wM b c S J2) KE (c_L_isAllowed l D a c S J o f hl0 hV x) 3 gL_law_L_isAllowed rfl (by decide +kernel) rfl ⟨⟨Nat.le_of_ble_eq_true rfl, Nat.le_of_ble_eq_true rfl⟩, (by show k + 1 ≤ 602188; omega), (by show n + 6 ≤ 7289539; omega)⟩ rfl (Nat.le_of_ble_eq_true rfl) dL_law_1178 ?_
  rintro _ u ⟨rfl, hv⟩
  refine r_istore (lv' := [(0, .ref sb), (1, .ref (a 0)), (2, .ref (b 0)), (3, .ref o), (4, .int (nI i)), (5, .int (nI (thr (inB x 0 ((S 3 0 : Nat) - 1)) (true) (true))))]) K dL_law_1181 (by decide) rfl ?_
  refine r_aload_n K dL_law_1183 rfl ?_
  refine r_aload_n K dL_law_1184 rfl ?_
  refine r_iload K dL_law_1185 rfl ?_
  refine r_iconst K (nI 1) dL_law_1187 (by decide) ?_
  refine r_iadd K dL_law_1188 ?_
  refine r_sld KS (by omega) hL dL_law_1189 ?_
  refine r_top hx_.symm ?_
  refine r_callVr (rest := []) (z := (wC a c (if thr (inB x 0 ((S 3 0 : Nat) - 1)) (true) (true) = 0 then (S) else S) u.1 ++ lo o c u.2)) K (c_X7_isAllowed l D b c S J2 hV x) 1 gL_law_X7_isAllowed rfl (by decide +kernel) rfl ⟨⟨Nat.le_of_ble_eq_true rfl, Nat.le_of_ble_eq_true rfl⟩, (by show k + 1 + 0 ≤ 602188; omega), (by show n + 6 + 0 ≤ 7289539; omega)⟩ 0 (wM_g0 _ _ _ _) rfl rfl (Nat.le_of_ble_eq_true rfl) dL_law_1190 ?_
  rintro r2 J3 ⟨hJ, hv2⟩
  refine r_istore (lv' := [(0, .ref sb), (1, .ref (a 0)), (2, .ref (b 0)), (3, .ref o), (4, .int (nI i)), (5, .int (nI (thr (inB x 0 ((S 3 0 : Nat) - 1)) (true) (true)))), (6, .int r2)]) K dL_law_1193 (by decide) rfl ?_
  refine r_aload_n K dL_law_1195 rfl ?_
  refine r_callVr (rest := []) (z := (wC a c (if thr (inB x 0 ((S 3 0 : Nat) - 1)) (true) (true) = 0 then (S) else S) u.1 ++ lo o c u.2)) (w := wM b c S J3) K (c_X7_thrown l D b c S J3) 0 gL_law_X7_thrown rfl (by decide +kernel) rfl ⟨⟨Nat.le_of_ble_eq_true rfl, Nat.le_of_ble_eq_true rfl⟩, (by show k + 1 + 0 + 0 ≤ 602188; omega), (by show n + 6 + 0 + 0 ≤ 7289539; omega)⟩ 0 (wM_g0 _ _ _ _) rfl rfl (Nat.le_of_ble_eq_true rfl) dL_law_1196 ?_
  rintro _ _ rfl
  refine r_top (congrArg nI (hJ)) ?_
  refine r_iload K dL_law_1199 rfl ?_
  refine r_ic_eq K 1206 dL_law_1201 (by decide) (Nat.lt_of_le_of_lt (thr_le3 _ _ _) (by decide)) (Nat.lt_of_le_of_lt (thr_le3 _ _ _) (by decide)) (fun _ => ?_) (fun h => absurd rfl h)
  refine r_iload K dL_law_1206 rfl ?_
  refine r_if_ne K 1230 dL_law_1208 (by decide) (Nat.lt_of_le_of_lt (thr_le3 _ _ _) (by decide)) (fun h0 => ?_) (fun h0 => ?_)
  ·
    refine r_goto K 1592 dL_law_1230 (by decide) ?_
    refine r_pick [0, 1, 2, 3, 4] K rfl ?_
    refine r_w (ws' := wL a b o c S u.1 u.2 J3) (by unfold wL; rw [if_neg h0]) ?_
    exact NX _ _ S u.1 u.2 J3 (by show k + 1 + 0 + 0 ≤ k + 10; omega) (by show n + 6 + 0 + 0 ≤ n + 60; omega) (hI.mono (by omega))
  ·
    have h02 := h0
    obtain ⟨hb1, hb2, hb3⟩ := thr_eq0 h0
    refine r_aload_n K dL_law_1211 rfl ?_
    refine r_iconst K (nI 0) dL_law_1212 (by decide) ?_
    refine r_lald0 K (f := u.2) 42 3 rfl rfl (by decide) dL_law_1213 ?_
    refine r_iload K dL_law_1214 rfl ?_
    refine r_top (hv2 h02) ?_
    refine r_if_eqB K 1223 dL_law_1216 (by decide) (fun hb => ?_) (fun hb => ?_)
    ·
      refine r_lconst K (lN 0) dL_law_1223 (by decide) ?_
      refine r_lcmpR K dL_law_1224 ?_
      refine r_top (show lg_cmp (u.2 0) (lN 0) = nI 0 from by rw [hv h0, hb]; decide) ?_
      refine r_if_eq K 1230 dL_law_1225 (by decide) (by decide) (fun _ => ?_) (fun h => absurd rfl h)
      refine r_goto K 1592 dL_law_1230 (by decide) ?_
      refine r_pick [0, 1, 2, 3, 4] K rfl ?_
      refine r_w (ws' := wL a b o c (S) u.1 u.2 J3) (by unfold wL; rw [if_pos h0]) ?_
      exact NX _ _ (S) u.1 u.2 J3 (by show k + 1 + 0 + 0 ≤ k + 10; omega) (by show n + 6 + 0 + 0 ≤ n + 60; omega) (hI.mono (by omega))
    ·
      refine r_lconst K (lN 1) dL_law_1219 (by decide) ?_
      refine r_goto K 1224 dL_law_1220 (by decide) ?_
      refine r_lcmpR K dL_law_1224 ?_
      refine r_top (show lg_cmp (u.2 0) (lN 1) = nI 0 from by rw [hv h0, hb]; decide) ?_
      refine r_if_eq K 1230 dL_law_1225 (by decide) (by decide) (fun _ => ?_) (fun h => absurd rfl h)
      refine r_goto K 1592 dL_law_1230 (by decide) ?_
      refine r_pick [0, 1, 2, 3, 4] K rfl ?_
      refine r_w (ws' := wL a b o c (S) u.1 u.2 J3) (by unfold wL; rw [if_pos h0]) ?_
      exact NX _ _ (S) u.1 u.2 J3 (by show k + 1 + 0 + 0 ≤ k + 10; omega) (by show n + 6 + 0 + 0 ≤ n + 60; omega) (hI.mono (by omega))
