def rmX7_hasRing : Room := { frames := 2, cells := 0, slots := 0, locals := 47 }
theorem hin_X7_hasRing_7 : ∀ w ∈ wsX70, w ∈ wsX7_hasRing := fun _ h => List.mem_cons_of_mem _ (List.mem_append_right _ h)
set_option maxHeartbeats 4000000 in
set_option maxRecDepth 100000 in
theorem c_X7_hasRing (l : Launch) (D : va_G) (b : Nat → Nat) (c : Nat → ClassId) (S J : St) (hV : V S) (hL : Lk S) (len : Nat) (h2 : 2 ≤ len) (h4 : len ≤ 4) :
    Ci l yX7_hasRing wsX7_hasRing rmX7_hasRing D (tyW c) [.ref (b 0), .int (nI len)] (wM b c S J) (fun r J1 => hasPost S J len r J1) (fun J1 => wM b c S J1) := by
  refine Ci.ofZ (lv0 := [(0, .ref (b 0)), (1, .int (nI len))]) (by decide +kernel) rfl (Nat.le_of_ble_eq_true rfl) rfl (fun G K hret => ?_)
  have hof := V_offers hV
  have KEY : ∀ (m : Nat) (pre : List Nat), pre.length + (m + 1) = len → (∀ q, q < pre.length → g0 pre q < S 4 0) → ∀ (z x : Nat) (Jx : St), S 4 0 < x + z → x ≤ S 4 0 → (∀ g, g ≠ 27 → Jx g = J g) → agr (Jx 27) pre → nI (Jx 27 pre.length + 1) = nI x →
      (∀ (l : List Nat) (Jy : St), scan (fmM S len m pre) (S 4 0 - x) x = some l → (∀ g, g ≠ 27 → Jy g = J g) → agr (Jy 27) l → G 0 0 (wM b c S Jy) [(0, .ref (b 0)), (1, .int (nI len))] 58 []) →
      (scan (fmM S len m pre) (S 4 0 - x) x = none → ∀ (Jy : St), (∀ g, g ≠ 27 → Jy g = J g) → agr (Jy 27) pre → G 0 0 (wM b c S Jy) [(0, .ref (b 0)), (1, .int (nI len)), (2, .int (nI pre.length + Int32.ofInt (-1)))] 9 []) →
      G 0 0 (wM b c S Jx) [(0, .ref (b 0)), (1, .int (nI len)), (2, .int (nI pre.length))] 9 [] := by
    intro m
    induction m with
    | zero =>
      intro pre hlen hgN z
      induction z with
      | zero => intro x Jx hz hx; exact absurd hz (by omega)
      | succ z ihz =>
        intro x Jx hz hx ho hag hnx hyes hno
        refine r_iload_n K dX7_hasRing_9 rfl ?_
        refine r_if_lt K 73 dX7_hasRing_10 (by decide) (by omega) (fun h1 => ?_) (fun h1 => ?_)
        ·
          exact (show False by omega).elim
        ·
          refine r_aload_n K dX7_hasRing_13 rfl ?_
          refine r_get K hin_X7_hasRing_7 0 (wM_g0 _ _ _ _) rfl 21 (by decide) (List.mem_of_getElem? (i := 1) rfl) rfl dX7_hasRing_14 ?_
          refine r_iload_n K dX7_hasRing_17 rfl ?_
          refine r_dup2 K dX7_hasRing_18 rfl rfl ?_
          refine r_iald K 17 0 (wM_g17 _ _ _ _) rfl (by omega) (by decide) dX7_hasRing_19 ?_
          refine r_iconst K (nI 1) dX7_hasRing_20 (by decide) ?_
          refine r_iadd K dX7_hasRing_21 ?_
          refine r_top hnx ?_
          refine r_iast K 17 0 (wM_g17 _ _ _ _) rfl (by omega) (by decide) dX7_hasRing_22 (wM_s17 _ _ _ _ _ _) ?_
          refine r_aload_n K dX7_hasRing_23 rfl ?_
          refine r_get K hin_X7_hasRing_7 0 (wM_g0 _ _ _ _) rfl 21 (by decide) (List.mem_of_getElem? (i := 1) rfl) rfl dX7_hasRing_24 ?_
          refine r_iload_n K dX7_hasRing_27 rfl ?_
          refine r_iald K 17 0 (wM_g17 _ _ _ _) rfl (by omega) (by decide) dX7_hasRing_28 ?_
          refine r_top (congrArg nI up_same) ?_
          refine r_aload_n K dX7_hasRing_29 rfl ?_
          refine r_get K hin_X7_hasRing_7 0 (wM_g0 _ _ _ _) rfl 16 (by decide) (List.mem_of_getElem? (i := 2) rfl) rfl dX7_hasRing_30 ?_
          have hf2 := V_b hV 4 0
          refine r_ic_ne K 42 dX7_hasRing_33 (by decide) (by omega) (by omega) (fun h3 => ?_) (fun h3 => ?_)
          ·
            refine r_aload_n K dX7_hasRing_42 rfl ?_
            refine r_iload_n K dX7_hasRing_43 rfl ?_
            refine r_iload_n K dX7_hasRing_44 rfl ?_
            have hx40 : x < 40 := by omega
            refine r_callVs (rest := []) K (c_X7_fits l D b c S (up Jx 27 pre.length x) hV pre pre.length x len rfl (by omega) h2 h4 (fun q hq => (up_nk (by omega)).trans (hag q hq)) up_same (fun q hq => Nat.lt_of_lt_of_le (hgN q hq) hof) hx40) 2 gX7_hasRing_X7_fits rfl (by decide +kernel) rfl (by decide) 0 (wM_g0 _ _ _ _) rfl rfl (Nat.le_of_ble_eq_true rfl) dX7_hasRing_45 rfl rfl ?_
            refine r_if_eqB K 9 dX7_hasRing_48 (by decide) (fun h4 => ?_) (fun h4 => ?_)
            ·
              have hfn : fmM S len 0 pre x = none := by unfold fmM; rw [if_neg (by rw [h4]; decide)]
              have hsc := scan_at (f := fmM S len 0 pre) (show x < S 4 0 by omega) hfn
              exact ihz (x + 1) _ (by omega) (by omega) (fun g hg => (up_ne hg).trans (ho g hg)) (agr_keep hag) (by rw [up_same]) (fun l Jy hs => hyes l Jy (hsc.trans hs)) (fun hs => hno (hsc.trans hs))
            ·
              have hfit := h4
              refine r_iload_n K dX7_hasRing_51 rfl ?_
              refine r_iload_n K dX7_hasRing_52 rfl ?_
              refine r_iconst K (nI 1) dX7_hasRing_53 (by decide) ?_
              refine r_isub K dX7_hasRing_54 (by omega) ?_
              refine r_ic_ne K 60 dX7_hasRing_55 (by decide) (by omega) (by omega) (fun h5 => ?_) (fun h5 => ?_)
              ·
                exact (show False by omega).elim
              ·
                refine r_pick [0, 1] K rfl ?_
                exact hyes (pre ++ [x]) _ (scan_hit (by omega) (by unfold fmM; rw [if_pos hfit]; exact fit_last hL (by omega) (by omega) (by omega) hfit)) (fun g hg => (up_ne hg).trans (ho g hg)) (agr_up hag)
          ·
            refine r_iincR K (lv' := [(0, .ref (b 0)), (1, .int (nI len)), (2, .int (nI pre.length + Int32.ofInt (-1)))]) dX7_hasRing_36 rfl rfl (by decide) rfl ?_
            refine r_goto K 9 dX7_hasRing_39 (by decide) ?_
            exact hno (scan_end (by omega)) _ (fun g hg => (up_ne hg).trans (ho g hg)) (agr_keep hag)
    | succ m ihm =>
      intro pre hlen hgN z
      induction z with
      | zero => intro x Jx hz hx; exact absurd hz (by omega)
      | succ z ihz =>
        intro x Jx hz hx ho hag hnx hyes hno
        refine r_iload_n K dX7_hasRing_9 rfl ?_
        refine r_if_lt K 73 dX7_hasRing_10 (by decide) (by omega) (fun h1 => ?_) (fun h1 => ?_)
        ·
          exact (show False by omega).elim
        ·
          refine r_aload_n K dX7_hasRing_13 rfl ?_
          refine r_get K hin_X7_hasRing_7 0 (wM_g0 _ _ _ _) rfl 21 (by decide) (List.mem_of_getElem? (i := 1) rfl) rfl dX7_hasRing_14 ?_
          refine r_iload_n K dX7_hasRing_17 rfl ?_
          refine r_dup2 K dX7_hasRing_18 rfl rfl ?_
          refine r_iald K 17 0 (wM_g17 _ _ _ _) rfl (by omega) (by decide) dX7_hasRing_19 ?_
          refine r_iconst K (nI 1) dX7_hasRing_20 (by decide) ?_
          refine r_iadd K dX7_hasRing_21 ?_
          refine r_top hnx ?_
          refine r_iast K 17 0 (wM_g17 _ _ _ _) rfl (by omega) (by decide) dX7_hasRing_22 (wM_s17 _ _ _ _ _ _) ?_
          refine r_aload_n K dX7_hasRing_23 rfl ?_
          refine r_get K hin_X7_hasRing_7 0 (wM_g0 _ _ _ _) rfl 21 (by decide) (List.mem_of_getElem? (i := 1) rfl) rfl dX7_hasRing_24 ?_
          refine r_iload_n K dX7_hasRing_27 rfl ?_
          refine r_iald K 17 0 (wM_g17 _ _ _ _) rfl (by omega) (by decide) dX7_hasRing_28 ?_
          refine r_top (congrArg nI up_same) ?_
          refine r_aload_n K dX7_hasRing_29 rfl ?_
          refine r_get K hin_X7_hasRing_7 0 (wM_g0 _ _ _ _) rfl 16 (by decide) (List.mem_of_getElem? (i := 2) rfl) rfl dX7_hasRing_30 ?_
          have hf2 := V_b hV 4 0
          refine r_ic_ne K 42 dX7_hasRing_33 (by decide) (by omega) (by omega) (fun h3 => ?_) (fun h3 => ?_)
          ·
            refine r_aload_n K dX7_hasRing_42 rfl ?_
            refine r_iload_n K dX7_hasRing_43 rfl ?_
            refine r_iload_n K dX7_hasRing_44 rfl ?_
            have hx40 : x < 40 := by omega
            refine r_callVs (rest := []) K (c_X7_fits l D b c S (up Jx 27 pre.length x) hV pre pre.length x len rfl (by omega) h2 h4 (fun q hq => (up_nk (by omega)).trans (hag q hq)) up_same (fun q hq => Nat.lt_of_lt_of_le (hgN q hq) hof) hx40) 2 gX7_hasRing_X7_fits rfl (by decide +kernel) rfl (by decide) 0 (wM_g0 _ _ _ _) rfl rfl (Nat.le_of_ble_eq_true rfl) dX7_hasRing_45 rfl rfl ?_
            refine r_if_eqB K 9 dX7_hasRing_48 (by decide) (fun h4 => ?_) (fun h4 => ?_)
            ·
              have hfn : fmM S len (m + 1) pre x = none := by unfold fmM; rw [if_neg (by rw [h4]; decide)]
              have hsc := scan_at (f := fmM S len (m + 1) pre) (show x < S 4 0 by omega) hfn
              exact ihz (x + 1) _ (by omega) (by omega) (fun g hg => (up_ne hg).trans (ho g hg)) (agr_keep hag) (by rw [up_same]) (fun l Jy hs => hyes l Jy (hsc.trans hs)) (fun hs => hno (hsc.trans hs))
            ·
              have hfit := h4
              refine r_iload_n K dX7_hasRing_51 rfl ?_
              refine r_iload_n K dX7_hasRing_52 rfl ?_
              refine r_iconst K (nI 1) dX7_hasRing_53 (by decide) ?_
              refine r_isub K dX7_hasRing_54 (by omega) ?_
              refine r_ic_ne K 60 dX7_hasRing_55 (by decide) (by omega) (by omega) (fun h5 => ?_) (fun h5 => ?_)
              ·
                refine r_iinc (lv' := [(0, .ref (b 0)), (1, .int (nI len)), (2, .int (nI (pre.length + 1)))]) K dX7_hasRing_60 rfl (nI_1 _) (by decide) rfl ?_
                refine r_aload_n K dX7_hasRing_63 rfl ?_
                refine r_get K hin_X7_hasRing_7 0 (wM_g0 _ _ _ _) rfl 21 (by decide) (List.mem_of_getElem? (i := 1) rfl) rfl dX7_hasRing_64 ?_
                refine r_iload_n K dX7_hasRing_67 rfl ?_
                refine r_iconst K (nI 4294967295) dX7_hasRing_68 (by decide) ?_
                refine r_iast K 17 0 (wM_g17 _ _ _ _) rfl (by omega) (by decide) dX7_hasRing_69 (wM_s17 _ _ _ _ _ _) ?_
                refine r_goto K 9 dX7_hasRing_70 (by decide) ?_
                have hap : (pre ++ [x]).length = pre.length + 1 := app_len
                have hfc : fmM S len (m + 1) pre x = comp S (S 4 0) (m + 1) (pre ++ [x]) := by unfold fmM; rw [if_pos hfit]
                have hcm : scan (fmM S len m (pre ++ [x])) (S 4 0) 0 = comp S (S 4 0) (m + 1) (pre ++ [x]) := comp_M hL (by omega) (by omega) (app_bd hgN (by omega))
                refine r_lv (lv' := [(0, .ref (b 0)), (1, .int (nI len)), (2, .int (nI (pre ++ [x]).length))]) (by rw [hap]) ?_
                refine ihm (pre ++ [x]) (by omega) (app_bd hgN (by omega)) (S 4 0 + 1) 0 _ (by omega) (by omega) (fun g hg => (up_ne hg).trans ((up_ne hg).trans (ho g hg))) (agr_keep2 (agr_up hag) (by omega)) (by rw [hap, up_same]; exact neg1) (fun l Jy hs hoy hly => ?_) (fun hs Jy hoy hly => ?_)
                · rw [Nat.sub_zero] at hs
                  exact hyes l Jy (scan_hit (by omega) (hfc.trans (hcm.symm.trans hs))) hoy hly
                · rw [Nat.sub_zero] at hs
                  have hsc := scan_at (f := fmM S len (m + 1) pre) (show x < S 4 0 by omega) (hfc.trans (hcm.symm.trans hs))
                  refine r_lv (lv' := [(0, .ref (b 0)), (1, .int (nI len)), (2, .int (nI pre.length))]) (by rw [hap, dec_nI]) ?_
                  have hjx : Jy 27 pre.length = x := (hly pre.length (by omega)).trans g0_last
                  exact ihz (x + 1) Jy (by omega) (by omega) hoy (agr_pre hly) (by rw [hjx]) (fun l Jz hs2 => hyes l Jz (hsc.trans hs2)) (fun hs2 => hno (hsc.trans hs2))
              ·
                exact (show False by omega).elim
          ·
            refine r_iincR K (lv' := [(0, .ref (b 0)), (1, .int (nI len)), (2, .int (nI pre.length + Int32.ofInt (-1)))]) dX7_hasRing_36 rfl rfl (by decide) rfl ?_
            refine r_goto K 9 dX7_hasRing_39 (by decide) ?_
            exact hno (scan_end (by omega)) _ (fun g hg => (up_ne hg).trans (ho g hg)) (agr_keep hag)
  refine r_iconst K (nI 0) dX7_hasRing_0 (by decide) ?_
  refine r_istore_n (lv' := [(0, .ref (b 0)), (1, .int (nI len)), (2, .int (nI 0))]) K dX7_hasRing_1 (by decide) rfl ?_
  refine r_aload_n K dX7_hasRing_2 rfl ?_
  refine r_get K hin_X7_hasRing_7 0 (wM_g0 _ _ _ _) rfl 21 (by decide) (List.mem_of_getElem? (i := 1) rfl) rfl dX7_hasRing_3 ?_
  refine r_iconst K (nI 0) dX7_hasRing_6 (by decide) ?_
  refine r_iconst K (nI 4294967295) dX7_hasRing_7 (by decide) ?_
  refine r_iast K 17 0 (wM_g17 _ _ _ _) rfl (by omega) (by decide) dX7_hasRing_8 (wM_s17 _ _ _ _ _ _) ?_
  have hrm : scan (fmM S len (len - 1) []) (S 4 0) 0 = ringL S (S 4 0) len := ring_M hL (by omega) (by omega)
  refine KEY (len - 1) [] (by show 0 + _ = _; omega) (fun q hq => absurd hq (Nat.not_lt_zero q)) (S 4 0 + 1) 0 _ (by omega) (by omega) (fun g hg => up_ne hg) (fun q hq => absurd hq (Nat.not_lt_zero q)) (by show nI (up J 27 0 4294967295 27 0 + 1) = nI 0; rw [up_same]; exact neg1) (fun l Jy hs hoy hly => ?_) (fun hs Jy hoy hly => ?_)
  ·
    rw [Nat.sub_zero] at hs
    refine r_iconst K (nI 1) dX7_hasRing_58 (by decide) ?_
    exact hret 0 0 _ _ _ 1 _ dX7_hasRing_59 (by decide) (has_yes (hrm.symm.trans hs) hoy hly) rfl (Nat.le_of_ble_eq_true rfl) (Nat.le_of_ble_eq_true rfl)
  ·
    rw [Nat.sub_zero] at hs
    refine r_lv (lv' := [(0, .ref (b 0)), (1, .int (nI len)), (2, .int (nI 0 + Int32.ofInt (-1)))]) rfl ?_
    refine r_iload_n K dX7_hasRing_9 rfl ?_
    refine r_if_ltR K 73 dX7_hasRing_10 (by decide) (fun h1 => ?_) (fun h1 => ?_)
    ·
      refine r_iconst K (nI 0) dX7_hasRing_73 (by decide) ?_
      exact hret 0 0 _ _ _ 0 _ dX7_hasRing_74 (by decide) (has_no (hrm.symm.trans hs) hoy) rfl (Nat.le_of_ble_eq_true rfl) (Nat.le_of_ble_eq_true rfl)
    ·
      exact absurd m1_lt h1

def rmX7_first : Room := { frames := 3, cells := 0, slots := 0, locals := 69 }
theorem hin_X7_first_7 : ∀ w ∈ wsX70, w ∈ wsX7_first := fun _ h => List.mem_cons_of_mem _ (List.mem_append_right _ h)
set_option maxHeartbeats 4000000 in
set_option maxRecDepth 100000 in
theorem c_X7_first (l : Launch) (D : va_G) (b : Nat → Nat) (c : Nat → ClassId) (S J : St) (hV : V S) (hL : Lk S) : Ci l yX7_first wsX7_first rmX7_first D (tyW c) [.ref (b 0)] (wM b c S J) (fun r J1 => firstPost S J r J1) (fun J1 => wM b c S J1) := by
  refine Ci.of (lv0 := [(0, .ref (b 0))]) (by decide +kernel) rfl (Nat.le_of_ble_eq_true rfl) rfl (fun G K hret => ?_)
  refine r_aload_n K dX7_first_0 rfl ?_
  refine r_iconst K (nI 2) dX7_first_1 (by decide) ?_
  refine r_callV (rest := []) K (c_X7_hasRing l D b c S J hV hL 2 (by decide) (by decide)) 1 gX7_first_X7_hasRing rfl (by decide +kernel) rfl (by decide) 0 (wM_g0 _ _ _ _) rfl rfl (Nat.le_of_ble_eq_true rfl) dX7_first_2 (fun r J2 hpJ2 => ?_)
  obtain ⟨hrJ2, hoJ2, hlJ2⟩ := hpJ2
  subst hrJ2
  refine r_if_eqB K 12 dX7_first_5 (by decide) (fun h1 => ?_) (fun h1 => ?_)
  ·
    refine r_aload_n K dX7_first_12 rfl ?_
    refine r_iconst K (nI 3) dX7_first_13 (by decide) ?_
    refine r_callV (rest := []) K (c_X7_hasRing l D b c S J2 hV hL 3 (by decide) (by decide)) 1 gX7_first_X7_hasRing rfl (by decide +kernel) rfl (by decide) 0 (wM_g0 _ _ _ _) rfl rfl (Nat.le_of_ble_eq_true rfl) dX7_first_14 (fun r J3 hpJ3 => ?_)
    obtain ⟨hrJ3, hoJ3, hlJ3⟩ := hpJ3
    subst hrJ3
    refine r_if_eqB K 24 dX7_first_17 (by decide) (fun h2 => ?_) (fun h2 => ?_)
    ·
      refine r_aload_n K dX7_first_24 rfl ?_
      refine r_iconst K (nI 4) dX7_first_25 (by decide) ?_
      refine r_callV (rest := []) K (c_X7_hasRing l D b c S J3 hV hL 4 (by decide) (by decide)) 1 gX7_first_X7_hasRing rfl (by decide +kernel) rfl (by decide) 0 (wM_g0 _ _ _ _) rfl rfl (Nat.le_of_ble_eq_true rfl) dX7_first_26 (fun r J4 hpJ4 => ?_)
      obtain ⟨hrJ4, hoJ4, hlJ4⟩ := hpJ4
      subst hrJ4
      refine r_if_eqB K 36 dX7_first_29 (by decide) (fun h3 => ?_) (fun h3 => ?_)
      ·
        refine r_iconst K (nI 0) dX7_first_36 (by decide) ?_
        exact hret 0 0 _ _ _ _ _ dX7_first_37 (first_n (frl_0 (isSome_f h1) (isSome_f h2) (isSome_f h3)) (fun g hg => (hoJ4 g hg).trans ((hoJ3 g hg).trans (hoJ2 g hg)))) rfl (Nat.le_of_ble_eq_true rfl) (Nat.le_of_ble_eq_true rfl)
      ·
        refine r_iconst K (nI 4) dX7_first_32 (by decide) ?_
        refine r_goto K 37 dX7_first_33 (by decide) ?_
        obtain ⟨l', hl'⟩ := isSome_t h3
        exact hret 0 0 _ _ _ _ _ dX7_first_37 (first_y (len := 4) (by decide) hl' (frl_4 (isSome_f h1) (isSome_f h2) hl') (fun g hg => (hoJ4 g hg).trans ((hoJ3 g hg).trans (hoJ2 g hg))) (hlJ4 _ hl')) rfl (Nat.le_of_ble_eq_true rfl) (Nat.le_of_ble_eq_true rfl)
    ·
      refine r_iconst K (nI 3) dX7_first_20 (by decide) ?_
      refine r_goto K 37 dX7_first_21 (by decide) ?_
      obtain ⟨l', hl'⟩ := isSome_t h2
      exact hret 0 0 _ _ _ _ _ dX7_first_37 (first_y (len := 3) (by decide) hl' (frl_3 (isSome_f h1) hl') (fun g hg => (hoJ3 g hg).trans (hoJ2 g hg)) (hlJ3 _ hl')) rfl (Nat.le_of_ble_eq_true rfl) (Nat.le_of_ble_eq_true rfl)
  ·
    refine r_iconst K (nI 2) dX7_first_8 (by decide) ?_
    refine r_goto K 37 dX7_first_9 (by decide) ?_
    obtain ⟨l', hl'⟩ := isSome_t h1
    exact hret 0 0 _ _ _ _ _ dX7_first_37 (first_y (len := 2) (by decide) hl' (frl_2  hl') (fun g hg => hoJ2 g hg) (hlJ2 _ hl')) rfl (Nat.le_of_ble_eq_true rfl) (Nat.le_of_ble_eq_true rfl)

def rmX7_trade : Room := { frames := 4, cells := 0, slots := 0, locals := 89 }
theorem hin_X7_trade_7 : ∀ w ∈ wsX70, w ∈ wsX7_trade := fun _ h => List.mem_cons_of_mem _ (List.mem_append_right _ h)
set_option maxHeartbeats 4000000 in
set_option maxRecDepth 100000 in
theorem c_X7_trade (l : Launch) (D : va_G) (b : Nat → Nat) (c : Nat → ClassId) (S J : St) (hV : V S) (hL : Lk S) : Ci l yX7_trade wsX7_trade rmX7_trade D (tyW c) [.ref (b 0)] (wM b c S J) (fun r (J1 : St) => r = nI (lenO (frl S))) (fun J1 => wM b c (trM S (lstO (frl S)) (lenO (frl S))) J1) := by
  refine Ci.of (lv0 := [(0, .ref (b 0))]) (by decide +kernel) rfl (Nat.le_of_ble_eq_true rfl) rfl (fun G K hret => ?_)
  have hof := V_offers hV
  refine r_aload_n K dX7_trade_0 rfl ?_
  refine r_iconst K (nI 0) dX7_trade_1 (by decide) ?_
  refine r_put K hin_X7_trade_7 tyX7 tyX7_ok nmX7 0 (wM_g0 _ _ _ _) rfl 22 (by decide) (List.mem_of_getElem? (i := 1) rfl) rfl rfl rfl (Nat.le_of_ble_eq_true rfl) dX7_trade_2 (wM_s0_22 _ _ _ _ _) ?_
  refine r_aload_n K dX7_trade_5 rfl ?_
  refine r_callV (rest := []) K (c_X7_first l D b c S (up J 0 0 0) hV hL) 0 gX7_trade_X7_first rfl (by decide +kernel) rfl (by decide) 0 (wM_g0 _ _ _ _) rfl rfl (Nat.le_of_ble_eq_true rfl) dX7_trade_6 (fun r J1 hp => ?_)
  obtain ⟨hr, ho, hl1⟩ := hp
  subst hr
  have hag := agr_lst hl1
  have hgl := frl_bd S
  have hll := lstO_len (frl S)
  have hl4 := frl_len S
  refine r_istore_n (lv' := [(0, .ref (b 0)), (1, .int (nI (lenO (frl S))))]) K dX7_trade_9 (by decide) rfl ?_
  refine r_iconst K (nI 0) dX7_trade_10 (by decide) ?_
  refine r_istore_n (lv' := [(0, .ref (b 0)), (1, .int (nI (lenO (frl S)))), (2, .int (nI 0))]) K dX7_trade_11 (by decide) rfl ?_
  have L1 : ∀ (z : Nat) (i : Nat) (Sx : St), lenO (frl S) < i + z → (i ≤ lenO (frl S)) → (Sx = trM S (lstO (frl S)) i) → (Sx 21 = S 21) → (Sx 24 = S 24) → G 0 0 (wM b c Sx J1) [(0, .ref (b 0)), (1, .int (nI (lenO (frl S)))), (2, .int (nI i))] 12 [] := by
    intro z
    induction z with
    | zero => intro i Sx hz hi hS h21 h24; exact absurd hz (by omega)
    | succ z ih =>
      intro i Sx hz hi hS h21 h24
      refine r_iload_n K dX7_trade_12 rfl ?_
      refine r_iload_n K dX7_trade_13 rfl ?_
      refine r_ic_ge K 77 dX7_trade_14 (by decide) (by omega) (by omega) (fun h2 => ?_) (fun h2 => ?_)
      ·
        refine r_iload_n K dX7_trade_77 rfl ?_
        exact hret 0 0 _ _ _ _ J1 dX7_trade_78 rfl (by rw [hS, show i = lenO (frl S) by omega]) (Nat.le_of_ble_eq_true rfl) (Nat.le_of_ble_eq_true rfl)
      ·
        refine r_aload_n K dX7_trade_17 rfl ?_
        refine r_get K hin_X7_trade_7 0 (wM_g0 _ _ _ _) rfl 21 (by decide) (List.mem_of_getElem? (i := 2) rfl) rfl dX7_trade_18 ?_
        refine r_iload_n K dX7_trade_21 rfl ?_
        refine r_iconst K (nI 1) dX7_trade_22 (by decide) ?_
        refine r_iadd K dX7_trade_23 ?_
        refine r_iload_n K dX7_trade_24 rfl ?_
        refine r_ic_ne K 32 dX7_trade_25 (by decide) (by omega) (by omega) (fun h3 => ?_) (fun h3 => ?_)
        ·
          refine r_iload_n K dX7_trade_32 rfl ?_
          refine r_iconst K (nI 1) dX7_trade_33 (by decide) ?_
          refine r_iadd K dX7_trade_34 ?_
          refine r_iald K 17 0 (wM_g17 _ _ _ _) rfl (by omega) (by decide) dX7_trade_35 ?_
          refine r_top (congrArg nI (hag (i + 1) (by omega))) ?_
          have hg4 := hgl (i + 1) (by omega)
          refine r_istore_n (lv' := [(0, .ref (b 0)), (1, .int (nI (lenO (frl S)))), (2, .int (nI i)), (3, .int (nI (g0 (lstO (frl S)) (i + 1))))]) K dX7_trade_36 (by decide) rfl ?_
          refine r_aload_n K dX7_trade_37 rfl ?_
          refine r_get K hin_X7_trade_7 0 (wM_g0 _ _ _ _) rfl 10 (by decide) (List.mem_of_getElem? (i := 3) rfl) rfl dX7_trade_38 ?_
          refine r_aload_n K dX7_trade_41 rfl ?_
          refine r_get K hin_X7_trade_7 0 (wM_g0 _ _ _ _) rfl 17 (by decide) (List.mem_of_getElem? (i := 4) rfl) rfl dX7_trade_42 ?_
          refine r_aload_n K dX7_trade_45 rfl ?_
          refine r_get K hin_X7_trade_7 0 (wM_g0 _ _ _ _) rfl 21 (by decide) (List.mem_of_getElem? (i := 2) rfl) rfl dX7_trade_46 ?_
          refine r_iload_n K dX7_trade_49 rfl ?_
          refine r_iald K 17 0 (wM_g17 _ _ _ _) rfl (by omega) (by decide) dX7_trade_50 ?_
          refine r_top (congrArg nI (hag i (by omega))) ?_
          have hg5 := hgl i (by omega)
          refine r_iald K 13 0 (wM_g13 _ _ _ _) rfl (by omega) (by decide) dX7_trade_51 ?_
          refine r_top (congrArg nI (congrFun h21 _)) ?_
          have hf6 := V_ocard hV (g0 (lstO (frl S)) i)
          refine r_aload_n K dX7_trade_52 rfl ?_
          refine r_get K hin_X7_trade_7 0 (wM_g0 _ _ _ _) rfl 18 (by decide) (List.mem_of_getElem? (i := 5) rfl) rfl dX7_trade_53 ?_
          refine r_iload_n K dX7_trade_56 rfl ?_
          refine r_iald K 14 0 (wM_g14 _ _ _ _) rfl (by omega) (by decide) dX7_trade_57 ?_
          refine r_top (congrArg nI (congrFun h24 _)) ?_
          have hf7 := V_b hV 24 (g0 (lstO (frl S)) (i + 1))
          refine r_iast K 8 0 (wM_g8 _ _ _ _) rfl (by omega) (by decide) dX7_trade_58 (wM_s8 _ _ _ _ _ _) ?_
          refine r_aload_n K dX7_trade_59 rfl ?_
          refine r_get K hin_X7_trade_7 0 (wM_g0 _ _ _ _) rfl 20 (by decide) (List.mem_of_getElem? (i := 6) rfl) rfl dX7_trade_60 ?_
          refine r_aload_n K dX7_trade_63 rfl ?_
          refine r_get K hin_X7_trade_7 0 (wM_g0 _ _ _ _) rfl 21 (by decide) (List.mem_of_getElem? (i := 2) rfl) rfl dX7_trade_64 ?_
          refine r_iload_n K dX7_trade_67 rfl ?_
          refine r_iald K 17 0 (wM_g17 _ _ _ _) rfl (by omega) (by decide) dX7_trade_68 ?_
          refine r_top (congrArg nI (hag i (by omega))) ?_
          have hg8 := hgl i (by omega)
          refine r_iconst K (nI 1) dX7_trade_69 (by decide) ?_
          refine r_zast K 16 1 (wM_g16 _ _ _ _) rfl (by omega) (by decide) (by decide) dX7_trade_70 (wM_s16 _ _ _ _ _ _) ?_
          refine r_iinc (lv' := [(0, .ref (b 0)), (1, .int (nI (lenO (frl S)))), (2, .int (nI (i + 1))), (3, .int (nI (g0 (lstO (frl S)) (i + 1))))]) K dX7_trade_71 rfl (nI_1 _) (by decide) rfl ?_
          refine r_goto K 12 dX7_trade_74 (by decide) ?_
          refine r_pick [0, 1, 2] K rfl ?_
          exact ih (i + 1) _ (by omega) (by omega) (by rw [trM_s, ← hS, (show nxp (lstO (frl S)) i = i + 1 from if_pos (by omega))]) ((up_ne (by decide)).trans ((up_ne (by decide)).trans h21)) ((up_ne (by decide)).trans ((up_ne (by decide)).trans h24))
        ·
          refine r_iconst K (nI 0) dX7_trade_28 (by decide) ?_
          refine r_goto K 35 dX7_trade_29 (by decide) ?_
          refine r_iald K 17 0 (wM_g17 _ _ _ _) rfl (by omega) (by decide) dX7_trade_35 ?_
          refine r_top (congrArg nI (hag 0 (by omega))) ?_
          have hg9 := hgl 0 (by omega)
          refine r_istore_n (lv' := [(0, .ref (b 0)), (1, .int (nI (lenO (frl S)))), (2, .int (nI i)), (3, .int (nI (g0 (lstO (frl S)) 0)))]) K dX7_trade_36 (by decide) rfl ?_
          refine r_aload_n K dX7_trade_37 rfl ?_
          refine r_get K hin_X7_trade_7 0 (wM_g0 _ _ _ _) rfl 10 (by decide) (List.mem_of_getElem? (i := 3) rfl) rfl dX7_trade_38 ?_
          refine r_aload_n K dX7_trade_41 rfl ?_
          refine r_get K hin_X7_trade_7 0 (wM_g0 _ _ _ _) rfl 17 (by decide) (List.mem_of_getElem? (i := 4) rfl) rfl dX7_trade_42 ?_
          refine r_aload_n K dX7_trade_45 rfl ?_
          refine r_get K hin_X7_trade_7 0 (wM_g0 _ _ _ _) rfl 21 (by decide) (List.mem_of_getElem? (i := 2) rfl) rfl dX7_trade_46 ?_
          refine r_iload_n K dX7_trade_49 rfl ?_
          refine r_iald K 17 0 (wM_g17 _ _ _ _) rfl (by omega) (by decide) dX7_trade_50 ?_
          refine r_top (congrArg nI (hag i (by omega))) ?_
          have hg10 := hgl i (by omega)
          refine r_iald K 13 0 (wM_g13 _ _ _ _) rfl (by omega) (by decide) dX7_trade_51 ?_
          refine r_top (congrArg nI (congrFun h21 _)) ?_
          have hf11 := V_ocard hV (g0 (lstO (frl S)) i)
          refine r_aload_n K dX7_trade_52 rfl ?_
          refine r_get K hin_X7_trade_7 0 (wM_g0 _ _ _ _) rfl 18 (by decide) (List.mem_of_getElem? (i := 5) rfl) rfl dX7_trade_53 ?_
          refine r_iload_n K dX7_trade_56 rfl ?_
          refine r_iald K 14 0 (wM_g14 _ _ _ _) rfl (by omega) (by decide) dX7_trade_57 ?_
          refine r_top (congrArg nI (congrFun h24 _)) ?_
          have hf12 := V_b hV 24 (g0 (lstO (frl S)) 0)
          refine r_iast K 8 0 (wM_g8 _ _ _ _) rfl (by omega) (by decide) dX7_trade_58 (wM_s8 _ _ _ _ _ _) ?_
          refine r_aload_n K dX7_trade_59 rfl ?_
          refine r_get K hin_X7_trade_7 0 (wM_g0 _ _ _ _) rfl 20 (by decide) (List.mem_of_getElem? (i := 6) rfl) rfl dX7_trade_60 ?_
          refine r_aload_n K dX7_trade_63 rfl ?_
          refine r_get K hin_X7_trade_7 0 (wM_g0 _ _ _ _) rfl 21 (by decide) (List.mem_of_getElem? (i := 2) rfl) rfl dX7_trade_64 ?_
          refine r_iload_n K dX7_trade_67 rfl ?_
          refine r_iald K 17 0 (wM_g17 _ _ _ _) rfl (by omega) (by decide) dX7_trade_68 ?_
          refine r_top (congrArg nI (hag i (by omega))) ?_
          have hg13 := hgl i (by omega)
          refine r_iconst K (nI 1) dX7_trade_69 (by decide) ?_
          refine r_zast K 16 1 (wM_g16 _ _ _ _) rfl (by omega) (by decide) (by decide) dX7_trade_70 (wM_s16 _ _ _ _ _ _) ?_
          refine r_iinc (lv' := [(0, .ref (b 0)), (1, .int (nI (lenO (frl S)))), (2, .int (nI (i + 1))), (3, .int (nI (g0 (lstO (frl S)) 0)))]) K dX7_trade_71 rfl (nI_1 _) (by decide) rfl ?_
          refine r_goto K 12 dX7_trade_74 (by decide) ?_
          refine r_pick [0, 1, 2] K rfl ?_
          exact ih (i + 1) _ (by omega) (by omega) (by rw [trM_s, ← hS, (show nxp (lstO (frl S)) i = 0 from if_neg (by omega))]) ((up_ne (by decide)).trans ((up_ne (by decide)).trans h21)) ((up_ne (by decide)).trans ((up_ne (by decide)).trans h24))
  exact L1 (lenO (frl S) + 1) 0 S (by omega) (by omega) rfl rfl rfl

def rmX7_ring : Room := { frames := 4, cells := 0, slots := 0, locals := 89 }
theorem hin_X7_ring_7 : ∀ w ∈ wsX70, w ∈ wsX7_ring := fun _ h => List.mem_cons_of_mem _ (List.mem_append_right _ h)
set_option maxHeartbeats 4000000 in
set_option maxRecDepth 100000 in
theorem c_X7_ring (l : Launch) (D : va_G) (b : Nat → Nat) (c : Nat → ClassId) (S J : St) (hV : V S) (hL : Lk S) (x : Int32) : Ci l yX7_ring wsX7_ring rmX7_ring D (tyW c) [.ref (b 0), .int x] (wM b c S J) (fun r (J1 : St) => mPost (thr (sdB x) (true) (true)) (rgN S (tn x)) r J1) (fun J1 => wM b c S J1) := by
  refine Ci.of (lv0 := [(0, .ref (b 0)), (1, .int x)]) (by decide +kernel) rfl (Nat.le_of_ble_eq_true rfl) rfl (fun G K hret => ?_)
  have hof := V_offers hV
  have HM12 : G 0 0 (wM b c S J) [(0, .ref (b 0)), (1, .int x)] 12 [.int (nI 1), .int (nI 1), .int (nI ((sdB x).toNat)), .ref (b 0)] := by
    refine r_callVs (rest := []) K (c_X7_goes l D b c S J (sdB x) true true) 3 gX7_ring_X7_goes rfl (by decide +kernel) rfl (by decide) 0 (wM_g0 _ _ _ _) rfl rfl (Nat.le_of_ble_eq_true rfl) dX7_ring_12 rfl rfl ?_
    refine r_if_neB K 20 dX7_ring_15 (by decide) (fun h1 => ?_) (fun h1 => ?_)
    ·
      have hth := of_decide_eq_true h1
      obtain ⟨hb1, hb2, hb3⟩ := thr_eq0 hth
      obtain ⟨xk, hxkc, hexk⟩ := sdB_ex hb1
      subst hexk
      refine r_iload_n K dX7_ring_20 rfl ?_
      refine r_aload_n K dX7_ring_21 rfl ?_
      refine r_callV (rest := [.int (nI xk)]) K (c_X7_first l D b c S (up J 0 0 (thr (sdB (nI xk)) true true)) hV hL) 0 gX7_ring_X7_first rfl (by decide +kernel) rfl (by decide) 0 (wM_g0 _ _ _ _) rfl rfl (Nat.le_of_ble_eq_true rfl) dX7_ring_22 (fun r J1 hp => ?_)
      obtain ⟨hr, ho, hl1⟩ := hp
      subst hr
      have hag := agr_lst hl1
      have hgl := frl_bd S
      have hll := lstO_len (frl S)
      have hl4 := frl_len S
      refine r_ic_ge K 37 dX7_ring_25 (by decide) (by omega) (by omega) (fun h2 => ?_) (fun h2 => ?_)
      ·
        refine r_iconst K (-1) dX7_ring_37 (by decide) ?_
        exact hret 0 0 _ _ _ _ _ dX7_ring_38 ⟨((congrFun (ho 0 (by decide)) 0).trans up_same), fun _ => by rw [tn_nI hxkc]; unfold rgN; rw [if_neg (by omega)]⟩ rfl (Nat.le_of_ble_eq_true rfl) (Nat.le_of_ble_eq_true rfl)
      ·
        refine r_aload_n K dX7_ring_28 rfl ?_
        refine r_get K hin_X7_ring_7 0 (wM_g0 _ _ _ _) rfl 21 (by decide) (List.mem_of_getElem? (i := 1) rfl) rfl dX7_ring_29 ?_
        refine r_iload_n K dX7_ring_32 rfl ?_
        refine r_iald K 17 0 (wM_g17 _ _ _ _) rfl (by omega) (by decide) dX7_ring_33 ?_
        refine r_top (congrArg nI (hag xk (by omega))) ?_
        have hg3 := hgl xk (by omega)
        refine r_goto K 38 dX7_ring_34 (by decide) ?_
        exact hret 0 0 _ _ _ _ _ dX7_ring_38 ⟨((congrFun (ho 0 (by decide)) 0).trans up_same), fun _ => by rw [tn_nI hxkc]; unfold rgN; rw [if_pos (by omega)]⟩ rfl (Nat.le_of_ble_eq_true rfl) (Nat.le_of_ble_eq_true rfl)
    ·
      refine r_iconst K (nI 0) dX7_ring_18 (by decide) ?_
      exact hret 0 0 _ _ _ _ _ dX7_ring_19 ⟨up_same, fun q => absurd q (of_decide_eq_false h1)⟩ rfl (Nat.le_of_ble_eq_true rfl) (Nat.le_of_ble_eq_true rfl)
  refine r_aload_n K dX7_ring_0 rfl ?_
  refine r_iload_n K dX7_ring_1 rfl ?_
  refine r_if_ltR K 9 dX7_ring_2 (by decide) (fun h4 => ?_) (fun h4 => ?_)
  ·
    refine r_iconst K (nI 0) dX7_ring_9 (by decide) ?_
    refine r_iconst K (nI 1) dX7_ring_10 (by decide) ?_
    refine r_iconst K (nI 1) dX7_ring_11 (by decide) ?_
    refine r_st (st' := [.int (nI 1), .int (nI 1), .int (nI ((sdB x).toNat)), .ref (b 0)]) (by simp [h4, sdB_f h4]) ?_
    exact HM12
  ·
    refine r_iconst K (nI 1) dX7_ring_5 (by decide) ?_
    refine r_goto K 10 dX7_ring_6 (by decide) ?_
    refine r_iconst K (nI 1) dX7_ring_10 (by decide) ?_
    refine r_iconst K (nI 1) dX7_ring_11 (by decide) ?_
    refine r_st (st' := [.int (nI 1), .int (nI 1), .int (nI ((sdB x).toNat)), .ref (b 0)]) (by simp [h4, sdB_t h4]) ?_
    exact HM12
