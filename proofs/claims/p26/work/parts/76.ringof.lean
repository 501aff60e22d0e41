def rmL_ringOf : Room := { frames := 12, cells := 2000, slots := 12000, locals := 365 }
set_option maxHeartbeats 4000000 in
set_option maxRecDepth 100000 in
theorem c_L_ringOf (l : Launch) (D : va_G) (a b e : Nat → Nat) (c : Nat → ClassId) (hl0 : l.stackTraces = false) (S J K2 U : St) {m : Nat} (hI : Inv m S) (hm : m ≤ 600) (hR : Rel S U) : Li l yL_ringOf wsL_ringOf rmL_ringOf D (tyW c) [.ref (a 0), .ref (e 2), .ref (e 3)] (wW a b e c S J S K2 U []) (fun r (_ : St) => r = nI (lenO (frl S))) (fun u => wW a b e c S u S K2 U []) := by
  refine Li.ofE (lv0 := [(0, .ref (a 0)), (1, .ref (e 2)), (2, .ref (e 3))]) (by decide +kernel) rfl (Nat.le_of_ble_eq_true rfl) rfl (fun G KE hret => ?_)
  have K := KE.ok
  have hV := hI.V hm
  have h25 := hI.2.2.1.lt2
  have hg2 := rel_g2 hR
  have h60 := rel_60 hR
  have ho40 := V_offers hV
  obtain ⟨len, hlen⟩ : ∃ z, z = lenO (frl S) := ⟨_, rfl⟩
  have hl4 := frl_len S
  refine r_iconst K (nI 0) dL_ringOf_0 (by decide) ?_
  refine r_istore_n (lv' := [(0, .ref (a 0)), (1, .ref (e 2)), (2, .ref (e 3)), (3, .int (nI 0))]) K dL_ringOf_1 (by decide) rfl ?_
  have LA1 : ∀ (z2 : Nat) (i : Nat) (k1 : Nat) (n1 : Nat) (J1 : St), S 4 0 - i < z2 → (i ≤ S 4 0) → (k1 ≤ 2 * i) → (n1 ≤ 12 * i) → G k1 n1 (wW a b e c S J1 S K2 U []) [(0, .ref (a 0)), (1, .ref (e 2)), (2, .ref (e 3)), (3, .int (nI i))] 2 [] := by
    intro z2
    induction z2 with
    | zero => intro i k1 n1 J1 hz hi hk1 hn1; exact absurd hz (by omega)
    | succ z2 ih3 =>
      intro i k1 n1 J1 hz hi hk1 hn1
      refine r_iload_n K dL_ringOf_2 rfl ?_
      refine r_aload_n K dL_ringOf_3 rfl ?_
      refine r_iconst K (nI 2) dL_ringOf_4 (by decide) ?_
      refine r_ldZ K 3 (zX_g3 _ _ _ _) (by omega) (by decide) dL_ringOf_5 ?_
      refine r_top (congrArg nI (show _ = S 4 0 from hg2)) ?_
      refine r_ic_ge K 80 dL_ringOf_6 (by decide) (by omega) (by omega) (fun h4 => ?_) (fun h4 => ?_)
      ·
        refine r_iconst K (nI 0) dL_ringOf_80 (by decide) ?_
        refine r_istore_n (lv' := [(0, .ref (a 0)), (1, .ref (e 2)), (2, .ref (e 3)), (3, .int (nI 0))]) K dL_ringOf_81 (by decide) rfl ?_
        have LB5 : ∀ (z6 : Nat) (q : Nat) (k2 : Nat) (n2 : Nat) (J2 : St), 5 - q < z6 → (q ≤ lenO (frl S)) → (k2 ≤ 80 + q) → (n2 ≤ 480 + 6 * q) → G k2 n2 (wW a b e c S J2 S K2 U []) [(0, .ref (a 0)), (1, .ref (e 2)), (2, .ref (e 3)), (3, .int (nI q))] 82 [] := by
          intro z6
          induction z6 with
          | zero => intro q k2 n2 J2 hz hq hk2 hn2; exact absurd hz (by omega)
          | succ z6 ih7 =>
            intro q k2 n2 J2 hz hq hk2 hn2
            refine r_iload_n K dL_ringOf_82 rfl ?_
            refine r_iconst K (nI 5) dL_ringOf_83 (by decide) ?_
            refine r_ic_ge K 101 dL_ringOf_84 (by decide) (by omega) (by decide) (fun h8 => by omega) (fun h8 => ?_)
            refine r_aload_n K dL_ringOf_87 rfl ?_
            refine r_iload_n K dL_ringOf_88 rfl ?_
            refine r_callO (rest := []) KE (w_ring_0 l D a c S hl0 hV  q (by omega)) 2 gL_ringOf_L_ring rfl (by decide +kernel) rfl ⟨⟨Nat.le_of_ble_eq_true rfl, Nat.le_of_ble_eq_true rfl⟩, (by show k2 + 1 ≤ 2000; omega), (by show n2 + 6 ≤ 12000; omega)⟩ rfl (Nat.le_of_ble_eq_true rfl) dL_ringOf_89 (fun J9 => ?_)
            refine r_if_ltR K 101 dL_ringOf_92 (by decide) (fun h10 => ?_) (fun h10 => ?_)
            ·
              refine r_iconst K (nI 0) dL_ringOf_101 (by decide) ?_
              refine r_istore (lv' := [(0, .ref (a 0)), (1, .ref (e 2)), (2, .ref (e 3)), (3, .int (nI q)), (4, .int (nI 0))]) K dL_ringOf_102 (by decide) rfl ?_
              have hql := rg_neg hV h10
              have eq : q = len := by omega
              refine r_lv (lv' := [(0, .ref (a 0)), (1, .ref (e 2)), (2, .ref (e 3)), (3, .int (nI len)), (4, .int (nI 0))]) (by rw [eq]) ?_
              have LC11 : ∀ (z12 : Nat) (r : Nat) (k3 : Nat) (n3 : Nat) (J3 : St), len - r < z12 → (r ≤ len) → (k3 ≤ 90 + 10 * r) → (n3 ≤ 540 + 60 * r) → G k3 n3 (wW a b e c S J3 S K2 U []) [(0, .ref (a 0)), (1, .ref (e 2)), (2, .ref (e 3)), (3, .int (nI len)), (4, .int (nI r))] 104 [] := by
                intro z12
                induction z12 with
                | zero => intro r k3 n3 J3 hz hr hk3 hn3; exact absurd hz (by omega)
                | succ z12 ih13 =>
                  intro r k3 n3 J3 hz hr hk3 hn3
                  refine r_iload K dL_ringOf_104 rfl ?_
                  refine r_iload_n K dL_ringOf_106 rfl ?_
                  refine r_ic_ge K 257 dL_ringOf_107 (by decide) (by omega) (by omega) (fun h14 => ?_) (fun h14 => ?_)
                  ·
                    refine r_iconst K (nI 0) dL_ringOf_257 (by decide) ?_
                    refine r_istore (lv' := [(0, .ref (a 0)), (1, .ref (e 2)), (2, .ref (e 3)), (3, .int (nI len)), (4, .int (nI 0))]) K dL_ringOf_258 (by decide) rfl ?_
                    have HM15 : ∀ (k7 : Nat) (n7 : Nat) (J7 : St), (k7 ≤ 1900) → (n7 ≤ 11400) → G k7 n7 (wW a b e c S J7 S K2 U []) [(0, .ref (a 0)), (1, .ref (e 2)), (2, .ref (e 3)), (3, .int (nI len))] 412 [] := by
                      intro k7 n7 J7 hk7 hn7
                      refine r_iload_n K dL_ringOf_412 rfl ?_
                      refine r_iconst K (nI 1) dL_ringOf_413 (by decide) ?_
                      refine r_ic_eq K 453 dL_ringOf_414 (by decide) (by omega) (by decide) (fun h16 => absurd (hlen.symm.trans h16) (len_ne1 S)) (fun h16 => ?_)
                      refine r_iload_n K dL_ringOf_417 rfl ?_
                      refine r_iconst K (nI 4) dL_ringOf_418 (by decide) ?_
                      refine r_ic_gt K 453 dL_ringOf_419 (by decide) (by omega) (by decide) (fun h17 => by omega) (fun h17 => ?_)
                      refine r_aload_n K dL_ringOf_422 rfl ?_
                      refine r_iconst K (-1) dL_ringOf_423 (by decide) ?_
                      refine r_callO (rest := []) KE (x_ring_1 l D a c S hl0 hV  (-1) (by decide)) 2 gL_ringOf_L_ring rfl (by decide +kernel) rfl ⟨⟨Nat.le_of_ble_eq_true rfl, Nat.le_of_ble_eq_true rfl⟩, (by show k7 + 1 ≤ 2000; omega), (by show n7 + 6 ≤ 12000; omega)⟩ rfl (Nat.le_of_ble_eq_true rfl) dL_ringOf_424 (fun J18 => ?_)
                      refine r_ldc K (v := -1000001) (List.mem_of_getElem? (i := 2) rfl) dL_ringOf_427 ?_
                      refine r_ic_neR K 453 dL_ringOf_429 (by decide) (fun h19 => absurd rfl h19) (fun h19 => ?_)
                      refine r_aload_n K dL_ringOf_432 rfl ?_
                      refine r_iload_n K dL_ringOf_433 rfl ?_
                      refine r_callO (rest := []) KE (w_ring_0 l D a c S hl0 hV  len (by omega)) 2 gL_ringOf_L_ring rfl (by decide +kernel) rfl ⟨⟨Nat.le_of_ble_eq_true rfl, Nat.le_of_ble_eq_true rfl⟩, (by show k7 + 1 + 1 ≤ 2000; omega), (by show n7 + 6 + 6 ≤ 12000; omega)⟩ rfl (Nat.le_of_ble_eq_true rfl) dL_ringOf_434 (fun J20 => ?_)
                      refine r_top (show _ = (-1 : Int32) from rg_out (by omega)) ?_
                      refine r_iconst K (-1) dL_ringOf_437 (by decide) ?_
                      refine r_ic_neR K 453 dL_ringOf_438 (by decide) (fun h21 => absurd rfl h21) (fun h21 => ?_)
                      refine r_aload_n K dL_ringOf_441 rfl ?_
                      refine r_aload_n K dL_ringOf_442 rfl ?_
                      refine r_iconst K (nI 2) dL_ringOf_443 (by decide) ?_
                      refine r_ldZ K 3 (zX_g3 _ _ _ _) (by omega) (by decide) dL_ringOf_444 ?_
                      refine r_top (congrArg nI (show _ = S 4 0 from hg2)) ?_
                      refine r_callO (rest := []) KE (x_isOpen_1 l D a c S hl0 hV h25 (nI (S 4 0)) (inB_big (by omega) (Int32.le_refl _))) 2 gL_ringOf_L_isOpen rfl (by decide +kernel) rfl ⟨⟨Nat.le_of_ble_eq_true rfl, Nat.le_of_ble_eq_true rfl⟩, (by show k7 + 2 + 1 ≤ 2000; omega), (by show n7 + 12 + 6 ≤ 12000; omega)⟩ rfl (Nat.le_of_ble_eq_true rfl) dL_ringOf_445 (fun J22 => ?_)
                      refine r_ldc K (v := -1000001) (List.mem_of_getElem? (i := 2) rfl) dL_ringOf_448 ?_
                      refine r_ic_eqR K 457 dL_ringOf_450 (by decide) (fun h23 => ?_) (fun h23 => absurd rfl h23)
                      refine r_iload_n K dL_ringOf_457 rfl ?_
                      exact hret _ _ _ _ _ (nI len) J22 [] dL_ringOf_458 (by rw [hlen]) (wW_app a b e c S J22 S K2 U _) (by show k7 + 3 ≤ 2000; omega) (by show n7 + 18 ≤ 12000; omega)
                    have LE24 : ∀ (z25 : Nat) (u : Nat) (k8 : Nat) (n8 : Nat) (J8 : St), S 4 0 - u < z25 → (u ≤ S 4 0) → (k8 ≤ 140 + t2 u) → (n8 ≤ 840 + 6 * t2 u) → G k8 n8 (wW a b e c S J8 S K2 U []) [(0, .ref (a 0)), (1, .ref (e 2)), (2, .ref (e 3)), (3, .int (nI len)), (4, .int (nI u))] 260 [] := by
                      intro z25
                      induction z25 with
                      | zero => intro u k8 n8 J8 hz hu hk8 hn8; exact absurd hz (by omega)
                      | succ z25 ih26 =>
                        intro u k8 n8 J8 hz hu hk8 hn8
                        refine r_iload K dL_ringOf_260 rfl ?_
                        have ht2 := t2_le u (by omega)
                        refine r_aload_n K dL_ringOf_262 rfl ?_
                        refine r_iconst K (nI 2) dL_ringOf_263 (by decide) ?_
                        refine r_ldZ K 3 (zX_g3 _ _ _ _) (by omega) (by decide) dL_ringOf_264 ?_
                        refine r_top (congrArg nI (show _ = S 4 0 from hg2)) ?_
                        refine r_ic_ge K 412 dL_ringOf_265 (by decide) (by omega) (by omega) (fun h27 => ?_) (fun h27 => ?_)
                        ·
                          refine r_pick [0, 1, 2, 3] K rfl ?_
                          exact HM15 _ _ _ (by show k8 ≤ _; omega) (by show n8 ≤ _; omega)
                        ·
                          refine r_iload_n K dL_ringOf_268 rfl ?_
                          refine r_iconst K (nI 2) dL_ringOf_269 (by decide) ?_
                          refine r_ic_eq K 412 dL_ringOf_270 (by decide) (by omega) (by decide) (fun h28 => ?_) (fun h28 => ?_)
                          ·
                            refine r_pick [0, 1, 2, 3] K rfl ?_
                            exact HM15 _ _ _ (by show k8 ≤ _; omega) (by show n8 ≤ _; omega)
                          ·
                            refine r_iconst K (nI 0) dL_ringOf_273 (by decide) ?_
                            refine r_istore (lv' := [(0, .ref (a 0)), (1, .ref (e 2)), (2, .ref (e 3)), (3, .int (nI len)), (4, .int (nI u)), (5, .int (nI 0))]) K dL_ringOf_274 (by decide) rfl ?_
                            have hu2 : u < S 4 0 := by omega
                            have hcu := of_card hI hu2
                            obtain ⟨u1, u2, u3, u4, u5⟩ := rel_o hR h25 hu2 hcu
                            have hbu := h25 u
                            have hu16 := rel_no_le hR hcu
                            have hu15 := V_kind hV (S 21 u)
                            have LF29 : ∀ (z30 : Nat) (v : Nat) (k9 : Nat) (n9 : Nat) (J9 : St), u - v < z30 → (v ≤ u) → (k9 ≤ 140 + t2 u + 2 * v) → (n9 ≤ 840 + 6 * t2 u + 12 * v) → G k9 n9 (wW a b e c S J9 S K2 U []) [(0, .ref (a 0)), (1, .ref (e 2)), (2, .ref (e 3)), (3, .int (nI len)), (4, .int (nI u)), (5, .int (nI v))] 276 [] := by
                              intro z30
                              induction z30 with
                              | zero => intro v k9 n9 J9 hz hv hk9 hn9; exact absurd hz (by omega)
                              | succ z30 ih31 =>
                                intro v k9 n9 J9 hz hv hk9 hn9
                                refine r_iload K dL_ringOf_276 rfl ?_
                                refine r_iload K dL_ringOf_278 rfl ?_
                                refine r_ic_ge K 406 dL_ringOf_280 (by decide) (by omega) (by omega) (fun h32 => ?_) (fun h32 => ?_)
                                ·
                                  refine r_iinc (lv' := [(0, .ref (a 0)), (1, .ref (e 2)), (2, .ref (e 3)), (3, .int (nI len)), (4, .int (nI (u + 1))), (5, .int (nI v))]) K dL_ringOf_406 rfl (nI_1 _) (by decide) rfl ?_
                                  refine r_goto K 260 dL_ringOf_409 (by decide) ?_
                                  refine r_pick [0, 1, 2, 3, 4] K rfl ?_
                                  exact ih26 (u + 1) _ _ _ (by omega) (by omega) (by show k9 ≤ _; rw [t2_s]; omega) (by show n9 ≤ _; rw [t2_s]; omega)
                                ·
                                  have hv2 : v < S 4 0 := by omega
                                  have hcv := of_card hI hv2
                                  obtain ⟨v1, v2, v3, v4, v5⟩ := rel_o hR h25 hv2 hcv
                                  have hbv := h25 v
                                  have hv16 := rel_no_le hR hcv
                                  have hv15 := V_kind hV (S 21 v)
                                  have b24a := V_b hV 24 u
                                  have b24b := V_b hV 24 v
                                  have b23a := V_b hV 23 u
                                  have b23b := V_b hV 23 v
                                  refine r_aload_n K dL_ringOf_283 rfl ?_
                                  refine r_iload K dL_ringOf_284 rfl ?_
                                  refine r_ldZ K 2 (zX_g2 _ _ _ _) (by omega) (by decide) dL_ringOf_286 ?_
                                  refine r_ldc K (v := nI 65536) (List.mem_of_getElem? (i := 1) rfl) dL_ringOf_287 ?_
                                  refine r_idiv K dL_ringOf_289 (by omega) (by omega) (by omega) ?_
                                  refine r_top (congrArg nI (show _ = 1 - S 25 u from u1)) ?_
                                  refine r_if_ne K 332 dL_ringOf_290 (by decide) (by omega) (fun h33 => ?_) (fun h33 => ?_)
                                  ·
                                    refine r_iconst K (nI 0) dL_ringOf_332 (by decide) ?_
                                    refine r_istore (lv' := [(0, .ref (a 0)), (1, .ref (e 2)), (2, .ref (e 3)), (3, .int (nI len)), (4, .int (nI u)), (5, .int (nI v)), (6, .int (nI 0))]) K dL_ringOf_333 (by decide) rfl ?_
                                    refine r_iload K dL_ringOf_335 rfl ?_
                                    refine r_if_eq K 400 dL_ringOf_337 (by decide) (by decide) (fun h35 => ?_) (fun h35 => absurd h35 (by decide))
                                    refine r_iinc (lv' := [(0, .ref (a 0)), (1, .ref (e 2)), (2, .ref (e 3)), (3, .int (nI len)), (4, .int (nI u)), (5, .int (nI (v + 1))), (6, .int (nI 0))]) K dL_ringOf_400 rfl (nI_1 _) (by decide) rfl ?_
                                    refine r_goto K 276 dL_ringOf_403 (by decide) ?_
                                    refine r_pick [0, 1, 2, 3, 4, 5] K rfl ?_
                                    exact ih31 (v + 1) _ _ _ (by omega) (by omega) (by show k9 ≤ _; omega) (by show n9 ≤ _; omega)
                                  ·
                                    refine r_aload_n K dL_ringOf_293 rfl ?_
                                    refine r_iload K dL_ringOf_294 rfl ?_
                                    refine r_ldZ K 2 (zX_g2 _ _ _ _) (by omega) (by decide) dL_ringOf_296 ?_
                                    refine r_ldc K (v := nI 65536) (List.mem_of_getElem? (i := 1) rfl) dL_ringOf_297 ?_
                                    refine r_idiv K dL_ringOf_299 (by omega) (by omega) (by omega) ?_
                                    refine r_top (congrArg nI (show _ = 1 - S 25 v from v1)) ?_
                                    refine r_if_ne K 332 dL_ringOf_300 (by decide) (by omega) (fun h36 => ?_) (fun h36 => ?_)
                                    ·
                                      refine r_iconst K (nI 0) dL_ringOf_332 (by decide) ?_
                                      refine r_istore (lv' := [(0, .ref (a 0)), (1, .ref (e 2)), (2, .ref (e 3)), (3, .int (nI len)), (4, .int (nI u)), (5, .int (nI v)), (6, .int (nI 0))]) K dL_ringOf_333 (by decide) rfl ?_
                                      refine r_iload K dL_ringOf_335 rfl ?_
                                      refine r_if_eq K 400 dL_ringOf_337 (by decide) (by decide) (fun h38 => ?_) (fun h38 => absurd h38 (by decide))
                                      refine r_iinc (lv' := [(0, .ref (a 0)), (1, .ref (e 2)), (2, .ref (e 3)), (3, .int (nI len)), (4, .int (nI u)), (5, .int (nI (v + 1))), (6, .int (nI 0))]) K dL_ringOf_400 rfl (nI_1 _) (by decide) rfl ?_
                                      refine r_goto K 276 dL_ringOf_403 (by decide) ?_
                                      refine r_pick [0, 1, 2, 3, 4, 5] K rfl ?_
                                      exact ih31 (v + 1) _ _ _ (by omega) (by omega) (by show k9 ≤ _; omega) (by show n9 ≤ _; omega)
                                    ·
                                      refine r_aload_n K dL_ringOf_303 rfl ?_
                                      refine r_iload K dL_ringOf_304 rfl ?_
                                      refine r_ldZ K 2 (zX_g2 _ _ _ _) (by omega) (by decide) dL_ringOf_306 ?_
                                      refine r_sipush K (nI 4096) dL_ringOf_307 (by decide) ?_
                                      refine r_idiv K dL_ringOf_310 (by omega) (by omega) (by omega) ?_
                                      refine r_bipush K (nI 16) dL_ringOf_311 (by decide) ?_
                                      refine r_irem K dL_ringOf_313 (by omega) (by omega) (by omega) ?_
                                      refine r_top (congrArg nI (show _ = S 24 u from u3)) ?_
                                      refine r_aload_n K dL_ringOf_314 rfl ?_
                                      refine r_iload K dL_ringOf_315 rfl ?_
                                      refine r_ldZ K 2 (zX_g2 _ _ _ _) (by omega) (by decide) dL_ringOf_317 ?_
                                      refine r_sipush K (nI 4096) dL_ringOf_318 (by decide) ?_
                                      refine r_idiv K dL_ringOf_321 (by omega) (by omega) (by omega) ?_
                                      refine r_bipush K (nI 16) dL_ringOf_322 (by decide) ?_
                                      refine r_irem K dL_ringOf_324 (by omega) (by omega) (by omega) ?_
                                      refine r_top (congrArg nI (show _ = S 24 v from v3)) ?_
                                      refine r_ic_eq K 332 dL_ringOf_325 (by decide) (by omega) (by omega) (fun h39 => ?_) (fun h39 => ?_)
                                      ·
                                        refine r_iconst K (nI 0) dL_ringOf_332 (by decide) ?_
                                        refine r_istore (lv' := [(0, .ref (a 0)), (1, .ref (e 2)), (2, .ref (e 3)), (3, .int (nI len)), (4, .int (nI u)), (5, .int (nI v)), (6, .int (nI 0))]) K dL_ringOf_333 (by decide) rfl ?_
                                        refine r_iload K dL_ringOf_335 rfl ?_
                                        refine r_if_eq K 400 dL_ringOf_337 (by decide) (by decide) (fun h41 => ?_) (fun h41 => absurd h41 (by decide))
                                        refine r_iinc (lv' := [(0, .ref (a 0)), (1, .ref (e 2)), (2, .ref (e 3)), (3, .int (nI len)), (4, .int (nI u)), (5, .int (nI (v + 1))), (6, .int (nI 0))]) K dL_ringOf_400 rfl (nI_1 _) (by decide) rfl ?_
                                        refine r_goto K 276 dL_ringOf_403 (by decide) ?_
                                        refine r_pick [0, 1, 2, 3, 4, 5] K rfl ?_
                                        exact ih31 (v + 1) _ _ _ (by omega) (by omega) (by show k9 ≤ _; omega) (by show n9 ≤ _; omega)
                                      ·
                                        refine r_iconst K (nI 1) dL_ringOf_328 (by decide) ?_
                                        refine r_goto K 333 dL_ringOf_329 (by decide) ?_
                                        refine r_istore (lv' := [(0, .ref (a 0)), (1, .ref (e 2)), (2, .ref (e 3)), (3, .int (nI len)), (4, .int (nI u)), (5, .int (nI v)), (6, .int (nI 1))]) K dL_ringOf_333 (by decide) rfl ?_
                                        refine r_iload K dL_ringOf_335 rfl ?_
                                        refine r_if_eq K 400 dL_ringOf_337 (by decide) (by decide) (fun h43 => absurd h43 (by decide)) (fun h43 => ?_)
                                        refine r_aload_n K dL_ringOf_340 rfl ?_
                                        refine r_aload_n K dL_ringOf_341 rfl ?_
                                        refine r_iload K dL_ringOf_342 rfl ?_
                                        refine r_ldZ K 2 (zX_g2 _ _ _ _) (by omega) (by decide) dL_ringOf_344 ?_
                                        refine r_sipush K (nI 128) dL_ringOf_345 (by decide) ?_
                                        refine r_irem K dL_ringOf_348 (by omega) (by omega) (by omega) ?_
                                        refine r_top (congrArg nI (show _ = S 21 u from u2)) ?_
                                        refine r_callO (rest := []) KE (w_printOf_0 l D a c S hl0 hV  (S 21 u) (by omega)) 2 gL_ringOf_L_printOf rfl (by decide +kernel) rfl ⟨⟨Nat.le_of_ble_eq_true rfl, Nat.le_of_ble_eq_true rfl⟩, (by show k9 + 1 ≤ 2000; omega), (by show n9 + 6 ≤ 12000; omega)⟩ rfl (Nat.le_of_ble_eq_true rfl) dL_ringOf_349 (fun J44 => ?_)
                                        refine r_bipush K (nI 100) dL_ringOf_352 (by decide) ?_
                                        refine r_idiv K dL_ringOf_354 (by omega) (by omega) (by omega) ?_
                                        refine r_top (congrArg nI (show _ = S 15 (S 21 u) from (by omega))) ?_
                                        refine r_aload_n K dL_ringOf_355 rfl ?_
                                        refine r_iload K dL_ringOf_356 rfl ?_
                                        refine r_ldZ K 2 (zX_g2 _ _ _ _) (by omega) (by decide) dL_ringOf_358 ?_
                                        refine r_sipush K (nI 128) dL_ringOf_359 (by decide) ?_
                                        refine r_idiv K dL_ringOf_362 (by omega) (by omega) (by omega) ?_
                                        refine r_bipush K (nI 32) dL_ringOf_363 (by decide) ?_
                                        refine r_irem K dL_ringOf_365 (by omega) (by omega) (by omega) ?_
                                        refine r_top (congrArg nI (show _ = S 23 v from v4)) ?_
                                        refine r_ic_ne K 400 dL_ringOf_366 (by decide) (by omega) (by omega) (fun h45 => ?_) (fun h45 => ?_)
                                        ·
                                          refine r_iinc (lv' := [(0, .ref (a 0)), (1, .ref (e 2)), (2, .ref (e 3)), (3, .int (nI len)), (4, .int (nI u)), (5, .int (nI (v + 1))), (6, .int (nI 1))]) K dL_ringOf_400 rfl (nI_1 _) (by decide) rfl ?_
                                          refine r_goto K 276 dL_ringOf_403 (by decide) ?_
                                          refine r_pick [0, 1, 2, 3, 4, 5] K rfl ?_
                                          exact ih31 (v + 1) _ _ _ (by omega) (by omega) (by show k9 + 1 ≤ _; omega) (by show n9 + 6 ≤ _; omega)
                                        ·
                                          refine r_aload_n K dL_ringOf_369 rfl ?_
                                          refine r_aload_n K dL_ringOf_370 rfl ?_
                                          refine r_iload K dL_ringOf_371 rfl ?_
                                          refine r_ldZ K 2 (zX_g2 _ _ _ _) (by omega) (by decide) dL_ringOf_373 ?_
                                          refine r_sipush K (nI 128) dL_ringOf_374 (by decide) ?_
                                          refine r_irem K dL_ringOf_377 (by omega) (by omega) (by omega) ?_
                                          refine r_top (congrArg nI (show _ = S 21 v from v2)) ?_
                                          refine r_callO (rest := []) KE (w_printOf_0 l D a c S hl0 hV  (S 21 v) (by omega)) 2 gL_ringOf_L_printOf rfl (by decide +kernel) rfl ⟨⟨Nat.le_of_ble_eq_true rfl, Nat.le_of_ble_eq_true rfl⟩, (by show k9 + 1 + 1 ≤ 2000; omega), (by show n9 + 6 + 6 ≤ 12000; omega)⟩ rfl (Nat.le_of_ble_eq_true rfl) dL_ringOf_378 (fun J46 => ?_)
                                          refine r_bipush K (nI 100) dL_ringOf_381 (by decide) ?_
                                          refine r_idiv K dL_ringOf_383 (by omega) (by omega) (by omega) ?_
                                          refine r_top (congrArg nI (show _ = S 15 (S 21 v) from (by omega))) ?_
                                          refine r_aload_n K dL_ringOf_384 rfl ?_
                                          refine r_iload K dL_ringOf_385 rfl ?_
                                          refine r_ldZ K 2 (zX_g2 _ _ _ _) (by omega) (by decide) dL_ringOf_387 ?_
                                          refine r_sipush K (nI 128) dL_ringOf_388 (by decide) ?_
                                          refine r_idiv K dL_ringOf_391 (by omega) (by omega) (by omega) ?_
                                          refine r_bipush K (nI 32) dL_ringOf_392 (by decide) ?_
                                          refine r_irem K dL_ringOf_394 (by omega) (by omega) (by omega) ?_
                                          refine r_top (congrArg nI (show _ = S 23 u from u4)) ?_
                                          refine r_ic_ne K 400 dL_ringOf_395 (by decide) (by omega) (by omega) (fun h47 => ?_) (fun h47 => absurd (of_kind hI hu2 |>.trans h45) (two_no (by omega) (show v < u by omega) hu2 (by omega) (by omega) (fun q => h39 q.symm) (of_kind hI hv2 |>.trans h47)))
                                          refine r_iinc (lv' := [(0, .ref (a 0)), (1, .ref (e 2)), (2, .ref (e 3)), (3, .int (nI len)), (4, .int (nI u)), (5, .int (nI (v + 1))), (6, .int (nI 1))]) K dL_ringOf_400 rfl (nI_1 _) (by decide) rfl ?_
                                          refine r_goto K 276 dL_ringOf_403 (by decide) ?_
                                          refine r_pick [0, 1, 2, 3, 4, 5] K rfl ?_
                                          exact ih31 (v + 1) _ _ _ (by omega) (by omega) (by show k9 + 2 ≤ _; omega) (by show n9 + 12 ≤ _; omega)
                            exact LF29 41 0 _ _ _ (by omega) (Nat.zero_le _) (by show k8 ≤ _; omega) (by show n8 ≤ _; omega)
                    exact LE24 41 0 _ _ _ (by omega) (Nat.zero_le _) (by show k3 ≤ 140 + 0; omega) (by show n3 ≤ 840 + 6 * 0; omega)
                  ·
                    have hr2 : r < lenO (frl S) := by omega
                    have hnx := nxp_lt hr2
                    have hlt1 := lr_lt hr2
                    have hlt2 := lr_lt hnx
                    have hlv1 := lr_live hr2
                    have hlow := lr_low hr2
                    have hb1 := h25 (lr S r)
                    have hc1 := of_card hI hlt1
                    have hc2 := of_card hI hlt2
                    obtain ⟨c1, c2, c3, c4, c5⟩ := rel_o hR h25 hlt1 hc1
                    obtain ⟨d1, d2, d3, d4, d5⟩ := rel_o hR h25 hlt2 hc2
                    have hgv := lr_give hr2
                    rw [of_kind hI hlt1] at hgv
                    have h16 := rel_no_le hR hc1
                    have h15 := V_kind hV (S 21 (lr S r))
                    have hll : (lstO (frl S)).length = lenO (frl S) := lstO_len _
                    refine r_aload_n K dL_ringOf_110 rfl ?_
                    refine r_iload K dL_ringOf_111 rfl ?_
                    refine r_callO (rest := []) KE (w_ring_0 l D a c S hl0 hV  r (by omega)) 2 gL_ringOf_L_ring rfl (by decide +kernel) rfl ⟨⟨Nat.le_of_ble_eq_true rfl, Nat.le_of_ble_eq_true rfl⟩, (by show k3 + 1 ≤ 2000; omega), (by show n3 + 6 ≤ 12000; omega)⟩ rfl (Nat.le_of_ble_eq_true rfl) dL_ringOf_113 (fun J48 => ?_)
                    refine r_top (show _ = nI (lr S r) from rg_in hr2) ?_
                    refine r_istore (lv' := [(0, .ref (a 0)), (1, .ref (e 2)), (2, .ref (e 3)), (3, .int (nI len)), (4, .int (nI r)), (5, .int (nI (lr S r)))]) K dL_ringOf_116 (by decide) rfl ?_
                    have HM49 : ∀ (k4 : Nat) (n4 : Nat) (J4 : St), (k4 ≤ 90 + 10 * r + 1) → (n4 ≤ 540 + 60 * r + 6) → G k4 n4 (wW a b e c S J4 S K2 U []) [(0, .ref (a 0)), (1, .ref (e 2)), (2, .ref (e 3)), (3, .int (nI len)), (4, .int (nI r)), (5, .int (nI (lr S r)))] 135 [.int (nI (nxp (lstO (frl S)) r)), .ref (a 0)] := by
                      intro k4 n4 J4 hk4 hn4
                      refine r_callO (rest := []) KE (w_ring_0 l D a c S hl0 hV  (nxp (lstO (frl S)) r) (by omega)) 2 gL_ringOf_L_ring rfl (by decide +kernel) rfl ⟨⟨Nat.le_of_ble_eq_true rfl, Nat.le_of_ble_eq_true rfl⟩, (by show k4 + 1 ≤ 2000; omega), (by show n4 + 6 ≤ 12000; omega)⟩ rfl (Nat.le_of_ble_eq_true rfl) dL_ringOf_135 (fun J50 => ?_)
                      refine r_top (show _ = nI (lr S (nxp (lstO (frl S)) r)) from rg_in hnx) ?_
                      refine r_istore (lv' := [(0, .ref (a 0)), (1, .ref (e 2)), (2, .ref (e 3)), (3, .int (nI len)), (4, .int (nI r)), (5, .int (nI (lr S r))), (6, .int (nI (lr S (nxp (lstO (frl S)) r))))]) K dL_ringOf_138 (by decide) rfl ?_
                      refine r_iload K dL_ringOf_140 rfl ?_
                      refine r_aload_n K dL_ringOf_142 rfl ?_
                      refine r_iconst K (nI 2) dL_ringOf_143 (by decide) ?_
                      refine r_ldZ K 3 (zX_g3 _ _ _ _) (by omega) (by decide) dL_ringOf_144 ?_
                      refine r_top (congrArg nI (show _ = S 4 0 from hg2)) ?_
                      refine r_ic_ge K 202 dL_ringOf_145 (by decide) (by omega) (by omega) (fun h51 => by omega) (fun h51 => ?_)
                      refine r_aload_n K dL_ringOf_148 rfl ?_
                      refine r_iload K dL_ringOf_149 rfl ?_
                      refine r_callO (rest := []) KE (w_isOpen_0 l D a c S hl0 hV h25 (lr S r) (by omega)) 2 gL_ringOf_L_isOpen rfl (by decide +kernel) rfl ⟨⟨Nat.le_of_ble_eq_true rfl, Nat.le_of_ble_eq_true rfl⟩, (by show k4 + 1 + 1 ≤ 2000; omega), (by show n4 + 6 + 6 ≤ 12000; omega)⟩ rfl (Nat.le_of_ble_eq_true rfl) dL_ringOf_151 (fun J52 => ?_)
                      refine r_iconst K (nI 1) dL_ringOf_154 (by decide) ?_
                      refine r_ic_ne K 202 dL_ringOf_155 (by decide) (by omega) (by decide) (fun h53 => by omega) (fun h53 => ?_)
                      have HM54 : ∀ (k5 : Nat) (n5 : Nat) (J5 : St), (k5 ≤ 90 + 10 * r + 4) → (n5 ≤ 540 + 60 * r + 24) → G k5 n5 (wW a b e c S J5 S K2 U []) [(0, .ref (a 0)), (1, .ref (e 2)), (2, .ref (e 3)), (3, .int (nI len)), (4, .int (nI r)), (5, .int (nI (lr S r))), (6, .int (nI (lr S (nxp (lstO (frl S)) r))))] 173 [] := by
                        intro k5 n5 J5 hk5 hn5
                        refine r_aload_n K dL_ringOf_173 rfl ?_
                        refine r_aload_n K dL_ringOf_174 rfl ?_
                        refine r_iload K dL_ringOf_175 rfl ?_
                        refine r_ldZ K 2 (zX_g2 _ _ _ _) (by omega) (by decide) dL_ringOf_177 ?_
                        refine r_sipush K (nI 128) dL_ringOf_178 (by decide) ?_
                        refine r_irem K dL_ringOf_181 (by omega) (by omega) (by omega) ?_
                        refine r_top (congrArg nI (show _ = S 21 (lr S r) from c2)) ?_
                        refine r_callO (rest := []) KE (w_printOf_0 l D a c S hl0 hV  (S 21 (lr S r)) (by omega)) 2 gL_ringOf_L_printOf rfl (by decide +kernel) rfl ⟨⟨Nat.le_of_ble_eq_true rfl, Nat.le_of_ble_eq_true rfl⟩, (by show k5 + 1 ≤ 2000; omega), (by show n5 + 6 ≤ 12000; omega)⟩ rfl (Nat.le_of_ble_eq_true rfl) dL_ringOf_182 (fun J55 => ?_)
                        refine r_bipush K (nI 100) dL_ringOf_185 (by decide) ?_
                        refine r_idiv K dL_ringOf_187 (by omega) (by omega) (by omega) ?_
                        refine r_top (congrArg nI (show _ = S 15 (S 21 (lr S r)) from (by omega))) ?_
                        refine r_aload_n K dL_ringOf_188 rfl ?_
                        refine r_iload K dL_ringOf_189 rfl ?_
                        refine r_ldZ K 2 (zX_g2 _ _ _ _) (by omega) (by decide) dL_ringOf_191 ?_
                        refine r_sipush K (nI 128) dL_ringOf_192 (by decide) ?_
                        refine r_idiv K dL_ringOf_195 (by omega) (by omega) (by omega) ?_
                        refine r_bipush K (nI 32) dL_ringOf_196 (by decide) ?_
                        refine r_irem K dL_ringOf_198 (by omega) (by omega) (by omega) ?_
                        refine r_top (congrArg nI (show _ = S 23 (lr S (nxp (lstO (frl S)) r)) from d4)) ?_
                        refine r_ic_eq K 204 dL_ringOf_199 (by decide) (by omega) (by omega) (fun h56 => ?_) (fun h56 => by omega)
                        refine r_iconst K (nI 0) dL_ringOf_204 (by decide) ?_
                        refine r_istore (lv' := [(0, .ref (a 0)), (1, .ref (e 2)), (2, .ref (e 3)), (3, .int (nI len)), (4, .int (nI r)), (5, .int (nI (lr S r))), (6, .int (nI (lr S (nxp (lstO (frl S)) r)))), (7, .int (nI 0))]) K dL_ringOf_205 (by decide) rfl ?_
                        have LD57 : ∀ (z58 : Nat) (v : Nat) (k6 : Nat) (n6 : Nat) (J6 : St), 5 - v < z58 → (v ≤ r) → (k6 ≤ 90 + 10 * r + 5 + v) → (n6 ≤ 540 + 60 * r + 30 + 6 * v) → G k6 n6 (wW a b e c S J6 S K2 U []) [(0, .ref (a 0)), (1, .ref (e 2)), (2, .ref (e 3)), (3, .int (nI len)), (4, .int (nI r)), (5, .int (nI (lr S r))), (7, .int (nI v))] 207 [] := by
                          intro z58
                          induction z58 with
                          | zero => intro v k6 n6 J6 hz hv hk6 hn6; exact absurd hz (by omega)
                          | succ z58 ih59 =>
                            intro v k6 n6 J6 hz hv hk6 hn6
                            refine r_iload K dL_ringOf_207 rfl ?_
                            refine r_iload K dL_ringOf_209 rfl ?_
                            refine r_ic_ge K 251 dL_ringOf_211 (by decide) (by omega) (by omega) (fun h60 => ?_) (fun h60 => ?_)
                            ·
                              refine r_iinc (lv' := [(0, .ref (a 0)), (1, .ref (e 2)), (2, .ref (e 3)), (3, .int (nI len)), (4, .int (nI (r + 1))), (5, .int (nI (lr S r))), (7, .int (nI v))]) K dL_ringOf_251 rfl (nI_1 _) (by decide) rfl ?_
                              refine r_goto K 104 dL_ringOf_254 (by decide) ?_
                              refine r_pick [0, 1, 2, 3, 4] K rfl ?_
                              exact ih13 (r + 1) _ _ _ (by omega) (by omega) (by show k6 ≤ _; omega) (by show n6 ≤ _; omega)
                            ·
                              have hv2 : v < lenO (frl S) := by omega
                              have hlt3 := lr_lt hv2
                              have hc3 := of_card hI hlt3
                              obtain ⟨f1, f2, f3, f4, f5⟩ := rel_o hR h25 hlt3 hc3
                              have hdi := lr_dist (show v < r by omega) hr2
                              refine r_aload_n K dL_ringOf_214 rfl ?_
                              refine r_iload K dL_ringOf_215 rfl ?_
                              refine r_ldZ K 2 (zX_g2 _ _ _ _) (by omega) (by decide) dL_ringOf_217 ?_
                              refine r_sipush K (nI 4096) dL_ringOf_218 (by decide) ?_
                              refine r_idiv K dL_ringOf_221 (by omega) (by omega) (by omega) ?_
                              refine r_bipush K (nI 16) dL_ringOf_222 (by decide) ?_
                              refine r_irem K dL_ringOf_224 (by omega) (by omega) (by omega) ?_
                              refine r_top (congrArg nI (show _ = S 24 (lr S r) from c3)) ?_
                              refine r_aload_n K dL_ringOf_225 rfl ?_
                              refine r_aload_n K dL_ringOf_226 rfl ?_
                              refine r_iload K dL_ringOf_227 rfl ?_
                              refine r_callO (rest := [.ref (e 2), .int (nI (S 24 (lr S r)))]) KE (w_ring_0 l D a c S hl0 hV  v (by omega)) 2 gL_ringOf_L_ring rfl (by decide +kernel) rfl ⟨⟨Nat.le_of_ble_eq_true rfl, Nat.le_of_ble_eq_true rfl⟩, (by show k6 + 1 ≤ 2000; omega), (by show n6 + 6 ≤ 12000; omega)⟩ rfl (Nat.le_of_ble_eq_true rfl) dL_ringOf_229 (fun J61 => ?_)
                              refine r_top (show _ = nI (lr S v) from rg_in (by omega)) ?_
                              refine r_ldZ K 2 (zX_g2 _ _ _ _) (by omega) (by decide) dL_ringOf_232 ?_
                              refine r_sipush K (nI 4096) dL_ringOf_233 (by decide) ?_
                              refine r_idiv K dL_ringOf_236 (by omega) (by omega) (by omega) ?_
                              refine r_bipush K (nI 16) dL_ringOf_237 (by decide) ?_
                              refine r_irem K dL_ringOf_239 (by omega) (by omega) (by omega) ?_
                              refine r_top (congrArg nI (show _ = S 24 (lr S v) from f3)) ?_
                              have b24a := V_b hV 24 (lr S r)
                              have b24b := V_b hV 24 (lr S v)
                              refine r_ic_ne K 245 dL_ringOf_240 (by decide) (by omega) (by omega) (fun h62 => ?_) (fun h62 => absurd h62.symm hdi)
                              refine r_iinc (lv' := [(0, .ref (a 0)), (1, .ref (e 2)), (2, .ref (e 3)), (3, .int (nI len)), (4, .int (nI r)), (5, .int (nI (lr S r))), (7, .int (nI (v + 1)))]) K dL_ringOf_245 rfl (nI_1 _) (by decide) rfl ?_
                              refine r_goto K 207 dL_ringOf_248 (by decide) ?_
                              exact ih59 (v + 1) _ _ _ (by omega) (by omega) (by show k6 + 1 ≤ _; omega) (by show n6 + 6 ≤ _; omega)
                        refine r_pick [0, 1, 2, 3, 4, 5, 7] K rfl ?_
                        exact LD57 6 0 _ _ _ (by omega) (Nat.zero_le _) (by show k5 + 1 ≤ _; omega) (by show n5 + 6 ≤ _; omega)
                      refine r_iload K dL_ringOf_158 rfl ?_
                      refine r_if_le K 173 dL_ringOf_160 (by decide) (by omega) (fun h63 => ?_) (fun h63 => ?_)
                      ·
                        exact HM54 _ _ _ (by show k4 + 2 ≤ _; omega) (by show n4 + 12 ≤ _; omega)
                      ·
                        refine r_iload K dL_ringOf_163 rfl ?_
                        refine r_aload_n K dL_ringOf_165 rfl ?_
                        refine r_iconst K (nI 0) dL_ringOf_166 (by decide) ?_
                        refine r_callO (rest := [.int (nI (lr S r))]) KE (w_ring_0 l D a c S hl0 hV  0 (by omega)) 2 gL_ringOf_L_ring rfl (by decide +kernel) rfl ⟨⟨Nat.le_of_ble_eq_true rfl, Nat.le_of_ble_eq_true rfl⟩, (by show k4 + 2 + 1 ≤ 2000; omega), (by show n4 + 12 + 6 ≤ 12000; omega)⟩ rfl (Nat.le_of_ble_eq_true rfl) dL_ringOf_167 (fun J64 => ?_)
                        refine r_top (show _ = nI (lr S 0) from rg_in (by omega)) ?_
                        refine r_ic_lt K 202 dL_ringOf_170 (by decide) (by omega) (by omega) (fun h65 => by omega) (fun h65 => ?_)
                        exact HM54 _ _ _ (by show k4 + 3 ≤ _; omega) (by show n4 + 18 ≤ _; omega)
                    refine r_aload_n K dL_ringOf_118 rfl ?_
                    refine r_iload K dL_ringOf_119 rfl ?_
                    refine r_iconst K (nI 1) dL_ringOf_121 (by decide) ?_
                    refine r_iadd K dL_ringOf_122 ?_
                    refine r_iload_n K dL_ringOf_123 rfl ?_
                    refine r_ic_ne K 131 dL_ringOf_124 (by decide) (by omega) (by omega) (fun h66 => ?_) (fun h66 => ?_)
                    ·
                      refine r_iload K dL_ringOf_131 rfl ?_
                      refine r_iconst K (nI 1) dL_ringOf_133 (by decide) ?_
                      refine r_iadd K dL_ringOf_134 ?_
                      refine r_top (congrArg nI (show _ = nxp (lstO (frl S)) r from (by unfold nxp; rw [if_pos (by omega)]))) ?_
                      exact HM49 _ _ _ (by show k3 + 1 ≤ _; omega) (by show n3 + 6 ≤ _; omega)
                    ·
                      refine r_iconst K (nI 0) dL_ringOf_127 (by decide) ?_
                      refine r_top (congrArg nI (show _ = nxp (lstO (frl S)) r from (by unfold nxp; rw [if_neg (by omega)]))) ?_
                      refine r_goto K 135 dL_ringOf_128 (by decide) ?_
                      exact HM49 _ _ _ (by show k3 + 1 ≤ _; omega) (by show n3 + 6 ≤ _; omega)
              exact LC11 6 0 _ _ _ (by omega) (Nat.zero_le _) (by show k2 + 1 ≤ _; omega) (by show n2 + 6 ≤ _; omega)
            ·
              refine r_iinc (lv' := [(0, .ref (a 0)), (1, .ref (e 2)), (2, .ref (e 3)), (3, .int (nI (q + 1)))]) K dL_ringOf_95 rfl (nI_1 _) (by decide) rfl ?_
              refine r_goto K 82 dL_ringOf_98 (by decide) ?_
              exact ih7 (q + 1) _ _ _ (by omega) (Nat.succ_le_of_lt (rg_pos h10)) (by show k2 + 1 ≤ _; omega) (by show n2 + 6 ≤ _; omega)
        exact LB5 6 0 _ _ _ (by omega) (Nat.zero_le _) (by show k1 ≤ _; omega) (by show n1 ≤ _; omega)
      ·
        have hi2 : i < S 4 0 := by omega
        have hc := of_card hI hi2
        obtain ⟨c1, c2, c3, c4, c5⟩ := rel_o hR h25 hi2 hc
        have hlt := h25 i
        have hlv := of_live hI hi2
        have h17 := rel_col hR hc
        refine r_aload_n K dL_ringOf_9 rfl ?_
        refine r_iload_n K dL_ringOf_10 rfl ?_
        refine r_ldZ K 2 (zX_g2 _ _ _ _) (by omega) (by decide) dL_ringOf_11 ?_
        refine r_ldc K (v := nI 65536) (List.mem_of_getElem? (i := 1) rfl) dL_ringOf_12 ?_
        refine r_idiv K dL_ringOf_14 (by omega) (by omega) (by omega) ?_
        refine r_top (congrArg nI (show _ = 1 - S 25 i from c1)) ?_
        refine r_if_ne K 22 dL_ringOf_15 (by decide) (by omega) (fun h67 => ?_) (fun h67 => ?_)
        ·
          refine r_iconst K (nI 0) dL_ringOf_22 (by decide) ?_
          refine r_istore (lv' := [(0, .ref (a 0)), (1, .ref (e 2)), (2, .ref (e 3)), (3, .int (nI i)), (4, .int (nI 0))]) K dL_ringOf_23 (by decide) rfl ?_
          refine r_aload_n K dL_ringOf_25 rfl ?_
          refine r_iload_n K dL_ringOf_26 rfl ?_
          refine r_callO (rest := []) KE (w_isOpen_0 l D a c S hl0 hV h25 i (by omega)) 2 gL_ringOf_L_isOpen rfl (by decide +kernel) rfl ⟨⟨Nat.le_of_ble_eq_true rfl, Nat.le_of_ble_eq_true rfl⟩, (by show k1 + 1 ≤ 2000; omega), (by show n1 + 6 ≤ 12000; omega)⟩ rfl (Nat.le_of_ble_eq_true rfl) dL_ringOf_27 (fun J68 => ?_)
          refine r_iload K dL_ringOf_30 rfl ?_
          refine r_if_eq K 39 dL_ringOf_32 (by decide) (by decide) (fun h70 => ?_) (fun h70 => absurd h70 (by decide))
          refine r_iconst K (nI 0) dL_ringOf_39 (by decide) ?_
          refine r_ic_ne K 72 dL_ringOf_40 (by decide) (by omega) (by decide) (fun h71 => by omega) (fun h71 => ?_)
          refine r_iload K dL_ringOf_43 rfl ?_
          refine r_if_eq K 74 dL_ringOf_45 (by decide) (by decide) (fun h73 => ?_) (fun h73 => absurd h73 (by decide))
          refine r_iinc (lv' := [(0, .ref (a 0)), (1, .ref (e 2)), (2, .ref (e 3)), (3, .int (nI (i + 1))), (4, .int (nI 0))]) K dL_ringOf_74 rfl (nI_1 _) (by decide) rfl ?_
          refine r_goto K 2 dL_ringOf_77 (by decide) ?_
          refine r_pick [0, 1, 2, 3] K rfl ?_
          exact ih3 (i + 1) _ _ _ (by omega) (by omega) (by show k1 + 1 ≤ _; omega) (by show n1 + 6 ≤ _; omega)
        ·
          refine r_iconst K (nI 1) dL_ringOf_18 (by decide) ?_
          refine r_goto K 23 dL_ringOf_19 (by decide) ?_
          refine r_istore (lv' := [(0, .ref (a 0)), (1, .ref (e 2)), (2, .ref (e 3)), (3, .int (nI i)), (4, .int (nI 1))]) K dL_ringOf_23 (by decide) rfl ?_
          refine r_aload_n K dL_ringOf_25 rfl ?_
          refine r_iload_n K dL_ringOf_26 rfl ?_
          refine r_callO (rest := []) KE (w_isOpen_0 l D a c S hl0 hV h25 i (by omega)) 2 gL_ringOf_L_isOpen rfl (by decide +kernel) rfl ⟨⟨Nat.le_of_ble_eq_true rfl, Nat.le_of_ble_eq_true rfl⟩, (by show k1 + 1 ≤ 2000; omega), (by show n1 + 6 ≤ 12000; omega)⟩ rfl (Nat.le_of_ble_eq_true rfl) dL_ringOf_27 (fun J74 => ?_)
          refine r_iload K dL_ringOf_30 rfl ?_
          refine r_if_eq K 39 dL_ringOf_32 (by decide) (by decide) (fun h76 => absurd h76 (by decide)) (fun h76 => ?_)
          refine r_iconst K (nI 1) dL_ringOf_35 (by decide) ?_
          refine r_goto K 40 dL_ringOf_36 (by decide) ?_
          refine r_ic_ne K 72 dL_ringOf_40 (by decide) (by omega) (by decide) (fun h77 => by omega) (fun h77 => ?_)
          refine r_iload K dL_ringOf_43 rfl ?_
          refine r_if_eq K 74 dL_ringOf_45 (by decide) (by decide) (fun h79 => absurd h79 (by decide)) (fun h79 => ?_)
          have h24 := hlv (by omega)
          refine r_aload_n K dL_ringOf_48 rfl ?_
          refine r_aload_n K dL_ringOf_49 rfl ?_
          refine r_iload_n K dL_ringOf_50 rfl ?_
          refine r_ldZ K 2 (zX_g2 _ _ _ _) (by omega) (by decide) dL_ringOf_51 ?_
          refine r_sipush K (nI 128) dL_ringOf_52 (by decide) ?_
          refine r_irem K dL_ringOf_55 (by omega) (by omega) (by omega) ?_
          refine r_top (congrArg nI (show _ = S 21 i from c2)) ?_
          refine r_callO (rest := []) KE (w_collectorOf_0 l D a c S hl0 hV  (S 21 i) (by omega)) 2 gL_ringOf_L_collectorOf rfl (by decide +kernel) rfl ⟨⟨Nat.le_of_ble_eq_true rfl, Nat.le_of_ble_eq_true rfl⟩, (by show k1 + 1 + 1 ≤ 2000; omega), (by show n1 + 6 + 6 ≤ 12000; omega)⟩ rfl (Nat.le_of_ble_eq_true rfl) dL_ringOf_56 (fun J80 => ?_)
          refine r_aload_n K dL_ringOf_59 rfl ?_
          refine r_iload_n K dL_ringOf_60 rfl ?_
          refine r_ldZ K 2 (zX_g2 _ _ _ _) (by omega) (by decide) dL_ringOf_61 ?_
          refine r_sipush K (nI 4096) dL_ringOf_62 (by decide) ?_
          refine r_idiv K dL_ringOf_65 (by omega) (by omega) (by omega) ?_
          refine r_bipush K (nI 16) dL_ringOf_66 (by decide) ?_
          refine r_irem K dL_ringOf_68 (by omega) (by omega) (by omega) ?_
          refine r_top (congrArg nI (show _ = S 24 i from c3)) ?_
          refine r_ic_eq K 74 dL_ringOf_69 (by decide) (by omega) (by omega) (fun h81 => ?_) (fun h81 => absurd (hlv (by omega)) h81)
          refine r_iinc (lv' := [(0, .ref (a 0)), (1, .ref (e 2)), (2, .ref (e 3)), (3, .int (nI (i + 1))), (4, .int (nI 1))]) K dL_ringOf_74 rfl (nI_1 _) (by decide) rfl ?_
          refine r_goto K 2 dL_ringOf_77 (by decide) ?_
          refine r_pick [0, 1, 2, 3] K rfl ?_
          exact ih3 (i + 1) _ _ _ (by omega) (by omega) (by show k1 + 2 ≤ _; omega) (by show n1 + 12 ≤ _; omega)
  exact LA1 41 0 _ _ _ (by omega) (Nat.zero_le _) (by show 0 ≤ _; omega) (by show 0 ≤ _; omega)
