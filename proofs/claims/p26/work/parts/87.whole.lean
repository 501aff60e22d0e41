section WHOLE
set_option maxHeartbeats 4000000 in
set_option maxRecDepth 100000 in
theorem law_run (l : Launch) (D : va_G) (c : Nat → ClassId) (hl0 : l.stackTraces = false) {G : Gt} {sb L : Nat} {xs : Nat → Int32} (KE : OkE l room_1 G cL_law 11 wsL_law RL D (tyW c)) (KS : OkS l room_1 G cL_law 11 wsL_law RL D (tyW c) sb L xs) (KN : OkNI l room_1 G cL_law 11 wsL_law RL D (tyW c)) (hL : L ≤ 260)
    (hend : ∀ (k n : Nat) (ws : va_W) (lv : List (Nat × Value)), k ≤ 600104 → n ≤ 7301314 → G k n ws lv 229 [.int (nI 1)]) : G 0 0 [] [(0, .ref sb)] 0 [] := by
  have K := KE.ok
  refine r_newo K (ci := 6) (fs := [.null, .null, .null, .null, .null, .null, .null]) inlX6 tyX6 tyX6_ok rfl q_cl6 q_ins6 q_ini6 (fun j hj => by rcases (show j = 0 ∨ j = 1 ∨ j = 2 ∨ j = 3 ∨ j = 4 ∨ j = 5 ∨ j = 6 by omega) with rfl | rfl | rfl | rfl | rfl | rfl | rfl <;> rfl) (by decide) dL_law_0 (fun q1 => ?_)
  refine r_dup K dL_law_3 rfl ?_
  refine r_callIn (rest := [.ref q1]) (z := []) (w := [(q1, .inr (6, [.null, .null, .null, .null, .null, .null, .null]))]) KN (c_X6_init l D c q1) gL_law_X6_init rfl q_ml6 q_ini6 q_im6 rfl (by decide +kernel) (by decide) rfl (Nat.le_of_ble_eq_true rfl) dL_law_4 (fun a ha => ?_)
  refine r_astore_n (lv' := [(0, .ref sb), (1, .ref q1)]) K dL_law_7 (by decide) rfl ?_
  refine r_newo K (ci := 6) (fs := [.null, .null, .null, .null, .null, .null, .null]) inlX6 tyX6 tyX6_ok rfl q_cl6 q_ins6 q_ini6 (fun j hj => by rcases (show j = 0 ∨ j = 1 ∨ j = 2 ∨ j = 3 ∨ j = 4 ∨ j = 5 ∨ j = 6 by omega) with rfl | rfl | rfl | rfl | rfl | rfl | rfl <;> rfl) (by decide) dL_law_8 (fun q2 => ?_)
  refine r_dup K dL_law_11 rfl ?_
  refine r_callIn (rest := [.ref q2]) (z := [] ++ wC a c S0 Z0) (w := [(q2, .inr (6, [.null, .null, .null, .null, .null, .null, .null]))]) KN (c_X6_init l D c q2) gL_law_X6_init rfl q_ml6 q_ini6 q_im6 rfl (by decide +kernel) (by decide) rfl (Nat.le_of_ble_eq_true rfl) dL_law_12 (fun b hb => ?_)
  refine r_astore_n (lv' := [(0, .ref sb), (1, .ref q1), (2, .ref q2)]) K dL_law_15 (by decide) rfl ?_
  refine r_bipush K (nI 32) dL_law_16 (by decide) ?_
  refine r_newaI K q_ai (by decide) (by decide) dL_law_18 (fun q3 => ?_)
  refine r_astore_n (lv' := [(0, .ref sb), (1, .ref q1), (2, .ref q2), (3, .ref q3)]) K dL_law_20 (by decide) rfl ?_
  refine r_bipush K (nI 24) dL_law_21 (by decide) ?_
  refine r_newaI K q_ai (by decide) (by decide) dL_law_23 (fun q4 => ?_)
  refine r_astore (lv' := [(0, .ref sb), (1, .ref q1), (2, .ref q2), (3, .ref q3), (4, .ref q4)]) K dL_law_25 (by decide) rfl ?_
  refine r_bipush K (nI 40) dL_law_27 (by decide) ?_
  refine r_newaI K q_ai (by decide) (by decide) dL_law_29 (fun q5 => ?_)
  refine r_astore (lv' := [(0, .ref sb), (1, .ref q1), (2, .ref q2), (3, .ref q3), (4, .ref q4), (5, .ref q5)]) K dL_law_31 (by decide) rfl ?_
  refine r_iconst K (nI 5) dL_law_33 (by decide) ?_
  refine r_newaI K q_ai (by decide) (by decide) dL_law_34 (fun q6 => ?_)
  refine r_astore (lv' := [(0, .ref sb), (1, .ref q1), (2, .ref q2), (3, .ref q3), (4, .ref q4), (5, .ref q5), (6, .ref q6)]) K dL_law_36 (by decide) rfl ?_
  obtain ⟨e, he⟩ : ∃ e : Nat → Nat, e = fun i => ([q3, q4, q5, q6] : List Nat).getD i 0 := ⟨_, rfl⟩
  refine r_w (ws' := wW a b e c S0 Z0 S0 Z0 (fun _ _ => 0) []) (by rw [he]; rfl) ?_
  refine r_lv (lv' := [(0, .ref sb), (1, .ref (a 0)), (2, .ref (b 0)), (3, .ref (e 0)), (4, .ref (e 1)), (5, .ref (e 2)), (6, .ref (e 3))]) (by rw [show a 0 = q1 from ha, show b 0 = q2 from hb, he]; rfl) ?_
  exact law_body l D a b e c hl0 KE KS hL hend _ _ (Nat.le_of_ble_eq_true rfl) (Nat.le_of_ble_eq_true rfl)
/-- YOUR PART: from the entry, for every script of at most 260 ints, the law comes to its end with true ('hflags': the launch's flags, for a law that throws: no stack traces) -/
theorem whole_start {p : Program} {e : Env} {s : State} {m : MethodId} {below : List Frame} {meth : Method} {c : Code} (l : Launch) (hflags : l.flags = flags0) {b L : Nat} {xs : Nat → Int32} (hL : L ≤ 260) (C0 : lw_At p s m meth c b L xs) : W p l e room_1 s m #[Value.ref b] below meth c s.heap [] 0 0 (lw_Z below #[Value.ref b] s) (entryFrame m ([Value.ref b] : List Value).toArray 11) := by
  obtain ⟨D, c0, hK, hSE, hNC, hNI⟩ := start_facts C0
  obtain ⟨hx, hb, hr, hml, hown, hts, hX, hbl, hlocks, hgv⟩ := id C0
  have hl0 : l.stackTraces = false := by
    unfold Launch.stackTraces
    rw [hflags]
    decide +kernel
  have hw : ∀ w ∈ wsL_law, w.before #[Value.ref b] s = true := fun w h => hts w (wsL_law_in w h)
  have hF : Fx p l e room_1 s m #[Value.ref b] below meth c (lw_Z below #[Value.ref b] s) (fun q => s.heap.size ≤ q) s.heap (Wh p l e room_1 s m #[Value.ref b] below meth c (lw_Z below #[Value.ref b] s) D (fun q => s.heap.size ≤ q) s.heap 11) cL_law 11 wsL_law RL D (tyW c0) := ⟨rfl, hx, hb, hml, hown, hw, hK, fun _ h => h⟩
  have KE : OkE l room_1 _ cL_law 11 wsL_law RL D (tyW c0) := ⟨p, e, s, m, _, below, meth, c, _, _, hF, hSE, hNC⟩
  have KS : OkS l room_1 _ cL_law 11 wsL_law RL D (tyW c0) b L xs := ⟨p, e, s, m, _, below, meth, c, _, _, _, hF, hX, hbl, Nat.not_le.mpr hbl⟩
  have KN : OkNI l room_1 _ cL_law 11 wsL_law RL D (tyW c0) := ⟨p, e, s, m, _, below, meth, c, _, _, _, hF, hNI⟩
  rw [lg_entry_eq]
  refine law_run l D c0 hl0 KE KS KN hL ?_ s.heap [] _ (fun k q h => by simp at h) ⟨fun i j p q h => by simp at h, fun k q h => by simp at h⟩ va_S.rf (entry_has (av := [.ref b]) (Nat.le_of_ble_eq_true rfl) rfl)
  intro k n ws lv hk hn H locs ls hP hD hS hl
  refine va_forget hS.2.2 (W.widen hk hn ?_)
  exact lw_ret hx hb hr hlocks dL_law_229
end WHOLE
