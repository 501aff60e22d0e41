/-! The start: what the machine holds at the law's entry. -/
section START
theorem q_cl6 : Cond.classLink RL 11 RX6 ∈ wsL_law := by decide +kernel
theorem q_ins6 : Cond.instantiable RX6 7 ∈ wsL_law := by decide +kernel
theorem q_ini6 : Cond.initialized RX6 ∈ wsL_law := by decide +kernel
theorem q_ai : Cond.arrayClass .int ∈ wsL_law := by decide +kernel
theorem q_ml6 : Cond.methodLink RL 163 yX6_init ∈ wsL_law := by decide +kernel
theorem q_im6 : Cond.instanceMethod yX6_init ∈ wsL_law := by decide +kernel
theorem arr_known {s : State} {args : Array Value} {ty : FieldType} (hn : ∀ C, ty ≠ .object C) (h : (Cond.arrayClass ty).before args s = true) : ∃ c : ClassId, ArrOfT s c ty ∧ va_RA s c ty := by
  obtain ⟨c, k, comp, h1, h2, h3⟩ := Cond.arrayClass_spec h
  refine ⟨c, fun n z => ⟨fun k9 h9 => (by cases h9), k, h2, comp, h3⟩, ?_⟩
  cases ty with
  | object C => exact absurd rfl (hn C)
  | _ => exact h1
theorem arr2_known {s : State} {args : Array Value} (h : (Cond.arrayOver (.array .int)).before args s = true) : ∃ c : ClassId, ArrOfT s c (.array .int) ∧ va_RA s c (.array .int) := by
  obtain ⟨comp, c, k, h1, h2, h3, h4⟩ := Cond.arrayOver_specA h
  exact ⟨c, fun n z => ⟨fun k9 h9 => (by cases h9), k, h2, comp, h3⟩, h4⟩
theorem hStr_R : ∀ q ∈ hStrs, Cond.stringRef RX6 q.1 q.2 ∈ lw_tbl := by decide +kernel
theorem hNg_T : ∀ w ∈ hNg, w ∈ lw_tbl := by decide +kernel
theorem hNest_T : ∀ w ∈ hNest, w ∈ lw_tbl := by decide +kernel
theorem exN_T : ∀ E ∈ exN, Cond.castable E E ∈ lw_tbl := by decide +kernel
theorem flatStr : ∀ q ∈ hStrs, Cond.exactly (.string RX6 q.1) "java/lang/String" ∈ flatC (Jvm.Cond.and given_1 narrow_1) := by decide +kernel
theorem flatNc : ∀ E ∈ exN, ∀ F ∈ exN, E ≠ F → Cond.not (.castable E F) ∈ flatC (Jvm.Cond.and given_1 narrow_1) := by decide +kernel
theorem flatU : Cond.isRef (.static Bundle.tN "UNASSIGNED_STACK" Bundle.steD) ∈ flatC (Jvm.Cond.and given_1 narrow_1) := by decide +kernel
theorem flatN : Cond.isRef (.static Bundle.tN "SUPPRESSED_SENTINEL" Bundle.listD) ∈ flatC (Jvm.Cond.and given_1 narrow_1) := by decide +kernel
set_option maxHeartbeats 4000000 in
set_option maxRecDepth 100000 in
theorem start_facts {p : Program} {s : State} {m : MethodId} {meth : Method} {c : Code} {b L : Nat} {xs : Nat → Int32} (C0 : lw_At p s m meth c b L xs) :
    ∃ (D : va_G) (c0 : Nat → ClassId), va_K D vwCl (tyW c0) s ∧ SE (fun q => s.heap.size ≤ q) s ∧ NC s ∧ NI s := by
  obtain ⟨hx, hb, hr, hml, hown, hts, hX, hbl, hlocks, hgv⟩ := id C0
  have hfl := flat_of_before _ hgv
  obtain ⟨d0, i0, k0⟩ := u_known (C := RX0) (T := TX0) (N := 6) (n := 6) hts inX0 (hts (.instantiable RX0 6) (by decide +kernel))
  obtain ⟨d1, i1, k1⟩ := u_known (C := RX1) (T := TX1) (N := 5) (n := 5) hts inX1 (hts (.instantiable RX1 5) (by decide +kernel))
  obtain ⟨d2, i2, k2⟩ := u_known (C := RX2) (T := TX2) (N := 7) (n := 7) hts inX2 (hts (.instantiable RX2 7) (by decide +kernel))
  obtain ⟨d3, i3, k3⟩ := u_known (C := RX3) (T := TX3) (N := 1) (n := 1) hts inX3 (hts (.instantiable RX3 1) (by decide +kernel))
  obtain ⟨d4, i4, k4⟩ := u_known (C := RX4) (T := TX4) (N := 4) (n := 4) hts inX4 (hts (.instantiable RX4 4) (by decide +kernel))
  obtain ⟨d5, i5, k5⟩ := u_known (C := RX5) (T := TX5) (N := 3) (n := 3) hts inX5 (hts (.instantiable RX5 3) (by decide +kernel))
  obtain ⟨d6, i6, k6⟩ := u_known (C := RX6) (T := TX6) (N := 7) (n := 7) hts inX6 (hts (.instantiable RX6 7) (by decide +kernel))
  obtain ⟨e0, a0, r0⟩ := arr_known (ty := .int) (fun C e => (by cases e)) (hts (.arrayClass .int) (by decide +kernel))
  obtain ⟨e1, a1, r1⟩ := arr_known (ty := .boolean) (fun C e => (by cases e)) (hts (.arrayClass .boolean) (by decide +kernel))
  obtain ⟨e2, a2, r2⟩ := arr2_known (hts (.arrayOver (.array .int)) (by decide +kernel))
  refine ⟨(fun k => ([d0, d1, d2, d3, d4, d5, d6] : List ClassId).getD k d0, fun k => ([i0, i1, i2, i3, i4, i5, i6] : List (Nat → Nat)).getD k i0), fun k => ([e0, e1, e2] : List ClassId).getD k e0, ⟨?_, ?_⟩, ⟨?_, ?_, ?_, ?_⟩, ⟨?_, ?_⟩, ⟨?_, ?_⟩⟩
  · intro k q hq
    match k, hq with
    | 0, hq => cases hq; exact k0
    | 1, hq => cases hq; exact k1
    | 2, hq => cases hq; exact k2
    | 3, hq => cases hq; exact k3
    | 4, hq => cases hq; exact k4
    | 5, hq => cases hq; exact k5
    | 6, hq => cases hq; exact k6
    | k + 7, hq => simp [vwCl] at hq
  · intro k q hq
    match k, hq with
    | 0, hq => cases hq; exact ⟨a0, r0⟩
    | 1, hq => cases hq; exact ⟨a1, r1⟩
    | 2, hq => cases hq; exact ⟨a2, r2⟩
    | k + 3, hq => simp [tyW] at hq
  · intro q hq
    obtain ⟨sa, -, -, -, ha, -⟩ := Cond.exactly_spec (hfl _ (flatStr q hq))
    exact ⟨sa, vk_R.of (hts _ (hStr_R q hq)) ha⟩
  · exact vx_Zqof (hts (.laysStatic Bundle.tN "UNASSIGNED_STACK" Bundle.steD) (by decide +kernel)) (hts (.initialized Bundle.tN) (by decide +kernel)) (hfl _ flatU) (fun a ha q => absurd q (Nat.not_le.mpr ha))
  · exact vx_Zqof (hts (.laysStatic Bundle.tN "SUPPRESSED_SENTINEL" Bundle.listD) (by decide +kernel)) (hts (.initialized Bundle.tN) (by decide +kernel)) (hfl _ flatN) (fun a ha q => absurd q (Nat.not_le.mpr ha))
  · exact fun w hw => va_Nw.of (ng_tabs (hNg_ng w hw)) (hts _ (hNg_T w hw))
  · exact fun E hE => va_Nw.of rfl (hts _ (exN_T E hE))
  · exact fun E hE F hF hn => va_Nc.of (hfl _ (flatNc E hE F hF hn))
  · exact fun w hw => va_Nw.of (nest_tabs (hNest_f w hw)) (hts _ (hNest_T w hw))
  · exact va_AOA.of (hts (.arrayOver (.array .int)) (by decide +kernel))
end START
