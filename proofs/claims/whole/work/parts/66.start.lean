/-! The start: what the machine holds at the law's entry. -/
section START
theorem arr_known {s : State} {args : Array Value} {ty : FieldType} (hn : ∀ C, ty ≠ .object C) (h : (Cond.arrayClass ty).before args s = true) : ∃ c : ClassId, ArrOfT s c ty ∧ va_RA s c ty := by
  obtain ⟨c, k, comp, h1, h2, h3⟩ := Cond.arrayClass_spec h
  refine ⟨c, fun n z => ⟨fun C e => absurd e (hn C), k, h2, comp, h3⟩, ?_⟩
  cases ty with
  | object C => exact absurd rfl (hn C)
  | _ => exact h1
theorem arr2_known {s : State} {args : Array Value} (h : (Cond.arrayOver (.array .int)).before args s = true) : ∃ c : ClassId, ArrOfT s c (.array .int) ∧ va_RA s c (.array .int) := by
  obtain ⟨comp, c, k, h1, h2, h3, h4⟩ := Cond.arrayOver_specA h
  exact ⟨c, fun n z => ⟨fun C e => (by cases e), k, h2, comp, h3⟩, h4⟩
theorem hStr_R : ∀ q ∈ hStrs, Cond.stringRef RX6 q.1 q.2 ∈ lw_tbl := by decide +kernel
theorem hNg_T : ∀ w ∈ hNg, w ∈ lw_tbl := by decide +kernel
theorem hNest_T : ∀ w ∈ hNest, w ∈ lw_tbl := by decide +kernel
theorem exN_T : ∀ E ∈ exN, Cond.castable E E ∈ lw_tbl := by decide +kernel
theorem flatStr : ∀ q ∈ hStrs, Cond.exactly (.string RX6 q.1) "java/lang/String" ∈ flat (Jvm.Cond.and given_1 narrow_1) := by decide +kernel
end START
