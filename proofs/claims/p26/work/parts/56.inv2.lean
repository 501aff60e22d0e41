section INV2
theorem wC_cong {a : Nat → Nat} {c : Nat → ClassId} {S T J : St} (h : ∀ f, f ≠ 27 → S f = T f) : wC a c S J = wC a c T J := by
  unfold wC
  rw [h 2 (by decide), h 3 (by decide), h 4 (by decide), h 10 (by decide), h 11 (by decide), h 12 (by decide), h 13 (by decide), h 14 (by decide), h 15 (by decide), h 16 (by decide), h 17 (by decide), h 18 (by decide), h 19 (by decide), h 21 (by decide), h 22 (by decide), h 23 (by decide), h 24 (by decide), h 25 (by decide), h 30 (by decide), h 31 (by decide), h 32 (by decide), h 33 (by decide), h 34 (by decide), h 35 (by decide), h 36 (by decide), h 37 (by decide), h 38 (by decide), h 39 (by decide), h 40 (by decide), h 41 (by decide)]
theorem up_comm {S : St} {f g k j v w : Nat} (h : f ≠ g) : up (up S f k v) g j w = up (up S g j w) f k v := by
  funext q
  by_cases e : q = f
  · subst e
    rw [up_ne h, up_f, up_f, up_ne h]
  · by_cases e2 : q = g
    · subst e2
      rw [up_f, up_ne e, up_ne e, up_f]
    · rw [up_ne e2, up_ne e, up_ne e, up_ne e2]
/-- an offer's numbers, on both sides -/
def offS (S : St) (x y : Nat) : St := up (up (up (up (up (up S 21 (S 4 0) x) 22 (S 4 0) (S 15 x)) 23 (S 4 0) y) 24 (S 4 0) (S 17 x)) 25 (S 4 0) 1) 4 0 (S 4 0 + 1)
theorem offS_M {S : St} {x y : Nat} : ∀ f, f ≠ 22 → f ≠ 25 → up (up (up (up S 21 (S 4 0) x) 24 (S 4 0) (S 17 x)) 23 (S 4 0) y) 4 0 (S 4 0 + 1) f = offS S x y f := by
  intro f h1 h2
  unfold offS
  rw [up_comm (f := 24) (g := 23) (by decide)]
  by_cases e4 : f = 4
  · subst e4
    rw [up_f, up_f, up_ne (by decide), up_ne (by decide), up_ne (by decide), up_ne (by decide), up_ne (by decide), up_ne (by decide), up_ne (by decide), up_ne (by decide)]
  · rw [up_ne e4, up_ne e4, up_ne (f := 25) h2]
    by_cases e24 : f = 24
    · subst e24
      rw [up_f, up_f, up_ne (by decide), up_ne (by decide), up_ne (by decide), up_ne (by decide), up_ne (by decide)]
    · rw [up_ne e24, up_ne e24]
      by_cases e23 : f = 23
      · subst e23
        rw [up_f, up_f, up_ne (by decide), up_ne (by decide), up_ne (by decide)]
      · rw [up_ne e23, up_ne e23, up_ne (f := 22) h1]
theorem anyB_cong {f g : Nat → Bool} : ∀ {n : Nat}, (∀ o, o < n → f o = g o) → anyB f n = anyB g n
  | 0, _ => rfl
  | n + 1, h => by rw [anyB_succ, anyB_succ, anyB_cong (fun o ho => h o (by omega)), h n (by omega)]
theorem anyB_no {f : Nat → Bool} : ∀ {n : Nat}, anyB f n = false → ∀ o, o < n → f o = false
  | 0, _, o, ho => absurd ho (Nat.not_lt_zero o)
  | n + 1, h, o, ho => by
    rw [anyB_succ, Bool.or_eq_false_iff] at h
    by_cases e : o = n
    · rw [e]; exact h.2
    · exact anyB_no h.1 o (by omega)
theorem fr_live {S : St} (hO : Of S) (hb : ∀ o, S 21 o < 1000000) {x : Nat} (hx : x < 1000000) : frB S (nI x) = (!liveB S x && decide (S 4 0 < 40)) := by
  unfold frB liveB
  rw [anyB_cong (g := fun o => decide (S 25 o ≠ 0) && decide (S 21 o = x)) (fun o ho => ?_), Bool.and_comm]
  unfold ocB
  have h21 := hb o
  have e : (nI (S 21 o) = nI x) ↔ S 21 o = x := nI_eq (by omega) (by omega)
  rw [hO.op ho, Bool.and_comm]
  congr 1
  exact decide_eq_decide.mpr e
theorem inv_offer {n : Nat} {S : St} (h : Inv n S) {x y : Nat} (hx : x < S 2 0) (hy : y ≤ 15) (hl : liveB S x = false) (h4 : S 4 0 < 40) : Inv n (offS S x y) := by
  obtain ⟨h1, h2, h3, hd⟩ := h
  have hc := h2.1
  have hb17 := h1 17 x
  have hk := h2.2.2.2.1 x
  have B : Bd n (offS S x y) := (((((h1.up (by omega)).up (by omega)).up (by omega)).up (by omega)).up (by omega)).up (by omega)
  have R : Vr (offS S x y) := (((((h2.up (by omega)).up (by omega)).up (by omega)).up (by omega)).up (by omega)).up (by omega)
  have e4 : offS S x y 4 0 = S 4 0 + 1 := up_same
  have e2 : offS S x y 2 = S 2 := by unfold offS; rw [up_ne (by decide), up_ne (by decide), up_ne (by decide), up_ne (by decide), up_ne (by decide), up_ne (by decide)]
  have e15 : offS S x y 15 = S 15 := by unfold offS; rw [up_ne (by decide), up_ne (by decide), up_ne (by decide), up_ne (by decide), up_ne (by decide), up_ne (by decide)]
  have e17 : offS S x y 17 = S 17 := by unfold offS; rw [up_ne (by decide), up_ne (by decide), up_ne (by decide), up_ne (by decide), up_ne (by decide), up_ne (by decide)]
  have e27 : offS S x y 27 = S 27 := by unfold offS; rw [up_ne (by decide), up_ne (by decide), up_ne (by decide), up_ne (by decide), up_ne (by decide), up_ne (by decide)]
  have e21 : offS S x y 21 = upf (S 21) (S 4 0) x := by unfold offS; rw [up_ne (by decide), up_ne (by decide), up_ne (by decide), up_ne (by decide), up_ne (by decide), up_f]
  have e22 : offS S x y 22 = upf (S 22) (S 4 0) (S 15 x) := by unfold offS; rw [up_ne (by decide), up_ne (by decide), up_ne (by decide), up_ne (by decide), up_f, up_ne (by decide)]
  have e24 : offS S x y 24 = upf (S 24) (S 4 0) (S 17 x) := by unfold offS; rw [up_ne (by decide), up_ne (by decide), up_f, up_ne (by decide), up_ne (by decide), up_ne (by decide)]
  have e25 : offS S x y 25 = upf (S 25) (S 4 0) 1 := by unfold offS; rw [up_ne (by decide), up_f, up_ne (by decide), up_ne (by decide), up_ne (by decide), up_ne (by decide)]
  have hno : ∀ o, o < S 4 0 → S 25 o = 1 → S 21 o ≠ x := fun o ho hv hx2 => by
    have := anyB_no hl o ho
    rw [liveB_y (by omega) hx2] at this
    cases this
  refine ⟨B, R, fun o => ?_, fun o p ho hp hvo hvp he => ?_⟩
  · rw [e4, e2, e15, e17, e27, e21, e22, e24, e25]
    by_cases eo : o = S 4 0
    · subst eo
      rw [upf_same, upf_same, upf_same, upf_same]
      exact ⟨fun _ => ⟨hx, rfl, Or.inl ⟨rfl, ((h3 _).2 (Nat.le_refl _)).2, rfl⟩⟩, fun q => absurd q (by omega)⟩
    · rw [upf_ne eo, upf_ne eo, upf_ne eo, upf_ne eo]
      exact ⟨fun q => (h3 o).1 (by omega), fun q => (h3 o).2 (by omega)⟩
  · rw [e4] at ho hp
    rw [e25] at hvo hvp
    rw [e21] at he
    by_cases eo : o = S 4 0
    · by_cases ep : p = S 4 0
      · omega
      · rw [eo, upf_same, upf_ne ep] at he
        rw [upf_ne ep] at hvp
        exact absurd he.symm (hno p (by omega) hvp)
    · by_cases ep : p = S 4 0
      · rw [ep, upf_same, upf_ne eo] at he
        rw [upf_ne eo] at hvo
        exact absurd he (hno o (by omega) hvo)
      · rw [upf_ne eo] at hvo he
        rw [upf_ne ep] at hvp he
        exact hd o p (by omega) (by omega) hvo hvp he
/-- an offer that is open no more -/
theorem inv_off {n : Nat} {S T : St} (h : Inv n S) (hB : Bd n T) (hR : Vr T) (L : Nat → Bool) (hL : ∀ o, L o = true → o < S 4 0)
    (e : ∀ f, (f = 2 ∨ f = 4 ∨ f = 15 ∨ f = 21 ∨ f = 22 ∨ f = 24) → T f = S f) (h25 : ∀ o, T 25 o = if L o then 0 else S 25 o) (h27 : ∀ o, T 27 o = if L o then 1 else S 27 o)
    (h17 : ∀ o, o < S 4 0 → L o = false → S 25 o = 1 → T 17 (S 21 o) = S 17 (S 21 o)) : Inv n T := by
  obtain ⟨h1, h2, h3, hd⟩ := h
  refine ⟨hB, hR, fun o => ?_, fun o p ho hp hvo hvp he => ?_⟩
  · rw [e 4 (by omega), e 2 (by omega), e 15 (by omega), e 21 (by omega), e 22 (by omega), e 24 (by omega), h25, h27]
    cases hl : L o with
    | true =>
      have hlt := hL o hl
      obtain ⟨q1, q2, q3⟩ := (h3 o).1 hlt
      exact ⟨fun _ => ⟨q1, q2, Or.inr ⟨rfl, rfl⟩⟩, fun q => absurd q (by omega)⟩
    | false =>
      refine ⟨fun ho => ?_, (h3 o).2⟩
      obtain ⟨q1, q2, q3⟩ := (h3 o).1 ho
      refine ⟨q1, q2, ?_⟩
      rcases q3 with ⟨a1, a2, a3⟩ | a
      · exact Or.inl ⟨a1, a2, (h17 o ho hl a1).trans a3⟩
      · exact Or.inr a
  · rw [e 4 (by omega)] at ho hp
    rw [e 21 (by omega)] at he
    rw [h25] at hvo hvp
    cases hlo : L o with
    | true => rw [hlo] at hvo; cases hvo
    | false =>
      cases hlp : L p with
      | true => rw [hlp] at hvp; cases hvp
      | false =>
        rw [hlo] at hvo
        rw [hlp] at hvp
        exact hd o p ho hp hvo hvp he
def tbS (S : St) (x : Nat) : St := up (up S 25 x 0) 27 x 1
theorem tbS_C {S : St} {x : Nat} : ∀ f, f ≠ 27 → up S 25 x 0 f = tbS S x f := fun f hf => (up_ne hf).symm
theorem tbS_M {S : St} {x : Nat} : ∀ f, f ≠ 22 → f ≠ 25 → up S 27 x 1 f = tbS S x f := fun f _ hf => by
  unfold tbS
  rw [up_comm (by decide), up_ne hf]
theorem inv_takeBack {n : Nat} {S : St} (h : Inv n S) {x : Nat} (hx : x < S 4 0) : Inv n (tbS S x) := by
  refine inv_off h ((h.1.up (by omega)).up (by omega)) ((h.2.1.up (by omega)).up (by omega)) (fun o => decide (o = x)) (fun o ho => by have := of_decide_eq_true ho; omega) (fun f hf => (up_ne (by omega)).trans (up_ne (by omega))) (fun o => ?_) (fun o => ?_) (fun o _ _ _ => ?_)
  · show up (up S 25 x 0) 27 x 1 25 o = _
    rw [up_ne (by decide), up_f, upf_eq]
    by_cases e : o = x
    · rw [if_pos e, if_pos (decide_eq_true e)]
    · rw [if_neg e, if_neg (by rw [decide_eq_false e]; decide)]
  · show up (up S 25 x 0) 27 x 1 27 o = _
    rw [up_f, upf_eq, up_ne (by decide)]
    by_cases e : o = x
    · rw [if_pos e, if_pos (decide_eq_true e)]
    · rw [if_neg e, if_neg (by rw [decide_eq_false e]; decide)]
  · show up (up S 25 x 0) 27 x 1 17 _ = _
    rw [up_ne (by decide), up_ne (by decide)]
theorem comp_live (S : St) {N : Nat} : ∀ m pre l, (∀ q, q < pre.length → S 25 (g0 pre q) ≠ 0) → comp S N m pre = some l → ∀ q, q < l.length → S 25 (g0 l q) ≠ 0
  | 0, pre, l, hp, h => by
    unfold comp at h
    split at h
    · cases h; exact hp
    · cases h
  | m + 1, pre, l, hp, h => by
    rw [comp_s] at h
    refine scan_prop (P := fun l => ∀ q, q < l.length → S 25 (g0 l q) ≠ 0) (fun x y hf => ?_) _ _ l h
    unfold fcp at hf
    split at hf
    · rename_i hcf
      refine comp_live S m _ _ (fun q hq => ?_) hf
      rw [List.length_append, List.length_singleton] at hq
      by_cases e : q = pre.length
      · rw [e, g0_last]
        unfold cfL at hcf
        exact of_decide_eq_true (Bool.and_eq_true_iff.mp (Bool.and_eq_true_iff.mp hcf).1).1
      · rw [g0_app (by omega)]; exact hp q (by omega)
    · cases hf
theorem ringL_live {S : St} {N len : Nat} {l : List Nat} (h : ringL S N len = some l) : ∀ q, q < l.length → S 25 (g0 l q) ≠ 0 := by
  refine scan_prop (P := fun l => ∀ q, q < l.length → S 25 (g0 l q) ≠ 0) (fun x y hy => ?_) _ _ l h
  unfold topf at hy
  split at hy
  · rename_i h25
    refine comp_live S _ _ _ (fun q hq => ?_) hy
    have e : q = 0 := by simpa using hq
    subst e
    exact h25
  · cases hy
def trX (S : St) (l : List Nat) : Nat → St
  | 0 => S
  | i + 1 => up (up (up (trX S l i) 17 (S 21 (g0 l i)) (S 24 (g0 l (nxp l i)))) 25 (g0 l i) 0) 27 (g0 l i) 1
theorem trX_s (S : St) (l : List Nat) (i : Nat) : trX S l (i + 1) = up (up (up (trX S l i) 17 (S 21 (g0 l i)) (S 24 (g0 l (nxp l i)))) 25 (g0 l i) 0) 27 (g0 l i) 1 := rfl
theorem upf_cong {g h : Nat → Nat} {k v : Nat} (e : g = h) : upf g k v = upf h k v := by rw [e]
theorem trX_C {S : St} {l : List Nat} : ∀ i f, f ≠ 27 → trC S l i f = trX S l i f
  | 0, _, _ => rfl
  | i + 1, f, hf => by
    rw [trC_s, trX_s, up_ne hf]
    by_cases e : f = 25
    · subst e
      rw [up_f, up_f, up_ne (by decide), up_ne (by decide)]
      exact upf_cong (trX_C i 25 (by decide))
    · rw [up_ne e, up_ne e]
      by_cases e2 : f = 17
      · subst e2
        rw [up_f, up_f]
        exact upf_cong (trX_C i 17 (by decide))
      · rw [up_ne e2, up_ne e2]
        exact trX_C i f hf
theorem trX_M {S : St} {l : List Nat} : ∀ i f, f ≠ 22 → f ≠ 25 → trM S l i f = trX S l i f
  | 0, _, _, _ => rfl
  | i + 1, f, h22, hf => by
    rw [trM_s, trX_s, up_comm (f := 25) (g := 27) (by decide), up_ne hf]
    by_cases e : f = 27
    · subst e
      rw [up_f, up_f, up_ne (by decide), up_ne (by decide)]
      exact upf_cong (trX_M i 27 (by decide) (by decide))
    · rw [up_ne e, up_ne e]
      by_cases e2 : f = 17
      · subst e2
        rw [up_f, up_f]
        exact upf_cong (trX_M i 17 (by decide) (by decide))
      · rw [up_ne e2, up_ne e2]
        exact trX_M i f h22 hf
theorem trX_ne {S : St} {l : List Nat} {f : Nat} (h : f ≠ 17) (h2 : f ≠ 25) (h3 : f ≠ 27) : ∀ i, trX S l i f = S f
  | 0 => rfl
  | i + 1 => by rw [trX_s, up_ne h3, up_ne h2, up_ne h, trX_ne h h2 h3 i]
def inL (l : List Nat) (i : Nat) : Nat → Bool := fun o => anyB (fun q => decide (g0 l q = o)) i
theorem inL_s (l : List Nat) (i o : Nat) : inL l (i + 1) o = (inL l i o || decide (g0 l i = o)) := rfl
theorem trX_25 {S : St} {l : List Nat} : ∀ i o, trX S l i 25 o = if inL l i o then 0 else S 25 o
  | 0, _ => rfl
  | i + 1, o => by
    rw [trX_s, up_ne (by decide), up_f, upf_eq, up_ne (by decide), trX_25 i o, inL_s]
    by_cases e : o = g0 l i
    · rw [if_pos e, decide_eq_true e.symm, Bool.or_true]; rfl
    · rw [if_neg e, decide_eq_false (fun q => e q.symm), Bool.or_false]
theorem trX_27 {S : St} {l : List Nat} : ∀ i o, trX S l i 27 o = if inL l i o then 1 else S 27 o
  | 0, _ => rfl
  | i + 1, o => by
    rw [trX_s, up_f, upf_eq, up_ne (by decide), up_ne (by decide), trX_27 i o, inL_s]
    by_cases e : o = g0 l i
    · rw [if_pos e, decide_eq_true e.symm, Bool.or_true]; rfl
    · rw [if_neg e, decide_eq_false (fun q => e q.symm), Bool.or_false]
theorem trX_17 {S : St} {l : List Nat} {x : Nat} : ∀ i, (∀ q, q < i → S 21 (g0 l q) ≠ x) → trX S l i 17 x = S 17 x
  | 0, _ => rfl
  | i + 1, h => by
    rw [trX_s, up_ne (by decide), up_ne (by decide), up_nk (fun q => h i (by omega) q.symm)]
    exact trX_17 i (fun q hq => h q (by omega))
theorem inL_ex {l : List Nat} {o : Nat} : ∀ {i : Nat}, inL l i o = true → ∃ q, q < i ∧ g0 l q = o
  | 0, h => by cases h
  | i + 1, h => by
    rw [inL_s] at h
    rcases Bool.or_eq_true_iff.mp h with h | h
    · obtain ⟨q, hq, e⟩ := inL_ex h
      exact ⟨q, by omega, e⟩
    · exact ⟨i, by omega, of_decide_eq_true h⟩
theorem inL_no {l : List Nat} {o i q : Nat} (h : inL l i o = false) (hq : q < i) : g0 l q ≠ o := of_decide_eq_false (anyB_no h q hq)
theorem trX_BR {n : Nat} {S : St} {l : List Nat} (h : Inv n S) : ∀ i, Bd n (trX S l i) ∧ Vr (trX S l i)
  | 0 => ⟨h.1, h.2.1⟩
  | i + 1 => by
    obtain ⟨h1, h2⟩ := trX_BR h (l := l) i
    have hb := h.1 24 (g0 l (nxp l i))
    exact ⟨((h1.up (by omega)).up (by omega)).up (by omega), ((h2.up (by omega)).up (by omega)).up (by omega)⟩
theorem inv_trade {n : Nat} {S : St} (h : Inv n S) : Inv n (trX S (lstO (frl S)) (lenO (frl S))) := by
  cases hf : frl S with
  | none => exact h
  | some l =>
    obtain ⟨j, -, -, hr⟩ := frk_ex hf
    have hbd := ringL_bd hr
    have hlv := ringL_live hr
    show Inv n (trX S l l.length)
    obtain ⟨hB, hR⟩ := trX_BR h (l := l) l.length
    have h3 := h.2.2.1
    have hd := h.2.2.2
    refine inv_off h hB hR (inL l l.length) (fun o ho => ?_) (fun f hf => trX_ne (by omega) (by omega) (by omega) _) (trX_25 _) (trX_27 _) (fun o ho hno hv => trX_17 _ (fun q hq he => ?_))
    · obtain ⟨q, hq, rfl⟩ := inL_ex ho
      exact hbd q hq
    · have h2 := h3.lt2 (g0 l q)
      have h0 := hlv q hq
      exact inL_no hno hq (hd _ _ (hbd q hq) ho (by omega) hv he)
theorem thr_m1 (b1 b2 b3 : Bool) : thr b1 (b1 && b2) (b1 && b3) = thr b1 b2 b3 := by cases b1 <;> cases b2 <;> cases b3 <;> rfl
theorem thr_m2 (b1 b2 b3 : Bool) : thr b1 b2 (b1 && b3) = thr b1 b2 b3 := by cases b1 <;> cases b2 <;> cases b3 <;> rfl
theorem thr_m3 {b1 b2 b3 : Bool} (h : b1 = true → b2 = b3) : thr b1 (b1 && b2) true = thr b1 b3 true := by
  cases b1
  · rfl
  · rw [h rfl]; rfl
theorem thr_m4 (b1 b2 b3 : Bool) : thr b1 (b1 && b2) ((b1 && b2) && b3) = thr b1 b2 b3 := by cases b1 <;> cases b2 <;> cases b3 <;> rfl
theorem thr_m5 {b1 b2 b3 b4 : Bool} (h : b1 = true → b3 = b4) : thr b1 (b1 && b2) b3 = thr b1 b2 b4 := by
  cases b1
  · rfl
  · rw [h rfl]; cases b2 <;> rfl
/-- the start -/
def S0 : St := up (up (fun _ _ => 0) 3 1 4) 3 2 2
def Z0 : St := fun _ _ => 0
theorem inv_0 : Inv 0 S0 := by
  have hb : Bd 0 Z0 := fun _ _ => Nat.zero_le _
  have e : ∀ f, f ≠ 3 → S0 f = fun _ => 0 := fun f hf => (up_ne hf).trans (up_ne hf)
  refine ⟨(hb.up (by omega)).up (by omega), ⟨?_, ?_, ?_, fun k => ?_, fun d => ?_, fun d p hd => ?_, fun o => ?_, ?_⟩, fun o => ?_, fun o p ho => ?_⟩
  · rw [e 2 (by decide)]; exact Nat.zero_le _
  · show up (up (fun _ _ => 0) 3 1 4) 3 2 2 3 0 ≤ 12
    rw [up_nk (by decide), up_nk (by decide)]
    exact Nat.zero_le _
  · rw [e 4 (by decide)]; exact Nat.zero_le _
  · rw [e 15 (by decide)]; exact Nat.succ_pos _
  · rw [e 19 (by decide)]; exact Nat.zero_le _
  · rw [e (30 + d) (by omega)]; exact Nat.succ_pos _
  · rw [e 21 (by decide)]; exact Nat.succ_pos _
  · show 4 ≤ up (up (fun _ _ => 0) 3 1 4) 3 2 2 3 1 ∧ _ ≤ 10
    rw [up_nk (by decide), up_same]; decide
  · rw [e 4 (by decide), e 25 (by decide), e 27 (by decide)]
    exact ⟨fun q => absurd q (Nat.not_lt_zero o), fun _ => ⟨rfl, rfl⟩⟩
  · rw [e 4 (by decide)] at ho
    exact absurd ho (Nat.not_lt_zero o)
end INV2
