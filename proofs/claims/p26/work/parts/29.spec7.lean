section SPEC7
def lstO : Option (List Nat) → List Nat
  | none => []
  | some l => l
theorem lstO_len (o : Option (List Nat)) : (lstO o).length = lenO o := by cases o <;> rfl
theorem comp_bd (S : St) {N : Nat} : ∀ m pre l, (∀ q, q < pre.length → g0 pre q < N) → comp S N m pre = some l → ∀ q, q < l.length → g0 l q < N
  | 0, pre, l, hp, h => by
    unfold comp at h
    split at h
    · cases h; exact hp
    · cases h
  | m + 1, pre, l, hp, h => by
    rw [comp_s] at h
    generalize hs : g0 pre 0 + 1 = i0 at h
    have key : ∀ n i, i + n ≤ N ∨ n = 0 → scan (fcp S N m pre) n i = some l → ∀ q, q < l.length → g0 l q < N := by
      intro n
      induction n with
      | zero => intro i _ e; cases e
      | succ n ih =>
        intro i hi e
        cases hf : fcp S N m pre i with
        | none => rw [scan_n hf] at e; exact ih (i + 1) (by omega) e
        | some z =>
          rw [scan_y hf] at e
          cases e
          unfold fcp at hf
          split at hf
          · refine comp_bd S m _ _ (fun q hq => ?_) hf
            rw [List.length_append, List.length_singleton] at hq
            by_cases e : q = pre.length
            · rw [e, g0_last]; omega
            · rw [g0_app (by omega)]; exact hp q (by omega)
          · cases hf
    exact key _ _ (by omega) h
theorem ringL_bd {S : St} {N len : Nat} {l : List Nat} (h : ringL S N len = some l) : ∀ q, q < l.length → g0 l q < N := by
  have key : ∀ n i, i + n ≤ N → scan (topf S N len) n i = some l → ∀ q, q < l.length → g0 l q < N := by
    intro n
    induction n with
    | zero => intro i _ e; cases e
    | succ n ih =>
      intro i hi e
      cases hf : topf S N len i with
      | none => rw [scan_n hf] at e; exact ih (i + 1) (by omega) e
      | some z =>
        rw [scan_y hf] at e
        cases e
        unfold topf at hf
        split at hf
        · refine comp_bd S _ _ _ (fun q hq => ?_) hf
          have e : q = 0 := by simpa using hq
          subst e
          show i < N
          omega
        · cases hf
  exact key N 0 (by omega) h
theorem frk_ex {S : St} {N : Nat} : ∀ {k len : Nat} {l : List Nat}, frk S N k len = some l → ∃ j, len ≤ j ∧ j < len + k ∧ ringL S N j = some l
  | 0, len, l, h => by cases h
  | k + 1, len, l, h => by
    cases hr : ringL S N len with
    | some z => rw [frk_y hr] at h; cases h; exact ⟨len, Nat.le_refl _, by omega, hr⟩
    | none =>
      rw [frk_n hr] at h
      obtain ⟨j, h1, h2, h3⟩ := frk_ex h
      exact ⟨j, by omega, by omega, h3⟩
theorem frl_bd (S : St) : ∀ q, q < (lstO (frl S)).length → g0 (lstO (frl S)) q < S 4 0 := by
  cases h : frl S with
  | none => intro q hq; exact absurd hq (Nat.not_lt_zero q)
  | some l =>
    obtain ⟨j, -, -, hr⟩ := frk_ex h
    exact ringL_bd hr
theorem frl_len (S : St) : lenO (frl S) ≤ 4 := by
  cases h : frl S with
  | none => exact Nat.zero_le _
  | some l =>
    obtain ⟨j, h1, h2, hr⟩ := frk_ex h
    show l.length ≤ 4
    rw [ringL_len (by omega) hr]
    omega
theorem agr_lst {S : St} {f : Nat → Nat} (h : ∀ l, frl S = some l → agr f l) : agr f (lstO (frl S)) := by
  cases hf : frl S with
  | none => intro q hq; exact absurd hq (Nat.not_lt_zero q)
  | some l => exact h l hf
def nxp (l : List Nat) (i : Nat) : Nat := if i + 1 < l.length then i + 1 else 0
/-- the first i cards of the ring traded (the house's own fields) -/
def trC (S : St) (l : List Nat) : Nat → St
  | 0 => S
  | i + 1 => up (up (trC S l i) 17 (S 21 (g0 l i)) (S 24 (g0 l (nxp l i)))) 25 (g0 l i) 0
theorem trC_s (S : St) (l : List Nat) (i : Nat) : trC S l (i + 1) = up (up (trC S l i) 17 (S 21 (g0 l i)) (S 24 (g0 l (nxp l i)))) 25 (g0 l i) 0 := rfl
theorem trC_ne {S : St} {l : List Nat} {f : Nat} (h : f ≠ 17) (h2 : f ≠ 25) : ∀ i, trC S l i f = S f
  | 0 => rfl
  | i + 1 => by rw [trC_s, up_ne h2, up_ne h, trC_ne h h2 i]
def rgN (S : St) (p : Nat) : Int32 := if p < lenO (frl S) then nI (g0 (lstO (frl S)) p) else -1
def prc (S : St) (k : Nat) : Nat := if S 13 k = 0 then 0 else (S 14 k + 1) * 100 / S 13 k
end SPEC7
