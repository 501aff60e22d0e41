/-! The first ring is a ring; without one of two, no two offers give to one another. -/
section RINGSPEC
theorem scan_ex {β : Type} {f : Nat → Option β} {y : β} : ∀ {n i : Nat}, scan f n i = some y → ∃ x, i ≤ x ∧ x < i + n ∧ f x = some y
  | 0, i, h => by cases h
  | n + 1, i, h => by
    cases hf : f i with
    | some z => rw [scan_y hf] at h; cases h; exact ⟨i, Nat.le_refl _, by omega, hf⟩
    | none =>
      rw [scan_n hf] at h
      obtain ⟨x, h1, h2, h3⟩ := scan_ex h
      exact ⟨x, by omega, by omega, h3⟩
theorem scan_none {β : Type} {f : Nat → Option β} : ∀ {n i : Nat}, scan f n i = none → ∀ x, i ≤ x → x < i + n → f x = none
  | 0, i, _, x, h1, h2 => absurd h2 (by omega)
  | n + 1, i, h, x, h1, h2 => by
    cases hf : f i with
    | some z => rw [scan_y hf] at h; cases h
    | none =>
      rw [scan_n hf] at h
      by_cases e : x = i
      · rw [e]; exact hf
      · exact scan_none h x (by omega) (by omega)
/-- a row of offers, each giving to the next, of different collectors, the first the lowest -/
def rowP (S : St) (l : List Nat) : Prop := (∀ q, q + 1 < l.length → S 22 (g0 l q) = S 23 (g0 l (q + 1))) ∧ (∀ p q, p < q → q < l.length → S 24 (g0 l p) ≠ S 24 (g0 l q)) ∧ ∀ q, 0 < q → q < l.length → g0 l 0 < g0 l q
theorem rowP_app {S : St} {pre : List Nat} {x : Nat} (h : rowP S pre) (h1 : 1 ≤ pre.length) (hx : g0 pre 0 < x) (hc : cfL S pre x = true) : rowP S (pre ++ [x]) := by
  obtain ⟨a1, a2, a3⟩ := h
  unfold cfL at hc
  obtain ⟨hc1, hc3⟩ := Bool.and_eq_true_iff.mp hc
  obtain ⟨-, hc2⟩ := Bool.and_eq_true_iff.mp hc1
  have hg : S 22 (g0 pre (pre.length - 1)) = S 23 x := of_decide_eq_true hc2
  refine ⟨fun q hq => ?_, fun p q hp hq => ?_, fun q h0 hq => ?_⟩
  · rw [app_len] at hq
    rw [g0_app (show q < pre.length by omega)]
    by_cases e : q + 1 = pre.length
    · rw [e, g0_last, ← hg, show pre.length - 1 = q by omega]
    · rw [g0_app (show q + 1 < pre.length by omega)]
      exact a1 q (by omega)
  · rw [app_len] at hq
    rw [g0_app (show p < pre.length by omega)]
    by_cases e : q = pre.length
    · rw [e, g0_last]
      exact of_decide_eq_true (allB_at hc3 (show p < pre.length by omega))
    · rw [g0_app (show q < pre.length by omega)]
      exact a2 p q hp (by omega)
  · rw [app_len] at hq
    rw [g0_app (show 0 < pre.length by omega)]
    by_cases e : q = pre.length
    · rw [e, g0_last]; exact hx
    · rw [g0_app (show q < pre.length by omega)]
      exact a3 q h0 (by omega)
theorem comp_row (S : St) {N : Nat} : ∀ m pre l, 1 ≤ pre.length → rowP S pre → comp S N m pre = some l → rowP S l ∧ S 22 (g0 l (l.length - 1)) = S 23 (g0 l 0)
  | 0, pre, l, h1, hp, h => by
    unfold comp at h
    split at h
    · rename_i hg
      cases h
      exact ⟨hp, of_decide_eq_true hg⟩
    · cases h
  | m + 1, pre, l, h1, hp, h => by
    rw [comp_s] at h
    obtain ⟨x, hx1, hx2, hf⟩ := scan_ex h
    unfold fcp at hf
    split at hf
    · rename_i hcf
      exact comp_row S m _ l (by rw [app_len]; omega) (rowP_app hp h1 (by omega) hcf) hf
    · cases hf
/-- the first ring's places -/
def lr (S : St) (p : Nat) : Nat := g0 (lstO (frl S)) p
theorem frl_some {S : St} (h : 0 < lenO (frl S)) : ∃ l, frl S = some l ∧ lstO (frl S) = l ∧ lenO (frl S) = l.length := by
  cases hf : frl S with
  | none => rw [hf] at h; exact absurd h (Nat.lt_irrefl 0)
  | some l => exact ⟨l, rfl, rfl, rfl⟩
theorem frl_ring {S : St} {l : List Nat} (h : frl S = some l) : 2 ≤ l.length ∧ l.length ≤ 4 ∧ rowP S l ∧ S 22 (g0 l (l.length - 1)) = S 23 (g0 l 0) ∧ (∀ q, q < l.length → S 25 (g0 l q) ≠ 0) ∧ ∀ q, q < l.length → g0 l q < S 4 0 := by
  obtain ⟨j, h1, h2, hr⟩ := frk_ex h
  have hl := ringL_len (by omega) hr
  refine ⟨by omega, by omega, ?_⟩
  have hlv := ringL_live hr
  have hbd := ringL_bd hr
  obtain ⟨x, -, -, hx⟩ := scan_ex hr
  unfold topf at hx
  split at hx
  · have h3 := comp_row S (j - 1) [x] l (Nat.le_refl 1) ⟨fun q hq => absurd hq (by simp), fun p q hp hq => absurd hq (by simp; omega), fun q h0 hq => absurd hq (by simp; omega)⟩ hx
    exact ⟨h3.1, h3.2, hlv, hbd⟩
  · cases hx
theorem len_ne1 (S : St) : lenO (frl S) ≠ 1 := fun e => by
  obtain ⟨l, h1, h2, h3⟩ := frl_some (S := S) (by omega)
  have := frl_ring h1
  omega
theorem nxp_lt {S : St} {p : Nat} (h : p < lenO (frl S)) : nxp (lstO (frl S)) p < lenO (frl S) := by
  obtain ⟨l, h1, h2, h3⟩ := frl_some (S := S) (by omega)
  unfold nxp
  rw [h2, h3]
  split <;> omega
theorem lr_lt {S : St} {p : Nat} (h : p < lenO (frl S)) : lr S p < S 4 0 := by
  obtain ⟨l, h1, h2, h3⟩ := frl_some (S := S) (by omega)
  unfold lr
  rw [h2]
  exact (frl_ring h1).2.2.2.2.2 p (by omega)
theorem lr_live {S : St} {p : Nat} (h : p < lenO (frl S)) : S 25 (lr S p) ≠ 0 := by
  obtain ⟨l, h1, h2, h3⟩ := frl_some (S := S) (by omega)
  unfold lr
  rw [h2]
  exact (frl_ring h1).2.2.2.2.1 p (by omega)
theorem lr_low {S : St} {p : Nat} (h : p < lenO (frl S)) : lr S 0 ≤ lr S p := by
  obtain ⟨l, h1, h2, h3⟩ := frl_some (S := S) (by omega)
  unfold lr
  rw [h2]
  by_cases e : p = 0
  · rw [e]; exact Nat.le_refl _
  · exact Nat.le_of_lt ((frl_ring h1).2.2.1.2.2 p (by omega) (by omega))
theorem lr_dist {S : St} {p q : Nat} (hp : p < q) (h : q < lenO (frl S)) : S 24 (lr S p) ≠ S 24 (lr S q) := by
  obtain ⟨l, h1, h2, h3⟩ := frl_some (S := S) (by omega)
  unfold lr
  rw [h2]
  exact (frl_ring h1).2.2.1.2.1 p q hp (by omega)
theorem lr_inj {S : St} {p q : Nat} (hp : p < q) (h : q < lenO (frl S)) : lr S p ≠ lr S q := fun e => lr_dist hp h (by rw [e])
theorem lr_give {S : St} {p : Nat} (h : p < lenO (frl S)) : S 22 (lr S p) = S 23 (lr S (nxp (lstO (frl S)) p)) := by
  obtain ⟨l, h1, h2, h3⟩ := frl_some (S := S) (by omega)
  unfold lr nxp
  rw [h2]
  obtain ⟨-, -, h4, h5, -, -⟩ := frl_ring h1
  by_cases e : p + 1 < l.length
  · rw [if_pos e]; exact h4.1 p e
  · rw [if_neg e, ← h5, show l.length - 1 = p by omega]
theorem rg_in {S : St} {p : Nat} (h : p < lenO (frl S)) : rgN S p = nI (lr S p) := by unfold rgN lr; rw [if_pos h]
theorem rg_out {S : St} {p : Nat} (h : lenO (frl S) ≤ p) : rgN S p = -1 := by unfold rgN; rw [if_neg (by omega)]
theorem rg_neg {S : St} (hV : V S) {p : Nat} (h : rgN S p < 0) : lenO (frl S) ≤ p := by
  apply Nat.le_of_not_lt
  intro q
  rw [rg_in q] at h
  have h1 := lr_lt q
  have h2 := V_offers hV
  exact nI_pos (show lr S p < 2 ^ 31 by omega) h
theorem rg_pos {S : St} {p : Nat} (h : ¬ rgN S p < 0) : p < lenO (frl S) := by
  apply Nat.lt_of_not_le
  intro q
  rw [rg_out q] at h
  exact h (by decide)
theorem two_no {S : St} (h : lenO (frl S) ≠ 2) {x y : Nat} (hxy : x < y) (hy : y < S 4 0) (h1 : S 25 x ≠ 0) (h2 : S 25 y ≠ 0) (h3 : S 24 x ≠ S 24 y) (h4 : S 22 x = S 23 y) : S 22 y ≠ S 23 x := fun h5 => by
  cases hr : ringL S (S 4 0) 2 with
  | some l =>
    rw [frl_2 hr] at h
    exact h (ringL_len (by decide) hr)
  | none =>
    have h6 := scan_none hr x (Nat.zero_le x) (by omega)
    rw [topf_c h1, show 2 - 1 = 0 + 1 from rfl, comp_s] at h6
    have h7 := scan_none h6 y (by show x + 1 ≤ y; omega) (by show y < x + 1 + (S 4 0 - (x + 1)); omega)
    have hc : cfL S [x] y = true := cfL_y h2 (decide_eq_true h4) (allB_of fun q hq => by
      have e : q = 0 := by simpa using hq
      subst e
      exact decide_eq_true h3)
    rw [fcp_c hc] at h7
    have h8 : comp S (S 4 0) 0 [x, y] = some [x, y] := by
      unfold comp
      exact if_pos (decide_eq_true h5)
    rw [show [x] ++ [y] = [x, y] from rfl, h8] at h7
    cases h7
theorem of_live {n : Nat} {S : St} (hI : Inv n S) {o : Nat} (ho : o < S 4 0) (h : S 25 o ≠ 0) : S 17 (S 21 o) = S 24 o := by
  rcases (hI.2.2.1 o).1 ho with ⟨-, -, ⟨-, -, q⟩ | ⟨q, -⟩⟩
  · exact q
  · exact absurd q h
theorem of_card {n : Nat} {S : St} (hI : Inv n S) {o : Nat} (ho : o < S 4 0) : S 21 o < S 2 0 := ((hI.2.2.1 o).1 ho).1
theorem of_kind {n : Nat} {S : St} (hI : Inv n S) {o : Nat} (ho : o < S 4 0) : S 22 o = S 15 (S 21 o) := ((hI.2.2.1 o).1 ho).2.1
def t2 : Nat → Nat
  | 0 => 0
  | u + 1 => t2 u + 2 * u
theorem t2_s (u : Nat) : t2 (u + 1) = t2 u + 2 * u := rfl
theorem t2_le : ∀ u, u < 41 → t2 u ≤ 1560 := by decide +kernel
end RINGSPEC
