section SPEC11
theorem fr_step (d a f : Bool) : (d && !(a || f)) = ((d && !a) && !f) := by cases d <;> cases a <;> cases f <;> rfl
theorem frB_lt {S : St} {x : Int32} (h : frB S x = true) : S 4 0 < 40 := by
  unfold frB at h
  exact of_decide_eq_true (Bool.and_eq_true_iff.mp h).1
/-- the reference's question: can x stand behind the row, of a ring of len -/
def fitB (S : St) (pre : List Nat) (x len : Nat) : Bool :=
  opB S x && (decide (pre.length = 0) || (decide (g0 pre 0 < x) && gvM S (g0 pre (pre.length - 1)) x)) && allB (fun q => decide (S 24 (g0 pre q) ≠ S 24 x)) pre.length && (decide (pre.length < len - 1) || gvM S x (g0 pre 0))
/-- open and live are one, and what is given is the card's kind -/
def Lk (S : St) : Prop := (∀ o, o < S 4 0 → opB S o = decide (S 25 o ≠ 0)) ∧ ∀ o, o < S 4 0 → S 22 o = S 15 (S 21 o)
def fmM (S : St) (len m : Nat) (pre : List Nat) (x : Nat) : Option (List Nat) := if fitB S pre x len then comp S (S 4 0) m (pre ++ [x]) else none
theorem gvM_B {S : St} (hL : Lk S) {o x : Nat} (ho : o < S 4 0) (h : S 24 o ≠ S 24 x) : gvM S o x = gvB S o x := by
  unfold gvM gvB
  rw [decide_eq_true h, hL.2 o ho]; rfl
theorem allB_at {f : Nat → Bool} {i : Nat} : ∀ {n : Nat}, allB f n = true → i < n → f i = true
  | 0, _, h => absurd h (Nat.not_lt_zero i)
  | n + 1, h, hi => by
    have h2 : (allB f n && f n) = true := h
    obtain ⟨h3, h4⟩ := Bool.and_eq_true_iff.mp h2
    by_cases e : i = n
    · rw [e]; exact h4
    · exact allB_at h3 (by omega)
theorem g0_app0 {pre : List Nat} {x : Nat} (h : 1 ≤ pre.length) : g0 (pre ++ [x]) 0 = g0 pre 0 := g0_app (by omega)
theorem comp0_app {S : St} {N : Nat} {pre : List Nat} {x : Nat} (h : 1 ≤ pre.length) : comp S N 0 (pre ++ [x]) = if gvB S x (g0 pre 0) then some (pre ++ [x]) else none := by
  unfold comp
  rw [List.length_append, List.length_singleton, Nat.add_sub_cancel, g0_last, g0_app0 h]
theorem fm_eq {S : St} (hL : Lk S) {len m : Nat} {pre : List Nat} {x : Nat} (hp : 1 ≤ pre.length) (hlen : pre.length + (m + 1) = len) (hN : ∀ q, q < pre.length → g0 pre q < S 4 0) (hx : x < S 4 0) (hgt : g0 pre 0 < x) : fmM S len m pre x = fcp S (S 4 0) m pre x := by
  unfold fmM fcp
  have hcf : ∀ e : Bool, (opB S x && (decide (pre.length = 0) || (decide (g0 pre 0 < x) && gvM S (g0 pre (pre.length - 1)) x)) && allB (fun q => decide (S 24 (g0 pre q) ≠ S 24 x)) pre.length && e) = (cfL S pre x && e) := by
    intro e
    congr 1
    unfold cfL
    rw [hL.1 x hx, decide_eq_false (show ¬ pre.length = 0 by omega), decide_eq_true hgt, Bool.false_or, Bool.true_and]
    cases ha : allB (fun q => decide (S 24 (g0 pre q) ≠ S 24 x)) pre.length with
    | false => rw [Bool.and_false, Bool.and_false]
    | true =>
      have h1 := allB_at (i := pre.length - 1) ha (by omega)
      rw [gvM_B hL (hN _ (by omega)) (of_decide_eq_true h1)]
  unfold fitB
  rw [hcf]
  cases hc : cfL S pre x with
  | false => rfl
  | true =>
    rw [Bool.true_and, if_pos (show true = true from rfl)]
    by_cases hm : m = 0
    · subst hm
      rw [decide_eq_false (show ¬ pre.length < len - 1 by omega), Bool.false_or, comp0_app hp]
      have hall : allB (fun q => decide (S 24 (g0 pre q) ≠ S 24 x)) pre.length = true := by
        unfold cfL at hc
        exact (Bool.and_eq_true_iff.mp hc).2
      have h1 := of_decide_eq_true (allB_at (i := 0) hall (by omega))
      rw [gvM_B hL hx (fun e => h1 e.symm)]
      cases gvB S x (g0 pre 0) <;> rfl
    · rw [decide_eq_true (show pre.length < len - 1 by omega), Bool.true_or, if_pos rfl]
theorem fm_low {S : St} {len m : Nat} {pre : List Nat} {x : Nat} (hp : 1 ≤ pre.length) (h : x ≤ g0 pre 0) : fmM S len m pre x = none := by
  unfold fmM fitB
  rw [decide_eq_false (show ¬ pre.length = 0 by omega), decide_eq_false (show ¬ g0 pre 0 < x by omega)]
  simp
theorem scan_cong {β : Type} {f g : Nat → Option β} : ∀ {n i : Nat}, (∀ x, i ≤ x → x < i + n → f x = g x) → scan f n i = scan g n i
  | 0, _, _ => rfl
  | n + 1, i, h => by
    have h1 := h i (Nat.le_refl _) (by omega)
    cases hg : g i with
    | some y => rw [scan_y hg, scan_y (h1.trans hg)]
    | none => rw [scan_n hg, scan_n (h1.trans hg)]; exact scan_cong fun x hx hx2 => h x (by omega) (by omega)
theorem scan_skip {β : Type} {f : Nat → Option β} : ∀ {k n i : Nat}, (∀ x, i ≤ x → x < i + k → f x = none) → scan f (k + n) i = scan f n (i + k)
  | 0, n, i, _ => by rw [Nat.zero_add, Nat.add_zero]
  | k + 1, n, i, h => by
    rw [show k + 1 + n = (k + n) + 1 by omega, scan_n (h i (Nat.le_refl _) (by omega)), scan_skip (fun x hx hx2 => h x (by omega) (by omega)), show i + 1 + k = i + (k + 1) by omega]
theorem comp_M {S : St} (hL : Lk S) {len m : Nat} {pre : List Nat} (hp : 1 ≤ pre.length) (hlen : pre.length + (m + 1) = len) (hN : ∀ q, q < pre.length → g0 pre q < S 4 0) : scan (fmM S len m pre) (S 4 0) 0 = comp S (S 4 0) (m + 1) pre := by
  have h0 := hN 0 (by omega)
  rw [comp_s]
  have e : S 4 0 = (g0 pre 0 + 1) + (S 4 0 - (g0 pre 0 + 1)) := by omega
  have h1 := scan_skip (f := fmM S len m pre) (k := g0 pre 0 + 1) (n := S 4 0 - (g0 pre 0 + 1)) (i := 0) (fun x _ hx => fm_low hp (by omega))
  rw [← e, Nat.zero_add] at h1
  rw [h1]
  exact scan_cong fun x hx hx2 => fm_eq hL hp hlen hN (by omega) (by omega)
theorem ring_M {S : St} (hL : Lk S) {len m : Nat} (hlen : 0 + (m + 1) = len) (hm : 1 ≤ m) : scan (fmM S len m []) (S 4 0) 0 = ringL S (S 4 0) len := by
  unfold ringL
  refine scan_cong fun x _ hx => ?_
  unfold fmM topf fitB
  rw [hL.1 x (by omega)]
  simp only [List.length_nil, decide_true, Bool.true_or, Bool.and_true]
  have h0 : 0 < len - 1 := by omega
  have e1 : len - 1 = m := by omega
  rw [decide_eq_true h0, e1]
  simp [allB]
theorem fit_last {S : St} (hL : Lk S) {len : Nat} {pre : List Nat} {x : Nat} (hp : 1 ≤ pre.length) (hlen : pre.length + 1 = len) (hx : x < S 4 0) (h : fitB S pre x len = true) : comp S (S 4 0) 0 (pre ++ [x]) = some (pre ++ [x]) := by
  unfold fitB at h
  obtain ⟨h1, h2⟩ := Bool.and_eq_true_iff.mp h
  rw [decide_eq_false (show ¬ pre.length < len - 1 by omega), Bool.false_or] at h2
  obtain ⟨-, h4⟩ := Bool.and_eq_true_iff.mp h1
  have h5 := of_decide_eq_true (allB_at (i := 0) h4 (by omega))
  rw [gvM_B hL hx (fun e => h5 e.symm)] at h2
  rw [comp0_app hp, if_pos h2]
def hasPost (S J : St) (len : Nat) (r : Int32) (J1 : St) : Prop := r = nI (ringL S (S 4 0) len).isSome.toNat ∧ (∀ g, g ≠ 27 → J1 g = J g) ∧ ∀ l, ringL S (S 4 0) len = some l → agr (J1 27) l
def firstPost (S J : St) (r : Int32) (J1 : St) : Prop := r = nI (lenO (frl S)) ∧ (∀ g, g ≠ 27 → J1 g = J g) ∧ ∀ l, frl S = some l → agr (J1 27) l
theorem has_no {S J J1 : St} {len : Nat} (h : ringL S (S 4 0) len = none) (ho : ∀ g, g ≠ 27 → J1 g = J g) : hasPost S J len (nI 0) J1 := ⟨by rw [h]; rfl, ho, fun l hl => by rw [h] at hl; cases hl⟩
theorem has_yes {S J J1 : St} {len : Nat} {l : List Nat} (h : ringL S (S 4 0) len = some l) (ho : ∀ g, g ≠ 27 → J1 g = J g) (hl : agr (J1 27) l) : hasPost S J len (nI 1) J1 := ⟨by rw [h]; rfl, ho, fun l' hl' => by rw [h] at hl'; cases hl'; exact hl⟩
def trM (S : St) (l : List Nat) : Nat → St
  | 0 => S
  | i + 1 => up (up (trM S l i) 17 (S 21 (g0 l i)) (S 24 (g0 l (nxp l i)))) 27 (g0 l i) 1
theorem trM_s (S : St) (l : List Nat) (i : Nat) : trM S l (i + 1) = up (up (trM S l i) 17 (S 21 (g0 l i)) (S 24 (g0 l (nxp l i)))) 27 (g0 l i) 1 := rfl
theorem frl_2 {S : St} {l : List Nat} (h : ringL S (S 4 0) 2 = some l) : frl S = some l := frk_y h
theorem frl_3 {S : St} {l : List Nat} (h2 : ringL S (S 4 0) 2 = none) (h : ringL S (S 4 0) 3 = some l) : frl S = some l := (frk_n h2).trans (frk_y h)
theorem frl_4 {S : St} {l : List Nat} (h2 : ringL S (S 4 0) 2 = none) (h3 : ringL S (S 4 0) 3 = none) (h : ringL S (S 4 0) 4 = some l) : frl S = some l := (frk_n h2).trans ((frk_n h3).trans (frk_y h))
theorem frl_0 {S : St} (h2 : ringL S (S 4 0) 2 = none) (h3 : ringL S (S 4 0) 3 = none) (h : ringL S (S 4 0) 4 = none) : frl S = none := (frk_n h2).trans ((frk_n h3).trans (frk_n h))
theorem first_y {S J J1 : St} {len : Nat} {l : List Nat} (h2 : 1 ≤ len) (hr : ringL S (S 4 0) len = some l) (hf : frl S = some l) (ho : ∀ g, g ≠ 27 → J1 g = J g) (hl : agr (J1 27) l) : firstPost S J (nI len) J1 :=
  ⟨by rw [hf]; show nI len = nI l.length; rw [ringL_len h2 hr], ho, fun l' hl' => by rw [hf] at hl'; cases hl'; exact hl⟩
theorem first_n {S J J1 : St} (hf : frl S = none) (ho : ∀ g, g ≠ 27 → J1 g = J g) : firstPost S J (nI 0) J1 :=
  ⟨by rw [hf]; rfl, ho, fun l hl => by rw [hf] at hl; cases hl⟩
end SPEC11
