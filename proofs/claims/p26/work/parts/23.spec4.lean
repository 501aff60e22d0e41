section SPEC4
/-- the first of n places from i on at which f answers -/
def scan {β : Type} (f : Nat → Option β) : Nat → Nat → Option β
  | 0, _ => none
  | n + 1, i => match f i with
    | some y => some y
    | none => scan f n (i + 1)
theorem scan_y {β : Type} {f : Nat → Option β} {n i : Nat} {y : β} (h : f i = some y) : scan f (n + 1) i = some y := by unfold scan; rw [h]
theorem scan_n {β : Type} {f : Nat → Option β} {n i : Nat} (h : f i = none) : scan f (n + 1) i = scan f n (i + 1) := by
  show (match f i with | some y => some y | none => scan f n (i + 1)) = _
  rw [h]
theorem scan_at {β : Type} {f : Nat → Option β} {N x : Nat} (h : x < N) (hf : f x = none) : scan f (N - x) x = scan f (N - (x + 1)) (x + 1) := by
  rw [show N - x = (N - (x + 1)) + 1 by omega, scan_n hf]
theorem scan_hit {β : Type} {f : Nat → Option β} {N x : Nat} {y : β} (h : x < N) (hf : f x = some y) : scan f (N - x) x = some y := by
  rw [show N - x = (N - (x + 1)) + 1 by omega, scan_y hf]
theorem scan_end {β : Type} {f : Nat → Option β} {N x : Nat} (h : N ≤ x) : scan f (N - x) x = none := by
  rw [show N - x = 0 by omega]; rfl
/-- an open offer has the card -/
def liveB (S : St) (x : Nat) : Bool := anyB (fun o => decide (S 25 o ≠ 0) && decide (S 21 o = x)) (S 4 0)
theorem liveB_1 {S : St} {x o : Nat} (h : S 25 o = 0) : (decide (S 25 o ≠ 0) && decide (S 21 o = x)) = false := by rw [decide_eq_false (fun q => q h)]; rfl
theorem liveB_2 {S : St} {x o : Nat} (h : S 21 o ≠ x) : (decide (S 25 o ≠ 0) && decide (S 21 o = x)) = false := by rw [decide_eq_false h, Bool.and_false]
theorem liveB_y {S : St} {x o : Nat} (h1 : S 25 o ≠ 0) (h2 : S 21 o = x) : (decide (S 25 o ≠ 0) && decide (S 21 o = x)) = true := by rw [decide_eq_true h1, decide_eq_true h2]; rfl
def gvB (S : St) (o n : Nat) : Bool := decide (S 22 o = S 23 n)
def g0 (pre : List Nat) (q : Nat) : Nat := pre.getD q 0
/-- x can follow the row -/
def cfL (S : St) (pre : List Nat) (x : Nat) : Bool := decide (S 25 x ≠ 0) && gvB S (g0 pre (pre.length - 1)) x && allB (fun q => decide (S 24 (g0 pre q) ≠ S 24 x)) pre.length
/-- the first way to make the row a ring with m offers more -/
def comp (S : St) (N : Nat) : Nat → List Nat → Option (List Nat)
  | 0, pre => if gvB S (g0 pre (pre.length - 1)) (g0 pre 0) then some pre else none
  | m + 1, pre => scan (fun x => if cfL S pre x then comp S N m (pre ++ [x]) else none) (N - (g0 pre 0 + 1)) (g0 pre 0 + 1)
def fcp (S : St) (N m : Nat) (pre : List Nat) (x : Nat) : Option (List Nat) := if cfL S pre x then comp S N m (pre ++ [x]) else none
theorem comp_s (S : St) (N m : Nat) (pre : List Nat) : comp S N (m + 1) pre = scan (fcp S N m pre) (N - (g0 pre 0 + 1)) (g0 pre 0 + 1) := rfl
theorem scan_prop {β : Type} {P : β → Prop} {f : Nat → Option β} (h : ∀ x y, f x = some y → P y) : ∀ n i y, scan f n i = some y → P y
  | 0, i, y, e => by cases e
  | n + 1, i, y, e => by
    cases hf : f i with
    | some z => rw [scan_y hf] at e; cases e; exact h i _ hf
    | none => rw [scan_n hf] at e; exact scan_prop h n (i + 1) y e
theorem comp_len (S : St) (N : Nat) : ∀ m pre l, comp S N m pre = some l → l.length = pre.length + m
  | 0, pre, l, h => by
    unfold comp at h
    split at h
    · cases h; rfl
    · cases h
  | m + 1, pre, l, h => by
    rw [comp_s] at h
    refine scan_prop (P := fun l => l.length = pre.length + (m + 1)) (fun x y hy => ?_) _ _ l h
    unfold fcp at hy
    split at hy
    · have := comp_len S N m _ y hy
      rw [List.length_append] at this
      simp at this
      omega
    · cases hy
theorem g0_app {pre : List Nat} {x q : Nat} (h : q < pre.length) : g0 (pre ++ [x]) q = g0 pre q := by
  unfold g0
  rw [List.getD_eq_getElem?_getD, List.getD_eq_getElem?_getD, List.getElem?_append_left h]
theorem g0_last {pre : List Nat} {x : Nat} : g0 (pre ++ [x]) pre.length = x := by
  unfold g0
  simp
/-- the row in the cells is the list's -/
def agr (f : Nat → Nat) (l : List Nat) : Prop := ∀ q, q < l.length → f q = g0 l q
theorem agr_up {J : St} {Q x : Nat} {pre : List Nat} (h : agr (J Q) pre) : agr (up J Q pre.length x Q) (pre ++ [x]) := by
  intro q hq
  rw [List.length_append, List.length_singleton] at hq
  rw [up_f, upf_eq]
  by_cases e : q = pre.length
  · rw [if_pos e, e, g0_last]
  · rw [if_neg e, g0_app (by omega)]
    exact h q (by omega)
theorem agr_pre {f : Nat → Nat} {pre : List Nat} {x : Nat} (h : agr f (pre ++ [x])) : agr f pre := fun q hq => by
  rw [h q (by rw [List.length_append]; omega), g0_app hq]
def topf (S : St) (N len : Nat) (x : Nat) : Option (List Nat) := if S 25 x ≠ 0 then comp S N (len - 1) [x] else none
def ringL (S : St) (N len : Nat) : Option (List Nat) := scan (topf S N len) N 0
def frk (S : St) (N : Nat) : Nat → Nat → Option (List Nat)
  | 0, _ => none
  | k + 1, len => match ringL S N len with
    | some l => some l
    | none => frk S N k (len + 1)
/-- the first ring -/
def frl (S : St) : Option (List Nat) := frk S (S 4 0) 3 2
theorem frk_y {S : St} {N k len : Nat} {l : List Nat} (h : ringL S N len = some l) : frk S N (k + 1) len = some l := by unfold frk; rw [h]
theorem frk_n {S : St} {N k len : Nat} (h : ringL S N len = none) : frk S N (k + 1) len = frk S N k (len + 1) := by
  show (match ringL S N len with | some l => some l | none => frk S N k (len + 1)) = _
  rw [h]
def lenO : Option (List Nat) → Nat
  | none => 0
  | some l => l.length
theorem ringL_len {S : St} {N len : Nat} {l : List Nat} (h2 : 1 ≤ len) (h : ringL S N len = some l) : l.length = len := by
  refine scan_prop (P := fun l => l.length = len) (fun x y hy => ?_) _ _ l h
  unfold topf at hy
  split at hy
  · have := comp_len S N _ _ y hy
    simp at this
    omega
  · cases hy
def closePost (S J : St) (N m : Nat) (pre : List Nat) (r : Int32) (J1 : St) : Prop := r = nI (comp S N m pre).isSome.toNat ∧ (∀ g, g ≠ 26 → J1 g = J g) ∧ agr (J1 26) pre ∧ ∀ l, comp S N m pre = some l → agr (J1 26) l
def findPost (S J : St) (r : Int32) (J1 : St) : Prop := r = nI (lenO (frl S)) ∧ (∀ g, g ≠ 26 → J1 g = J g) ∧ ∀ l, frl S = some l → agr (J1 26) l
theorem cfL_1 {S : St} {pre : List Nat} {x : Nat} (h : S 25 x = 0) : cfL S pre x = false := by unfold cfL; rw [decide_eq_false (fun q => q h)]; rfl
theorem cfL_2 {S : St} {pre : List Nat} {x : Nat} (h : gvB S (g0 pre (pre.length - 1)) x = false) : cfL S pre x = false := by unfold cfL; rw [h, Bool.and_false]; rfl
theorem cfL_3 {S : St} {pre : List Nat} {x q : Nat} (hq : q < pre.length) (h : S 24 (g0 pre q) = S 24 x) : cfL S pre x = false := by
  unfold cfL
  rw [allB_no (f := fun q => decide (S 24 (g0 pre q) ≠ S 24 x)) (i := q) (decide_eq_false (fun e => e h)) hq, Bool.and_false]
theorem cfL_y {S : St} {pre : List Nat} {x : Nat} (h1 : S 25 x ≠ 0) (h2 : gvB S (g0 pre (pre.length - 1)) x = true) (h3 : allB (fun q => decide (S 24 (g0 pre q) ≠ S 24 x)) pre.length = true) : cfL S pre x = true := by
  unfold cfL
  rw [decide_eq_true h1, h2, h3]; rfl
theorem isSome_t {β : Type} {o : Option β} (h : o.isSome = true) : ∃ y, o = some y := by
  cases o with
  | none => cases h
  | some y => exact ⟨y, rfl⟩
theorem isSome_f {β : Type} {o : Option β} (h : o.isSome = false) : o = none := by
  cases o with
  | none => rfl
  | some y => cases h
/-- the room of a search m offers deep -/
def rmCl (m : Nat) : Room := { frames := m + 3, cells := 0, slots := 0, locals := 40 * m + 80 }
end SPEC4
section SPEC4b
theorem comp0_some (S : St) (N : Nat) (pre : List Nat) : (comp S N 0 pre).isSome = gvB S (g0 pre (pre.length - 1)) (g0 pre 0) := by
  unfold comp
  cases gvB S (g0 pre (pre.length - 1)) (g0 pre 0) <;> rfl
theorem close_0 {S J : St} {N t : Nat} {pre : List Nat} (ht : pre.length = t + 1) (hag : agr (J 26) pre) : closePost S J N 0 pre (nI (gvB S (g0 pre t) (g0 pre 0)).toNat) J := by
  refine ⟨?_, fun _ _ => rfl, hag, fun l h => ?_⟩
  · rw [comp0_some, show pre.length - 1 = t by omega]
  · unfold comp at h
    split at h
    · cases h; exact hag
    · cases h
theorem close_no {S J J1 : St} {N m : Nat} {pre : List Nat} (h : comp S N m pre = none) (ho : ∀ g, g ≠ 26 → J1 g = J g) (hag : agr (J1 26) pre) : closePost S J N m pre (nI 0) J1 :=
  ⟨by rw [h]; rfl, ho, hag, fun l hl => by rw [h] at hl; cases hl⟩
theorem close_yes {S J J1 : St} {N m : Nat} {pre l : List Nat} (h : comp S N m pre = some l) (ho : ∀ g, g ≠ 26 → J1 g = J g) (hag : agr (J1 26) pre) (hl : agr (J1 26) l) : closePost S J N m pre (nI 1) J1 :=
  ⟨by rw [h]; rfl, ho, hag, fun l' hl' => by rw [h] at hl'; cases hl'; exact hl⟩
theorem fcp_n {S : St} {N m : Nat} {pre : List Nat} {x : Nat} (h : cfL S pre x = false) : fcp S N m pre x = none := by unfold fcp; rw [if_neg (by rw [h]; decide)]
theorem fcp_c {S : St} {N m : Nat} {pre : List Nat} {x : Nat} (h : cfL S pre x = true) : fcp S N m pre x = comp S N m (pre ++ [x]) := by unfold fcp; rw [if_pos h]
theorem find_yes {S J J1 : St} {len : Nat} {l : List Nat} (h2 : 1 ≤ len) (h5 : len ≤ 4) (hf : frl S = frk S (S 4 0) (5 - len) len) (hr : ringL S (S 4 0) len = some l) (ho : ∀ g, g ≠ 26 → J1 g = J g) (hl : agr (J1 26) l) : findPost S J (nI len) J1 := by
  have hs : frl S = some l := by rw [hf, show 5 - len = (4 - len) + 1 by omega]; exact frk_y hr
  refine ⟨?_, ho, fun l' hl' => ?_⟩
  · rw [hs]
    show nI len = nI l.length
    rw [ringL_len h2 hr]
  · rw [hs] at hl'; cases hl'; exact hl
theorem find_no {S J J1 : St} (hf : frl S = none) (ho : ∀ g, g ≠ 26 → J1 g = J g) : findPost S J (nI 0) J1 :=
  ⟨by rw [hf]; rfl, ho, fun l hl => by rw [hf] at hl; cases hl⟩
theorem topf_n {S : St} {N len x : Nat} (h : S 25 x = 0) : topf S N len x = none := by unfold topf; rw [if_neg (fun q => q h)]
theorem topf_c {S : St} {N len x : Nat} (h : S 25 x ≠ 0) : topf S N len x = comp S N (len - 1) [x] := by unfold topf; rw [if_pos h]
theorem agr_one {J : St} {x : Nat} : agr (up J 26 0 x 26) [x] := by
  intro q hq
  have e : q = 0 := by simpa using hq
  subst e
  rw [up_same]; rfl
end SPEC4b
