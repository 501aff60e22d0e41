section SPEC3
def hasB (S : St) (q k : Nat) : Nat → Bool := fun p => decide (S 17 p = q) && decide (S 15 p = k)
def hasN (S : St) (q k : Nat) : Nat := cnt (hasB S q k) (S 2 0)
theorem hasB_1 {S : St} {q k p : Nat} (h : S 17 p ≠ q) : hasB S q k p = false := by unfold hasB; rw [decide_eq_false h]; rfl
theorem hasB_2 {S : St} {q k p : Nat} (h : S 15 p ≠ k) : hasB S q k p = false := by unfold hasB; rw [decide_eq_false h, Bool.and_false]
theorem hasB_y {S : St} {q k p : Nat} (h1 : S 17 p = q) (h2 : S 15 p = k) : hasB S q k p = true := by unfold hasB; rw [decide_eq_true h1, decide_eq_true h2]; rfl
def nxt (s : Nat) : Nat := (s * 1103515245 + 12345) % 2147483648
/-- the exchanges of a shuffle, from the place i down; nx the next drawn number, dr the place drawn -/
def shG (nx : Nat → Nat) (dr : Nat → Nat → Nat) : Nat → (Nat → Nat) → Nat → (Nat → Nat)
  | 0, row, _ => row
  | i + 1, row, s => shG nx dr i (upf (upf row (i + 1) (row (dr (nx s) i))) (dr (nx s) i) (row (i + 1))) (nx s)
/-- the same in a row that begins at o -/
def shP (o : Nat) (nx : Nat → Nat) (dr : Nat → Nat → Nat) : Nat → (Nat → Nat) → Nat → (Nat → Nat)
  | 0, row, _ => row
  | i + 1, row, s => shP o nx dr i (upf (upf row (o + (i + 1)) (row (o + dr (nx s) i))) (o + dr (nx s) i) (row (o + (i + 1)))) (nx s)
theorem shG_s (nx : Nat → Nat) (dr : Nat → Nat → Nat) (i : Nat) (row : Nat → Nat) (s : Nat) : shG nx dr (i + 1) row s = shG nx dr i (upf (upf row (i + 1) (row (dr (nx s) i))) (dr (nx s) i) (row (i + 1))) (nx s) := rfl
theorem shP_s (o : Nat) (nx : Nat → Nat) (dr : Nat → Nat → Nat) (i : Nat) (row : Nat → Nat) (s : Nat) : shP o nx dr (i + 1) row s = shP o nx dr i (upf (upf row (o + (i + 1)) (row (o + dr (nx s) i))) (o + dr (nx s) i) (row (o + (i + 1)))) (nx s) := rfl
theorem upf_eq {g : Nat → Nat} {k v j : Nat} : upf g k v j = if j = k then v else g j := rfl
theorem shP_agree {n o : Nat} {nx : Nat → Nat} {dr : Nat → Nat → Nat} (hd : ∀ s i, dr s i < i + 1 + 1) : ∀ (i : Nat) {r1 r2 : Nat → Nat} (s : Nat), i < n → (∀ p, p < n → r1 p = r2 (o + p)) → ∀ p, p < n → shG nx dr i r1 s p = shP o nx dr i r2 s (o + p)
  | 0, r1, r2, s, hi, h, p, hp => h p hp
  | i + 1, r1, r2, s, hi, h, p, hp => by
    rw [shG_s, shP_s]
    have hj := hd (nx s) i
    generalize dr (nx s) i = j at hj ⊢
    refine shP_agree hd i (nx s) (by omega) (fun q hq => ?_) p hp
    rw [upf_eq, upf_eq, upf_eq, upf_eq, h (i + 1) hi, h j (by omega), h q hq]
    by_cases e1 : q = j
    · rw [if_pos e1, if_pos (show o + q = o + j by omega)]
    · rw [if_neg e1, if_neg (show ¬ o + q = o + j by omega)]
      by_cases e2 : q = i + 1
      · rw [if_pos e2, if_pos (show o + q = o + (i + 1) by omega)]
      · rw [if_neg e2, if_neg (show ¬ o + q = o + (i + 1) by omega)]
theorem shG_agree {n : Nat} {nx : Nat → Nat} {dr : Nat → Nat → Nat} (hd : ∀ s i, dr s i < i + 1 + 1) : ∀ (i : Nat) {r1 r2 : Nat → Nat} (s : Nat), i < n → (∀ p, p < n → r1 p = r2 p) → ∀ p, p < n → shG nx dr i r1 s p = shG nx dr i r2 s p
  | 0, r1, r2, s, hi, h, p, hp => h p hp
  | i + 1, r1, r2, s, hi, h, p, hp => by
    rw [shG_s, shG_s]
    have hj := hd (nx s) i
    generalize dr (nx s) i = j at hj ⊢
    refine shG_agree hd i (nx s) (by omega) (fun q hq => ?_) p hp
    rw [upf_eq, upf_eq, upf_eq, upf_eq, h (i + 1) hi, h j (by omega), h q hq]
theorem shG_lt {N : Nat} {nx : Nat → Nat} {dr : Nat → Nat → Nat} : ∀ (i : Nat) {r : Nat → Nat} (s : Nat), (∀ p, r p < N) → ∀ p, shG nx dr i r s p < N
  | 0, r, s, h, p => h p
  | i + 1, r, s, h, p => by
    rw [shG_s]
    refine shG_lt i (nx s) (fun q => ?_) p
    rw [upf_eq, upf_eq]
    by_cases e1 : q = dr (nx s) i
    · rw [if_pos e1]; exact h _
    · rw [if_neg e1]
      by_cases e2 : q = i + 1
      · rw [if_pos e2]; exact h _
      · rw [if_neg e2]; exact h _
def drw (s i : Nat) : Nat := s / 65536 % (i + 1 + 1)
theorem drw_lt (s i : Nat) : drw s i < i + 1 + 1 := Nat.mod_lt _ (by omega)
abbrev sh0 : Nat → (Nat → Nat) → Nat → (Nat → Nat) := shG nxt drw
abbrev shO (o : Nat) : Nat → (Nat → Nat) → Nat → (Nat → Nat) := shP o nxt drw
/-- deck d, shuffled by the seed s -/
def shuf (S : St) (d s : Nat) : Nat → Nat := sh0 (S 19 d - 1) (S (30 + d)) s
theorem shuf_lt {S : St} (hV : V S) {d : Nat} (hd : d < 12) (s p : Nat) : shuf S d s p < 80 := shG_lt _ _ (fun q => V_card hV d q hd) p
/-- what a shuffle leaves in the row Q -/
def shPost (S J : St) (d s Q : Nat) (J1 : St) : Prop := (∀ g, g ≠ Q → J1 g = J g) ∧ ∀ p, p < S 19 d → J1 Q p = shuf S d s p
theorem nxt_def (s : Nat) : nxt s = (s * 1103515245 + 12345) % 2147483648 := rfl
theorem drw_def (s i : Nat) : drw s i = s / 65536 % (i + 1 + 1) := rfl
theorem sh0_up {J : St} {Q i j t t1 : Nat} (h1 : t1 = (t * 1103515245 + 12345) % 2147483648) (hj : j = t1 / 65536 % (i + 1 + 1)) : sh0 i (up (up J Q (i + 1) (J Q j)) Q j (J Q (i + 1)) Q) t1 = sh0 (i + 1) (J Q) t := by
  show shG nxt drw i _ t1 = shG nxt drw (i + 1) (J Q) t
  rw [shG_s, nxt_def, ← h1, drw_def, ← hj, up_f, up_f]
theorem cp_step {J : St} {Q i : Nat} {f : Nat → Nat} (h : ∀ p, p < i → J Q p = f p) : ∀ p, p < i + 1 → up J Q i (f i) Q p = f p := by
  intro p hp
  rw [up_f, upf_eq]
  by_cases e : p = i
  · rw [if_pos e, e]
  · rw [if_neg e]
    exact h p (by omega)
theorem dec_nI {i : Nat} : nI (i + 1) + Int32.ofInt (-1) = nI i := pk_m1 i
def ptsN (p : Nat) (won : Bool) (t o : Nat) : Nat := if won then (if o ≠ 3 ∧ t = 1 then p + 1 + 1 else p + 1) else p
def ahdN (won : Bool) (t o : Nat) : Nat := if won then 0 else (if o ≠ 3 ∧ t = 2 then 2 else 0)
def sidePost (J : St) (X : Nat) (won : Bool) (t o : Nat) (J1 : St) : Prop := (∀ g, g ≠ X → J1 g = J g) ∧ J1 X 0 = ptsN (J X 0) won t o ∧ J1 X 1 = ahdN won t o
def startPost (S J : St) (d s X Q : Nat) (J1 : St) : Prop := (∀ g, g ≠ X → g ≠ Q → J1 g = J g) ∧ (∀ p, p < S 19 d → J1 Q p = shuf S d s p) ∧ J1 X 0 = 0 ∧ J1 X 1 = 0
end SPEC3
