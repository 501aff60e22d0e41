section SPEC10
/-- an offer is open, as the reference asks it -/
def opB (S : St) (o : Nat) : Bool := decide (S 27 o = 0) && decide (S 17 (S 21 o) = S 24 o)
def gvM (S : St) (o x : Nat) : Bool := decide (S 24 o ≠ S 24 x) && decide (S 15 (S 21 o) = S 23 x)
def ocB (S : St) (x : Int32) : Nat → Bool := fun o => decide (nI (S 21 o) = x) && opB S o
def frB (S : St) (x : Int32) : Bool := decide (S 4 0 < 40) && !anyB (ocB S x) (S 4 0)
theorem anyB_succ (f : Nat → Bool) (n : Nat) : anyB f (n + 1) = (anyB f n || f n) := rfl
theorem up_id (S : St) (f k : Nat) : up S f k (S f k) = S := by
  funext g
  by_cases hg : g = f
  · subst hg
    rw [up_f]
    funext j
    rw [upf_eq]
    by_cases hj : j = k
    · rw [if_pos hj, hj]
    · rw [if_neg hj]
  · exact up_ne hg
def effN (S : St) (o x : Nat) (won : Bool) : Nat := if S 11 x ≠ 3 ∧ S 11 o = 1 ∧ won = true then 1 else if S 11 x ≠ 3 ∧ S 11 o = 2 ∧ won = false then 2 else 0
theorem shP_out {o n : Nat} {nx : Nat → Nat} {dr : Nat → Nat → Nat} (hd : ∀ s i, dr s i < i + 1 + 1) {q : Nat} (hq : q < o ∨ o + n ≤ q) : ∀ (i : Nat) {row : Nat → Nat} (s : Nat), i < n → shP o nx dr i row s q = row q
  | 0, row, s, hi => rfl
  | i + 1, row, s, hi => by
    have hj := hd (nx s) i
    rw [shP_s, shP_out hd hq i (nx s) (by omega), upf_ne (by omega), upf_ne (by omega)]
theorem shO_up {J : St} {Q o i j t t1 : Nat} (h1 : t1 = (t * 1103515245 + 12345) % 2147483648) (hj : j = t1 / 65536 % (i + 1 + 1)) : shO o i (up (up J Q (o + (i + 1)) (J Q (o + j))) Q (o + j) (J Q (o + (i + 1))) Q) t1 = shO o (i + 1) (J Q) t := by
  show shP o nxt drw i _ t1 = shP o nxt drw (i + 1) (J Q) t
  rw [shP_s, nxt_def, ← h1, drw_def, ← hj, up_f, up_f]
theorem cpo_step {J : St} {Q i o : Nat} {f : Nat → Nat} (h : ∀ p, p < i → J Q (o + p) = f p) : ∀ p, p < i + 1 → up J Q (o + i) (f i) Q (o + p) = f p := by
  intro p hp
  rw [up_f, upf_eq]
  by_cases e : p = i
  · rw [if_pos (by omega), e]
  · rw [if_neg (by omega)]
    exact h p (by omega)
def shMPost (S J : St) (d s o : Nat) (J1 : St) : Prop := (∀ g, g ≠ 26 → J1 g = J g) ∧ (∀ q, q < o ∨ o + S 19 d ≤ q → J1 26 q = J 26 q) ∧ ∀ p, p < S 19 d → J1 26 (o + p) = shuf S d s p
theorem fWo_min {n o f : Nat} : ∀ i, i ≤ n → prod (fWo n o (if f < n then f else n)) i = prod (fWo n o f) i
  | 0, _ => rfl
  | i + 1, h => by
    rw [prod_s, prod_s, fWo_min i (by omega)]
    congr 1
    unfold fWo
    by_cases e : f < n
    · rw [if_pos e]
    · rw [if_neg e, if_pos (by omega), if_pos (by omega)]
end SPEC10
