section SPEC8
def prod (f : Nat → Nat) : Nat → Nat
  | 0 => 1
  | n + 1 => prod f n * f n
theorem prod_s (f : Nat → Nat) (n : Nat) : prod f (n + 1) = prod f n * f n := rfl
theorem prod_le {f g : Nat → Nat} : ∀ {n : Nat}, (∀ p, p < n → f p ≤ g p) → prod f n ≤ prod g n
  | 0, _ => Nat.le_refl _
  | n + 1, h => Nat.mul_le_mul (prod_le fun p hp => h p (by omega)) (h n (by omega))
theorem prod_0 {f : Nat → Nat} {i : Nat} (h : f i = 0) : ∀ {n : Nat}, i < n → prod f n = 0
  | 0, hi => absurd hi (Nat.not_lt_zero i)
  | n + 1, hi => by
    rw [prod_s]
    by_cases e : i = n
    · rw [← e, h, Nat.mul_zero]
    · rw [prod_0 h (by omega), Nat.zero_mul]
def fAll (n : Nat) : Nat → Nat := fun p => n - p
def fWo (n o f : Nat) : Nat → Nat := fun p => if p < f then o - p else n - p
/-- in how many orders of deck d some card of the kind k is among the first f -/
def ordN (S : St) (d k f : Nat) : Nat := prod (fAll (S 19 d)) (S 19 d) - prod (fWo (S 19 d) (S 19 d - mo S d k) f) (S 19 d)
theorem wo_le {n o f : Nat} (h : o ≤ n) (i : Nat) : prod (fWo n o f) i ≤ prod (fAll n) i := prod_le fun p _ => by
  unfold fWo fAll
  split <;> omega
theorem mul_tr {w o p : Nat} (h : p ≤ o ∨ w = 0) : nI w * (nI o - nI p) = nI (w * (o - p)) := by
  rcases h with h | h
  · rw [pk_sub h, pk_mul]
  · subst h
    rw [Nat.zero_mul, nI_0, Int32.zero_mul]
theorem wo_case {n o f i w : Nat} (hw : w = prod (fWo n o f) i) (hi : i < f) : i ≤ o ∨ w = 0 := by
  by_cases h : i ≤ o
  · exact Or.inl h
  · refine Or.inr (hw.trans (prod_0 (i := o) ?_ (by omega)))
    unfold fWo
    rw [if_pos (by omega)]
    omega
def sumN (f : Nat → Nat) : Nat → Nat
  | 0 => 0
  | n + 1 => sumN f n + f n
theorem sumN_s (f : Nat → Nat) (n : Nat) : sumN f (n + 1) = sumN f n + f n := rfl
/-- the orders that come of the cards laid, by going through them -/
def coN (n kb f : Nat) : Nat → Nat → Bool → Nat
  | 0, _, seen => seen.toNat
  | r + 1, lb, seen => sumN (fun p => if lb.testBit p then 0 else coN n kb f r (lb ||| 2 ^ p) (seen || (decide (n - (r + 1) < f) && kb.testBit p))) n
def coF (n kb f r lb : Nat) (seen : Bool) : Nat → Nat := fun p => if lb.testBit p then 0 else coN n kb f r (lb ||| 2 ^ p) (seen || (decide (n - (r + 1) < f) && kb.testBit p))
theorem coN_s (n kb f r lb : Nat) (seen : Bool) : coN n kb f (r + 1) lb seen = sumN (coF n kb f r lb seen) n := rfl
theorem coF_n {n kb f r lb p : Nat} {seen : Bool} (h : lb.testBit p = true) : coF n kb f r lb seen p = 0 := by unfold coF; rw [if_pos h]
theorem coF_y {n kb f r lb p : Nat} {seen s2 : Bool} (h : lb.testBit p = false) (h2 : (seen || (decide (n - (r + 1) < f) && kb.testBit p)) = s2) : coF n kb f r lb seen p = coN n kb f r (lb ||| 2 ^ p) s2 := by unfold coF; rw [if_neg (by rw [h]; decide), h2]
theorem fa_bit {n j : Nat} (hj : j < 31) : nI n &&& nI (2 ^ j) = 0 ↔ n.testBit j = false := by
  have h2 : (2 : Nat) ^ j < 2 ^ 31 := Nat.pow_lt_pow_right (by decide) hj
  have hle : n &&& 2 ^ j ≤ 2 ^ j := Nat.and_le_right
  have e : n &&& 2 ^ j = 0 ↔ n.testBit j = false := by
    constructor
    · intro h
      have h1 : (n &&& 2 ^ j).testBit j = false := by rw [h]; simp
      rw [Nat.testBit_and, Nat.testBit_two_pow_self, Bool.and_true] at h1
      exact h1
    · intro h
      apply Nat.eq_of_testBit_eq
      intro i
      rw [Nat.testBit_and, Nat.zero_testBit]
      by_cases q : i = j
      · subst q; rw [h]; rfl
      · rw [Nat.testBit_two_pow_of_ne (fun r => q r.symm), Bool.and_false]
  rw [fa_and, ← e]
  have e2 : nI (n &&& 2 ^ j) = 0 ↔ nI (n &&& 2 ^ j) = nI 0 := by rw [nI_0]
  rw [e2, nI_eq (by omega) (by decide)]
theorem bit_1 {n j : Nat} (hj : j < 31) (h : ¬ nI n &&& nI (2 ^ j) = 0) : n.testBit j = true := by
  cases hb : n.testBit j with
  | true => rfl
  | false => exact absurd ((fa_bit hj).mpr hb) h
theorem bit_0 {n j : Nat} (hj : j < 31) (h : nI n &&& nI (2 ^ j) = 0) : n.testBit j = false := (fa_bit hj).mp h
def rmCO (r : Nat) : Room := { frames := r + 1, cells := 0, slots := 0, locals := 40 * (r + 1) }
/-- a game: the points and what is ahead, of both, after i rounds over the rows r1, r2 -/
def gm (S : St) (r1 r2 : Nat → Nat) : Nat → Nat × Nat × Nat × Nat
  | 0 => (0, 0, 0, 0)
  | i + 1 =>
    let g := gm S r1 r2 i
    let k1 := S 15 (r1 i)
    let k2 := S 15 (r2 i)
    let w1 := decide (S 10 k2 + g.2.2.2 < S 10 k1 + g.2.1)
    let w2 := decide (S 10 k1 + g.2.1 < S 10 k2 + g.2.2.2)
    (ptsN g.1 w1 (S 11 k1) (S 11 k2), ahdN w1 (S 11 k1) (S 11 k2), ptsN g.2.2.1 w2 (S 11 k2) (S 11 k1), ahdN w2 (S 11 k2) (S 11 k1))
theorem ptsN_le (p : Nat) (w : Bool) (t o : Nat) : ptsN p w t o ≤ p + 2 := by
  unfold ptsN
  split
  · split <;> omega
  · omega
theorem ahdN_le (w : Bool) (t o : Nat) : ahdN w t o ≤ 2 := by
  unfold ahdN
  split
  · omega
  · split <;> omega
theorem gm_le (S : St) (r1 r2 : Nat → Nat) : ∀ i, (gm S r1 r2 i).1 ≤ 2 * i ∧ (gm S r1 r2 i).2.1 ≤ 2 ∧ (gm S r1 r2 i).2.2.1 ≤ 2 * i ∧ (gm S r1 r2 i).2.2.2 ≤ 2
  | 0 => ⟨Nat.le_refl _, Nat.zero_le 2, Nat.le_refl _, Nat.zero_le 2⟩
  | i + 1 => by
    obtain ⟨h1, h2, h3, h4⟩ := gm_le S r1 r2 i
    refine ⟨Nat.le_trans (ptsN_le _ _ _ _) (by omega), ahdN_le _ _ _, Nat.le_trans (ptsN_le _ _ _ _) (by omega), ahdN_le _ _ _⟩
def gmF (S : St) (x y p q : Nat) : Nat × Nat × Nat × Nat := gm S (shuf S x p) (shuf S y q) (S 3 1)
/-- the kinds below i of deck d have a win more -/
def gwS (S : St) (d : Nat) : Nat → St
  | 0 => S
  | i + 1 => if 0 < mo S d i then up (gwS S d i) 14 i (S 14 i + 1) else gwS S d i
theorem gwS_y {S : St} {d i : Nat} (h : 0 < mo S d i) : gwS S d (i + 1) = up (gwS S d i) 14 i (S 14 i + 1) := if_pos h
theorem gwS_n {S : St} {d i : Nat} (h : ¬ 0 < mo S d i) : gwS S d (i + 1) = gwS S d i := if_neg h
theorem gwS_ne {S : St} {d f : Nat} (h : f ≠ 14) : ∀ i, gwS S d i f = S f
  | 0 => rfl
  | i + 1 => by
    by_cases e : 0 < mo S d i
    · rw [gwS_y e, up_ne h, gwS_ne h i]
    · rw [gwS_n e, gwS_ne h i]
theorem gwS_hi {S : St} {d k : Nat} : ∀ i, i ≤ k → gwS S d i 14 k = S 14 k
  | 0, _ => rfl
  | i + 1, h => by
    by_cases e : 0 < mo S d i
    · rw [gwS_y e, up_nk (by omega), gwS_hi i (by omega)]
    · rw [gwS_n e, gwS_hi i (by omega)]
theorem gwS_V {S : St} (hV : V S) (h14 : ∀ k, S 14 k < 999999) (d : Nat) : ∀ i, V (gwS S d i)
  | 0 => hV
  | i + 1 => by
    by_cases e : 0 < mo S d i
    · rw [gwS_y e]; exact V_upx (gwS_V hV h14 d i) (by have := h14 i; omega) (by decide)
    · rw [gwS_n e]; exact gwS_V hV h14 d i
theorem mo_cong {S T : St} {d k : Nat} (h1 : T 15 = S 15) (h2 : T 19 = S 19) (h3 : T (30 + d) = S (30 + d)) : mo T d k = mo S d k := by
  unfold mo isK
  rw [h1, h2, h3]
def wonS (S : St) (x y : Nat) (a c : Nat) : St := if c < a then gwS S x 16 else if a < c then gwS S y 16 else S
theorem sub_le {a c : Nat} (ha : a < 2 ^ 30) (hc : c < 2 ^ 30) : nI a - nI c ≤ 0 ↔ a ≤ c := by
  rw [Int32.le_iff_toInt_le, pk_sub_toInt ha hc, Int32.toInt_zero]
  omega
theorem sub_ge {a c : Nat} (ha : a < 2 ^ 30) (hc : c < 2 ^ 30) : 0 ≤ nI a - nI c ↔ c ≤ a := by
  rw [Int32.le_iff_toInt_le, pk_sub_toInt ha hc, Int32.toInt_zero]
  omega
def roundPost (S J : St) (i : Nat) (J1 : St) : Prop :=
  (∀ g, g ≠ 6 → g ≠ 7 → J1 g = J g) ∧
  J1 6 0 = ptsN (J 6 0) (decide (S 10 (S 15 (J 29 i)) + J 7 1 < S 10 (S 15 (J 28 i)) + J 6 1)) (S 11 (S 15 (J 28 i))) (S 11 (S 15 (J 29 i))) ∧
  J1 6 1 = ahdN (decide (S 10 (S 15 (J 29 i)) + J 7 1 < S 10 (S 15 (J 28 i)) + J 6 1)) (S 11 (S 15 (J 28 i))) (S 11 (S 15 (J 29 i))) ∧
  J1 7 0 = ptsN (J 7 0) (decide (S 10 (S 15 (J 28 i)) + J 6 1 < S 10 (S 15 (J 29 i)) + J 7 1)) (S 11 (S 15 (J 29 i))) (S 11 (S 15 (J 28 i))) ∧
  J1 7 1 = ahdN (decide (S 10 (S 15 (J 28 i)) + J 6 1 < S 10 (S 15 (J 29 i)) + J 7 1)) (S 11 (S 15 (J 29 i))) (S 11 (S 15 (J 28 i)))
end SPEC8
theorem alw_sz {S : St} {d : Nat} (h : alw S d = true) : S 19 d = S 3 1 := by
  unfold alw at h
  exact of_decide_eq_true (Bool.and_eq_true_iff.mp h).1
