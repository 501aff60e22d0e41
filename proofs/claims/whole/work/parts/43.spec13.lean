section SPEC13
def oneN (e : Nat) : Nat := if e = 1 then 1 else 0
def twoN (e : Nat) : Nat := if e = 2 then 2 else 0
theorem pts_eff (S : St) (p o x : Nat) (w : Bool) : ptsN p w (S 11 o) (S 11 x) = p + (w.toNat + oneN (effN S o x w)) := by
  unfold ptsN effN oneN
  cases w
  · by_cases h : S 11 x ≠ 3 ∧ S 11 o = 2 <;> simp [h]
  · by_cases h : S 11 x ≠ 3 ∧ S 11 o = 1
    · simp [h]
    · have h2 : ¬ (S 11 x ≠ 3 ∧ S 11 o = 1 ∧ true = true) := fun q => h ⟨q.1, q.2.1⟩
      rw [if_pos rfl, if_neg h, if_neg h2]
      simp
theorem ahd_eff (S : St) (o x : Nat) (w : Bool) : ahdN w (S 11 o) (S 11 x) = twoN (effN S o x w) := by
  unfold ahdN effN twoN
  cases w
  · by_cases h : S 11 x ≠ 3 ∧ S 11 o = 2
    · simp [h]
    · have h2 : ¬ (S 11 x ≠ 3 ∧ S 11 o = 2 ∧ false = false) := fun q => h ⟨q.1, q.2.1⟩
      simp only [h, h2, if_false, Bool.false_eq_true, false_and, and_false, and_true]
      rfl
  · by_cases h : S 11 x ≠ 3 ∧ S 11 o = 1 <;> simp [h]
/-- the numbers of a game after i rounds -/
def gmI (S : St) (r1 r2 : Nat → Nat) (i A B C D : Nat) : Prop := A = (gm S r1 r2 i).1 ∧ B = (gm S r1 r2 i).2.1 ∧ C = (gm S r1 r2 i).2.2.1 ∧ D = (gm S r1 r2 i).2.2.2
theorem gmI_0 (S : St) (r1 r2 : Nat → Nat) : gmI S r1 r2 0 0 0 0 0 := ⟨rfl, rfl, rfl, rfl⟩
theorem gmI_le {S : St} {r1 r2 : Nat → Nat} {i A B C D : Nat} (h : gmI S r1 r2 i A B C D) : A ≤ 2 * i ∧ B ≤ 2 ∧ C ≤ 2 * i ∧ D ≤ 2 := by
  have hg := gm_le S r1 r2 i
  rw [← h.1, ← h.2.1, ← h.2.2.1, ← h.2.2.2] at hg
  exact hg
theorem gmI_A {S : St} {r1 r2 : Nat → Nat} {x y p q A B C D : Nat} (h : gmI S r1 r2 (S 3 1) A B C D) (h1 : r1 = shuf S x p) (h2 : r2 = shuf S y q) : (gmF S x y p q).1 = A := by
  rw [h.1, h1, h2]; rfl
theorem gmI_C {S : St} {r1 r2 : Nat → Nat} {x y p q A B C D : Nat} (h : gmI S r1 r2 (S 3 1) A B C D) (h1 : r1 = shuf S x p) (h2 : r2 = shuf S y q) : (gmF S x y p q).2.2.1 = C := by
  rw [h.2.2.1, h1, h2]; rfl
theorem gm_st {S : St} {r1 r2 : Nat → Nat} {i A B C D u1 u2 : Nat} (w1 w2 : Bool) (h : gmI S r1 r2 i A B C D) (hu1 : u1 = S 15 (r1 i)) (hu2 : u2 = S 15 (r2 i))
    (h1 : decide (S 10 u2 + D < S 10 u1 + B) = w1) (h2 : decide (S 10 u1 + B < S 10 u2 + D) = w2) :
    gmI S r1 r2 (i + 1) (A + (w1.toNat + oneN (effN S u1 u2 w1))) (twoN (effN S u1 u2 w1)) (C + (w2.toNat + oneN (effN S u2 u1 w2))) (twoN (effN S u2 u1 w2)) := by
  obtain ⟨hA, hB, hC, hD⟩ := h
  rw [← pts_eff, ← ahd_eff, ← pts_eff, ← ahd_eff, ← h1, ← h2, hA, hB, hC, hD, hu1, hu2]
  exact ⟨rfl, rfl, rfl, rfl⟩
theorem oneN_y {e : Nat} (h : e = 1) : oneN e = 1 := if_pos h
theorem oneN_n {e : Nat} (h : ¬ e = 1) : oneN e = 0 := if_neg h
theorem twoN_y {e : Nat} (h : e = 2) : twoN e = 2 := if_pos h
theorem twoN_n {e : Nat} (h : ¬ e = 2) : twoN e = 0 := if_neg h
theorem more_toInt {a b c d : Nat} (ha : a < 1000000) (hb : b < 1000000) (hc : c < 1000000) (hd : d < 1000000) : (nI (a + b) - nI c - nI d).toInt = (a : Int) + b - c - d := by
  rw [Int32.toInt_sub, pk_sub_toInt (by omega) (by omega), nI_toInt (by omega)]
  rw [Int.bmod_eq_of_le (by omega) (by omega)]
  omega
theorem more_le {a b c d : Nat} {M : Int32} (hM : M = nI (a + b) - nI c - nI d) (ha : a < 1000000) (hb : b < 1000000) (hc : c < 1000000) (hd : d < 1000000) : M ≤ 0 ↔ a + b ≤ c + d := by
  rw [Int32.le_iff_toInt_le, hM, more_toInt ha hb hc hd, Int32.toInt_zero]
  omega
theorem more_ge {a b c d : Nat} {M : Int32} (hM : M = nI (a + b) - nI c - nI d) (ha : a < 1000000) (hb : b < 1000000) (hc : c < 1000000) (hd : d < 1000000) : 0 ≤ M ↔ c + d ≤ a + b := by
  rw [Int32.le_iff_toInt_le, hM, more_toInt ha hb hc hd, Int32.toInt_zero]
  omega
theorem dif_up {A C k1 k2 : Nat} {u : Int32} (h : u = nI k1 - nI k2) : nI A - nI C + u = nI (A + k1) - nI (C + k2) := by
  rw [h, ← nI_add, ← nI_add, Int32.sub_eq_add_neg, Int32.sub_eq_add_neg, Int32.sub_eq_add_neg, Int32.neg_add, Int32.add_assoc, Int32.add_assoc]
  congr 1
  rw [← Int32.add_assoc, Int32.add_comm (-nI C), Int32.add_assoc, Int32.sub_eq_add_neg]
end SPEC13
theorem dif_0 {a c : Nat} (ha : a < 2 ^ 30) (hc : c < 2 ^ 30) (h : nI a - nI c = 0) : a = c := by
  have h1 := (sub_le ha hc).mp (by rw [h]; exact Int32.le_refl _)
  have h2 := (sub_ge ha hc).mp (by rw [h]; exact Int32.le_refl _)
  omega
theorem effN_le (S : St) (o x : Nat) (w : Bool) : effN S o x w ≤ 2 := by
  unfold effN
  split
  · decide
  · split <;> decide
