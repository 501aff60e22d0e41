section SPEC9
def inI (v a b : Int32) : Bool := decide (a ≤ v) && decide (v ≤ b)
theorem inI_1 {v a b : Int32} (h : v < a) : inI v a b = false := by unfold inI; rw [decide_eq_false (Int32.not_le.mpr h)]; rfl
theorem inI_2 {v a b : Int32} (h : b < v) : inI v a b = false := by unfold inI; rw [decide_eq_false (Int32.not_le.mpr h), Bool.and_false]
theorem inI_3 {v a b : Int32} (h1 : ¬ v < a) (h2 : ¬ b < v) : inI v a b = true := by unfold inI; rw [decide_eq_true (Int32.not_lt.mp h1), decide_eq_true (Int32.not_lt.mp h2)]; rfl
theorem inI_nn {v : Int32} {lo hi : Nat} (hl : lo < 2147483648) (hh : hi < 2147483648) : inI v (nI lo) (nI hi) = inB v lo hi := by
  unfold inI inB
  rw [← Bool.decide_and]
  congr 1
  rw [Int32.le_iff_toInt_le, Int32.le_iff_toInt_le, nI_toInt hl, nI_toInt hh]
theorem inI_n1 {v : Int32} {n : Nat} (hn : n < 1000000) : inI v (nI 0) (nI n - nI 1) = inB v 0 ((n : Int) - 1) := by
  unfold inI inB
  rw [← Bool.decide_and]
  congr 1
  rw [Int32.le_iff_toInt_le, Int32.le_iff_toInt_le, nI_toInt (by decide), pk_sub_toInt (by omega) (by decide)]
  rfl
theorem thr_eq0 {b1 b2 b3 : Bool} (h : thr b1 b2 b3 = 0) : b1 = true ∧ b2 = true ∧ b3 = true := by
  cases b1 <;> cases b2 <;> cases b3 <;> first | exact ⟨rfl, rfl, rfl⟩ | (exact absurd h (by decide))
theorem tnI {b : Bool} (h : b = true) : nI 1 = nI b.toNat := by rw [h]; rfl
theorem tnO {b : Bool} (h : b = false) : nI 0 = nI b.toNat := by rw [h]; rfl
def mPost (th : Nat) (v r : Int32) (J1 : St) : Prop := J1 0 0 = th ∧ (th = 0 → r = v)
end SPEC9
