section SPEC2
theorem fa_or (a b : Nat) : nI a ||| nI b = nI (a ||| b) := by
  apply Int32.toBitVec_inj.1
  show BitVec.ofNat 32 a ||| BitVec.ofNat 32 b = BitVec.ofNat 32 (a ||| b)
  apply BitVec.eq_of_getLsbD_eq
  intro i hi
  simp [hi]
theorem fa_and (a b : Nat) : nI a &&& nI b = nI (a &&& b) := by
  apply Int32.toBitVec_inj.1
  show BitVec.ofNat 32 a &&& BitVec.ofNat 32 b = BitVec.ofNat 32 (a &&& b)
  apply BitVec.eq_of_getLsbD_eq
  intro i hi
  simp [hi]
theorem shl_bit : ∀ i, i < 12 → nI 1 <<< (nI i &&& 31) = nI (2 ^ i) := by decide +kernel
theorem or_bit {x i : Nat} (hi : i < 12) (h : x < 2 ^ i) : nI x ||| (nI 1 <<< (nI i &&& 31)) = nI (x + 2 ^ i) := by
  rw [shl_bit i hi, fa_or]
  congr 1
  have h2 := Nat.two_pow_add_eq_or_of_lt h 1
  rw [Nat.mul_one] at h2
  rw [Nat.or_comm, ← h2, Nat.add_comm]
theorem bits_y {f : Nat → Bool} {n : Nat} (h : f n = true) : bits f (n + 1) = bits f n + 2 ^ n := by show bits f n + _ = _; rw [if_pos h]
theorem bits_n {f : Nat → Bool} {n : Nat} (h : f n = false) : bits f (n + 1) = bits f n := by show bits f n + _ = _; rw [if_neg (by rw [h]; decide)]; rfl
/-- the ones of a row of ten bits -/
def popc (b : Nat) : Nat := cnt (fun i => b.testBit i) 10
theorem cnt_cong {f g : Nat → Bool} : ∀ {n : Nat}, (∀ j, j < n → f j = g j) → cnt f n = cnt g n
  | 0, _ => rfl
  | n + 1, h => by
    unfold cnt
    rw [cnt_cong (fun j hj => h j (by omega)), h n (by omega)]
theorem cnt_stop {f : Nat → Bool} {m : Nat} (h : ∀ j, m ≤ j → f j = false) : ∀ k, cnt f (m + k) = cnt f m
  | 0 => rfl
  | k + 1 => by
    show cnt f (m + k) + (f (m + k)).toNat = _
    rw [cnt_stop h k, h (m + k) (by omega)]; rfl
theorem bits_test (f : Nat → Bool) : ∀ n i, (bits f n).testBit i = (decide (i < n) && f i)
  | 0, i => by simp [bits]
  | n + 1, i => by
    have ih := bits_test f n
    have hlt := bits_lt f n
    by_cases e : f n = true
    · rw [bits_y e]
      rcases Nat.lt_trichotomy i n with q | q | q
      · rw [Nat.add_comm, Nat.testBit_two_pow_add_gt q, ih i]
        simp [q, Nat.lt_succ_of_lt q]
      · subst q
        rw [Nat.add_comm, Nat.testBit_two_pow_add_eq, ih i]
        simp [e]
      · rw [Nat.testBit_lt_two_pow (Nat.lt_of_lt_of_le (show bits f n + 2 ^ n < 2 ^ (n + 1) by rw [Nat.pow_succ]; omega) (Nat.pow_le_pow_right (by decide) q))]
        simp [show ¬ i < n + 1 by omega]
    · have e' : f n = false := by cases h : f n <;> simp_all
      rw [bits_n e', ih i]
      rcases Nat.lt_trichotomy i n with q | q | q
      · simp [q, Nat.lt_succ_of_lt q]
      · subst q; simp [e']
      · simp [show ¬ i < n by omega, show ¬ i < n + 1 by omega]
theorem popc_bits (f : Nat → Bool) {n : Nat} (hn : n ≤ 10) : popc (bits f n) = cnt f n := by
  unfold popc
  have h1 : cnt (fun i => (bits f n).testBit i) (n + (10 - n)) = cnt (fun i => (bits f n).testBit i) n := cnt_stop (fun j hj => by rw [bits_test]; simp [Nat.not_lt.mpr hj]) _
  rw [show n + (10 - n) = 10 by omega] at h1
  rw [h1]
  exact cnt_cong fun j hj => by rw [bits_test]; simp [hj]
def bc1 (x : Int32) : Int32 := x - ((x.toUInt32 >>> ((nI 1).toUInt32 &&& Int32.toUInt32 31)).toInt32 &&& 1431655765)
def bc2 (x : Int32) : Int32 := (x &&& 858993459) + ((x.toUInt32 >>> ((nI 2).toUInt32 &&& Int32.toUInt32 31)).toInt32 &&& 858993459)
def bc3 (x : Int32) : Int32 := (x + (x.toUInt32 >>> ((nI 4).toUInt32 &&& Int32.toUInt32 31)).toInt32) &&& 252645135
def bc4 (x : Int32) : Int32 := x + (x.toUInt32 >>> ((nI 8).toUInt32 &&& Int32.toUInt32 31)).toInt32
def bc5 (x : Int32) : Int32 := x + (x.toUInt32 >>> ((nI 16).toUInt32 &&& Int32.toUInt32 31)).toInt32
theorem bc_all : ∀ b, b < 1024 → bc5 (bc4 (bc3 (bc2 (bc1 (nI b))))) &&& nI 63 = nI (popc b) := by decide +kernel
theorem okAt_1 {S : St} {d p : Nat} (h : S 17 (S (30 + d) p) ≠ S 18 d) : okAt S d p = false := by unfold okAt; rw [decide_eq_false h]; rfl
theorem okAt_2 {S : St} {d p : Nat} (h : S 12 (S 15 (S (30 + d) p)) ≠ 0) : okAt S d p = false := by unfold okAt; rw [decide_eq_false h, Bool.and_false]; rfl
theorem okAt_3 {S : St} {d p : Nat} (h : S 3 2 < mo S d (S 15 (S (30 + d) p))) : okAt S d p = false := by unfold okAt; rw [decide_eq_false (Nat.not_le.mpr h), Bool.and_false]
theorem okAt_y {S : St} {d p : Nat} (h1 : S 17 (S (30 + d) p) = S 18 d) (h2 : S 12 (S 15 (S (30 + d) p)) = 0) (h3 : mo S d (S 15 (S (30 + d) p)) ≤ S 3 2) : okAt S d p = true := by unfold okAt; rw [decide_eq_true h1, decide_eq_true h2, decide_eq_true h3]; rfl
theorem alw_0 {S : St} {d : Nat} (h : S 19 d ≠ S 3 1) : alw S d = false := by unfold alw; rw [decide_eq_false h]; rfl
theorem alw_no {S : St} {d p : Nat} (h : okAt S d p = false) (hp : p < S 19 d) : alw S d = false := by unfold alw; rw [allB_no h hp, Bool.and_false]
theorem alw_y {S : St} {d p : Nat} (h : S 19 d = S 3 1) (h2 : allB (okAt S d) p = true) (hp : p = S 19 d) : alw S d = true := by unfold alw; rw [decide_eq_true h, ← hp, h2]; rfl
theorem shl_ne {S : St} {d g f : Nat} (h : f ≠ 30 + d) : ∀ n, shl S d g n f = S f
  | 0 => rfl
  | n + 1 => by
    show up _ _ _ _ f = _
    rw [up_ne h, shl_ne h n]
theorem toNat_lt2 (b : Bool) : b.toNat < 2 := by cases b <;> decide
theorem mo_le {S : St} (hV : V S) (d k : Nat) : mo S d k ≤ 10 := Nat.le_trans (cnt_le _ _) (V_size hV d)
end SPEC2
