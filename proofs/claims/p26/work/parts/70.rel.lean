/-! What the law's rows tell of a house; counts of cards. -/
section REL
def kdB (S : St) (d : Nat) : Nat → Bool := fun j => decide (S 15 j = d)
def Rel (S U : St) : Prop :=
  (U 3 0 = S 2 0 ∧ U 3 1 = S 3 0 ∧ U 3 2 = S 4 0 ∧ U 3 3 = S 3 1 ∧ U 3 4 = S 3 2) ∧ S 2 0 ≤ 60 ∧
  (∀ d, d < 16 → U 0 d = S 13 d ∧ U 0 (16 + d) = S 12 d ∧ S 13 d = cnt (kdB S d) (S 2 0)) ∧
  (∀ j, j < S 2 0 → S 16 j = cnt (kdB S (S 15 j)) (j + 1) ∧ S 17 j < 6) ∧
  (∀ d, d < 12 → U 1 (2 * d + 1) = S 19 d ∧ (S 3 0 ≤ d → S 19 d = 0) ∧ (d < S 3 0 → U 1 (2 * d) = S 18 d)) ∧
  (∀ d p, d < 12 → p < S 19 d → S (30 + d) p < S 2 0) ∧
  (∀ d p q, d < 12 → p < q → q < S 19 d → S (30 + d) p ≠ S (30 + d) q) ∧
  (∀ o, o < S 4 0 → U 2 o = S 21 o + 128 * S 23 o + 4096 * S 24 o + 65536 * (1 - S 25 o) ∧ S 23 o < 16 ∧ S 24 o < 6)
theorem rel_g0 {S U : St} (h : Rel S U) : U 3 0 = S 2 0 := h.1.1
theorem rel_g1 {S U : St} (h : Rel S U) : U 3 1 = S 3 0 := h.1.2.1
theorem rel_g2 {S U : St} (h : Rel S U) : U 3 2 = S 4 0 := h.1.2.2.1
theorem rel_g3 {S U : St} (h : Rel S U) : U 3 3 = S 3 1 := h.1.2.2.2.1
theorem rel_g4 {S U : St} (h : Rel S U) : U 3 4 = S 3 2 := h.1.2.2.2.2
theorem rel_60 {S U : St} (h : Rel S U) : S 2 0 ≤ 60 := h.2.1
theorem rel_p {S U : St} (h : Rel S U) {d : Nat} (hd : d < 16) : U 0 d = S 13 d := (h.2.2.1 d hd).1
theorem rel_b {S U : St} (h : Rel S U) {d : Nat} (hd : d < 16) : U 0 (16 + d) = S 12 d := (h.2.2.1 d hd).2.1
theorem rel_cnt {S U : St} (h : Rel S U) {d : Nat} (hd : d < 16) : S 13 d = cnt (kdB S d) (S 2 0) := (h.2.2.1 d hd).2.2
theorem rel_no {S U : St} (h : Rel S U) {j : Nat} (hj : j < S 2 0) : S 16 j = cnt (kdB S (S 15 j)) (j + 1) := (h.2.2.2.1 j hj).1
theorem rel_col {S U : St} (h : Rel S U) {j : Nat} (hj : j < S 2 0) : S 17 j < 6 := (h.2.2.2.1 j hj).2
theorem rel_sz {S U : St} (h : Rel S U) {d : Nat} (hd : d < 12) : U 1 (2 * d + 1) = S 19 d := (h.2.2.2.2.1 d hd).1
theorem rel_sz0 {S U : St} (h : Rel S U) {d : Nat} (hd : d < 12) (hn : S 3 0 ≤ d) : S 19 d = 0 := (h.2.2.2.2.1 d hd).2.1 hn
theorem rel_ow {S U : St} (h : Rel S U) {d : Nat} (hd : d < 12) (hn : d < S 3 0) : U 1 (2 * d) = S 18 d := (h.2.2.2.2.1 d hd).2.2 hn
theorem rel_card {S U : St} (h : Rel S U) {d p : Nat} (hd : d < 12) (hp : p < S 19 d) : S (30 + d) p < S 2 0 := h.2.2.2.2.2.1 d p hd hp
theorem rel_dist {S U : St} (h : Rel S U) {d p q : Nat} (hd : d < 12) (hp : p < q) (hq : q < S 19 d) : S (30 + d) p ≠ S (30 + d) q := h.2.2.2.2.2.2.1 d p q hd hp hq
theorem rel_off {S U : St} (h : Rel S U) {o : Nat} (ho : o < S 4 0) : U 2 o = S 21 o + 128 * S 23 o + 4096 * S 24 o + 65536 * (1 - S 25 o) ∧ S 23 o < 16 ∧ S 24 o < 6 := h.2.2.2.2.2.2.2 o ho
theorem rel_no_le {S U : St} (h : Rel S U) {j : Nat} (hj : j < S 2 0) : S 16 j ≤ 60 := by
  have h1 := rel_no h hj
  have h2 := cnt_le (kdB S (S 15 j)) (j + 1)
  have h3 := rel_60 h
  omega
theorem seen_step {S : St} {f : Nat → Nat} {i : Nat} (hf : ∀ d, f d = cnt (kdB S d) i) : ∀ d, upf f (S 15 i) (f (S 15 i) + 1) d = cnt (kdB S d) (i + 1) := by
  intro d
  rw [upf_eq]
  by_cases e : d = S 15 i
  · rw [if_pos e, e, cnt_y (show kdB S (S 15 i) i = true from decide_eq_true rfl), hf]
  · rw [if_neg e, cnt_n (show kdB S d i = false from decide_eq_false (fun q => e q.symm)), hf]
def hsK (S : St) (k : Nat) : Nat → Nat := fun q => hasN S q k
theorem sum_has {S : St} (k : Nat) : ∀ n, (∀ j, j < n → S 17 j < 6) → sumN (fun q => cnt (hasB S q k) n) 6 = cnt (kdB S k) n
  | 0, _ => rfl
  | n + 1, h => by
    have ih := sum_has k n (fun j hj => h j (by omega))
    have h6 := h n (by omega)
    have e : ∀ q, cnt (hasB S q k) (n + 1) = cnt (hasB S q k) n + (hasB S q k n).toNat := fun q => rfl
    have e2 : cnt (kdB S k) (n + 1) = cnt (kdB S k) n + (kdB S k n).toNat := rfl
    rw [e2, ← ih]
    simp only [sumN, e]
    by_cases hk : S 15 n = k
    · have hb : ∀ q, (hasB S q k n).toNat = if S 17 n = q then 1 else 0 := fun q => by
        by_cases hq : S 17 n = q
        · rw [hasB_y hq hk, if_pos hq]; rfl
        · rw [hasB_1 hq, if_neg hq]; rfl
      have h1 : (kdB S k n).toNat = 1 := by rw [show kdB S k n = true from decide_eq_true hk]; rfl
      rw [h1, hb, hb, hb, hb, hb, hb]
      rcases (show S 17 n = 0 ∨ S 17 n = 1 ∨ S 17 n = 2 ∨ S 17 n = 3 ∨ S 17 n = 4 ∨ S 17 n = 5 by omega) with q | q | q | q | q | q <;> rw [q] <;> simp <;> omega
    · have hb : ∀ q, (hasB S q k n).toNat = 0 := fun q => by rw [hasB_2 hk]; rfl
      have h1 : (kdB S k n).toNat = 0 := by rw [show kdB S k n = false from decide_eq_false hk]; rfl
      rw [h1, hb, hb, hb, hb, hb, hb]
      omega
theorem rel_sum {S U : St} (h : Rel S U) {k : Nat} (hk : k < 16) : sumN (hsK S k) 6 = S 13 k := by
  rw [rel_cnt h hk]
  exact sum_has k (S 2 0) (fun j hj => rel_col h hj)
theorem prc_0 {S : St} {k : Nat} (h : S 13 k = 0) : prc S k = 0 := by unfold prc; rw [if_pos h]
theorem prc_1 {S : St} {k : Nat} (h : S 13 k ≠ 0) : prc S k = 100 * (S 14 k + 1) / S 13 k := by unfold prc; rw [if_neg h, Nat.mul_comm]
/-- what an offer's row tells -/
theorem rel_o {S U : St} (h : Rel S U) (hI : ∀ k, S 25 k < 2) {o : Nat} (ho : o < S 4 0) (h21 : S 21 o < S 2 0) : U 2 o / 65536 = 1 - S 25 o ∧ U 2 o % 128 = S 21 o ∧ U 2 o / 4096 % 16 = S 24 o ∧ U 2 o / 128 % 32 = S 23 o ∧ U 2 o < 200000 := by
  obtain ⟨h1, h2, h3⟩ := rel_off h ho
  have h4 := rel_60 h
  have h5 := hI o
  rw [h1]
  omega
end REL
