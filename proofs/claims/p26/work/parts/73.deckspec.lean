/-! Shuffled decks: the same cards; orders, told in other words; bits of a long. -/
section DECKSPEC
theorem cnt_s (f : Nat → Bool) (n : Nat) : cnt f (n + 1) = cnt f n + (f n).toNat := rfl
theorem cnt_mono (f : Nat → Bool) {m n : Nat} (h : m ≤ n) : cnt f m ≤ cnt f n := by
  induction n with
  | zero => rw [show m = 0 by omega]; exact Nat.le_refl _
  | succ n ih =>
    rw [cnt_s]
    by_cases e : m = n + 1
    · subst e; rw [cnt_s]; exact Nat.le_refl _
    · have := ih (by omega); omega
theorem cnt_full {f : Nat → Bool} : ∀ {n : Nat}, (∀ p, p < n → f p = true) → cnt f n = n
  | 0, _ => rfl
  | n + 1, h => by
    rw [cnt_y (h n (by omega)), cnt_full (fun p hp => h p (by omega))]
theorem cnt_fullR {f : Nat → Bool} : ∀ {n : Nat}, cnt f n = n → ∀ p, p < n → f p = true
  | 0, _, p, hp => absurd hp (Nat.not_lt_zero p)
  | n + 1, h, p, hp => by
    have h1 := cnt_le f n
    cases hf : f n with
    | true =>
      rw [cnt_y hf] at h
      by_cases e : p = n
      · rw [e]; exact hf
      · exact cnt_fullR (n := n) (by omega) p (by omega)
    | false =>
      rw [cnt_n hf] at h
      omega
theorem cnt_pos {f : Nat → Bool} {n p : Nat} (hp : p < n) (hf : f p = true) : 0 < cnt f n := by
  have h1 := cnt_mono f (show p + 1 ≤ n by omega)
  rw [cnt_y hf] at h1
  omega
theorem cnt_two {f : Nat → Bool} {n p q : Nat} (hpq : p < q) (hq : q < n) (h1 : f p = true) (h2 : f q = true) : 2 ≤ cnt f n := by
  have a := cnt_pos hpq h1
  have b := cnt_mono f (show q + 1 ≤ n by omega)
  rw [cnt_y h2] at b
  omega
theorem cnt_ex {f : Nat → Bool} : ∀ {n : Nat}, 0 < cnt f n → ∃ p, p < n ∧ f p = true ∧ cnt f (p + 1) = cnt f n
  | 0, h => absurd h (Nat.lt_irrefl 0)
  | n + 1, h => by
    cases hf : f n with
    | true => exact ⟨n, by omega, hf, rfl⟩
    | false =>
      rw [cnt_n hf] at h ⊢
      obtain ⟨p, h1, h2, h3⟩ := cnt_ex h
      exact ⟨p, by omega, h2, h3⟩
theorem cnt_one {r : Nat → Nat} {n x : Nat} (hd : ∀ p q, p < q → q < n → r p ≠ r q) : cnt (fun p => decide (r p = x)) n ≤ 1 := by
  apply Nat.le_of_not_lt
  intro h
  obtain ⟨q, hq, h2, h3⟩ := cnt_ex (f := fun p => decide (r p = x)) (n := n) (by omega)
  rw [← h3, cnt_s] at h
  have hb : (decide (r q = x)).toNat ≤ 1 := by cases decide (r q = x) <;> decide
  obtain ⟨p, hp, g2, g3⟩ := cnt_ex (f := fun p => decide (r p = x)) (n := q) (by omega)
  exact hd p q hp hq ((of_decide_eq_true g2).trans (of_decide_eq_true h2).symm)
theorem cnt_upf (B : Nat → Bool) (r : Nat → Nat) (v : Nat) : ∀ {n k : Nat}, k < n → cnt (fun p => B (upf r k v p)) n + (B (r k)).toNat = cnt (fun p => B (r p)) n + (B v).toNat
  | 0, k, h => absurd h (Nat.not_lt_zero k)
  | n + 1, k, h => by
    rw [cnt_s, cnt_s]
    by_cases e : k = n
    · subst e
      have h1 : cnt (fun p => B (upf r k v p)) k = cnt (fun p => B (r p)) k := cnt_cong fun j hj => by rw [upf_ne (by omega)]
      rw [h1, upf_same]
      omega
    · have ih := cnt_upf B r v (n := n) (k := k) (by omega)
      rw [upf_ne (show n ≠ k from fun q => e q.symm)]
      omega
theorem swap_cnt (B : Nat → Bool) (r : Nat → Nat) {n i j : Nat} (hi : i < n) (hj : j < n) : cnt (fun p => B (upf (upf r i (r j)) j (r i) p)) n = cnt (fun p => B (r p)) n := by
  have h1 := cnt_upf B r (r j) hi
  have h2 := cnt_upf B (upf r i (r j)) (r i) hj
  have e : upf r i (r j) j = r j := by
    rw [upf_eq]
    by_cases q : j = i
    · rw [if_pos q]
    · rw [if_neg q]
  rw [e] at h2
  omega
theorem shG_cnt (B : Nat → Bool) {n : Nat} {nx : Nat → Nat} {dr : Nat → Nat → Nat} (hd : ∀ s i, dr s i < i + 1 + 1) : ∀ (i : Nat) (r : Nat → Nat) (s : Nat), (i < n ∨ i = 0) → cnt (fun p => B (shG nx dr i r s p)) n = cnt (fun p => B (r p)) n
  | 0, r, s, _ => rfl
  | i + 1, r, s, hi => by
    have h := hd (nx s) i
    rw [shG_s, shG_cnt B hd i _ _ (by omega)]
    exact swap_cnt B r (by omega) (by omega)
theorem shuf_cnt (B : Nat → Bool) (S : St) (d s : Nat) : cnt (fun p => B (shuf S d s p)) (S 19 d) = cnt (fun p => B (S (30 + d) p)) (S 19 d) := by
  unfold shuf
  exact shG_cnt B drw_lt _ _ _ (by omega)
theorem shuf_all {P : Nat → Bool} {S : St} {d s : Nat} (h : ∀ p, p < S 19 d → P (S (30 + d) p) = true) : ∀ p, p < S 19 d → P (shuf S d s p) = true :=
  cnt_fullR (f := fun p => P (shuf S d s p)) (by rw [shuf_cnt P S d s]; exact cnt_full h)
theorem shuf_allR {P : Nat → Bool} {S : St} {d s : Nat} (h : ∀ p, p < S 19 d → P (shuf S d s p) = true) : ∀ p, p < S 19 d → P (S (30 + d) p) = true :=
  cnt_fullR (f := fun p => P (S (30 + d) p)) (by rw [← shuf_cnt P S d s]; exact cnt_full h)
theorem rel_shuf {S U : St} (h : Rel S U) {d s p : Nat} (hd : d < 12) (hp : p < S 19 d) : shuf S d s p < S 2 0 :=
  of_decide_eq_true (shuf_all (P := fun x => decide (x < S 2 0)) (fun q hq => decide_eq_true (rel_card h hd hq)) p hp)
theorem shuf_dist {S U : St} (h : Rel S U) {d s p q : Nat} (hd : d < 12) (hp : p < q) (hq : q < S 19 d) : shuf S d s p ≠ shuf S d s q := fun e => by
  have h1 := shuf_cnt (fun x => decide (x = shuf S d s q)) S d s
  have h2 := cnt_one (r := S (30 + d)) (x := shuf S d s q) (n := S 19 d) (fun a b ha hb => rel_dist h hd ha hb)
  have h3 := cnt_two (f := fun p => decide (shuf S d s p = shuf S d s q)) hp hq (decide_eq_true e) (decide_eq_true rfl)
  omega
/-- the kinds of the first cards of a shuffled deck -/
def skB (S : St) (d s k : Nat) : Nat → Bool := fun p => decide (S 15 (shuf S d s p) = k)
theorem sk_mo (S : St) (d s k : Nat) : cnt (skB S d s k) (S 19 d) = mo S d k := shuf_cnt (fun x => decide (S 15 x = k)) S d s
theorem sk_step {S : St} {d s i : Nat} {f : Nat → Nat} (hf : ∀ k, f k = cnt (skB S d s k) i) : ∀ k, upf f (S 15 (shuf S d s i)) (f (S 15 (shuf S d s i)) + 1) k = cnt (skB S d s k) (i + 1) := by
  intro k
  rw [upf_eq]
  by_cases e : k = S 15 (shuf S d s i)
  · rw [if_pos e, e, cnt_y (show skB S d s (S 15 (shuf S d s i)) i = true from decide_eq_true rfl), hf]
  · rw [if_neg e, cnt_n (show skB S d s k i = false from decide_eq_false (fun q => e q.symm)), hf]
def okR (S : St) (d s : Nat) : Nat → Bool := fun j => decide (S 17 (shuf S d s j) = S 18 d) && decide (S 12 (S 15 (shuf S d s j)) = 0) && decide (cnt (skB S d s (S 15 (shuf S d s j))) (j + 1) ≤ S 3 2)
def alR (S : St) (d s i : Nat) : Bool := decide (S 19 d = S 3 1) && allB (okR S d s) i
theorem alR_s (S : St) (d s i : Nat) : alR S d s (i + 1) = (alR S d s i && okR S d s i) := by
  unfold alR
  rw [show allB (okR S d s) (i + 1) = (allB (okR S d s) i && okR S d s i) from rfl, Bool.and_assoc]
theorem alR_n0 {S : St} {d s i : Nat} (h : alR S d s i = false) : alR S d s (i + 1) = false := by rw [alR_s, h]; rfl
theorem alR_n1 {S : St} {d s i : Nat} (h : S 17 (shuf S d s i) ≠ S 18 d) : alR S d s (i + 1) = false := by rw [alR_s]; unfold okR; rw [decide_eq_false h]; simp
theorem alR_n2 {S : St} {d s i : Nat} (h : S 12 (S 15 (shuf S d s i)) ≠ 0) : alR S d s (i + 1) = false := by rw [alR_s]; unfold okR; rw [decide_eq_false h]; simp
theorem alR_n3 {S : St} {d s i : Nat} (h : S 3 2 < cnt (skB S d s (S 15 (shuf S d s i))) (i + 1)) : alR S d s (i + 1) = false := by rw [alR_s]; unfold okR; rw [decide_eq_false (Nat.not_le.mpr h)]; simp
theorem alR_y {S : St} {d s i : Nat} (h0 : alR S d s i = true) (h1 : S 17 (shuf S d s i) = S 18 d) (h2 : S 12 (S 15 (shuf S d s i)) = 0) (h3 : cnt (skB S d s (S 15 (shuf S d s i))) (i + 1) ≤ S 3 2) : alR S d s (i + 1) = true := by
  rw [alR_s, h0]; unfold okR; rw [decide_eq_true h1, decide_eq_true h2, decide_eq_true h3]; rfl
theorem allB_of {f : Nat → Bool} : ∀ {n : Nat}, (∀ p, p < n → f p = true) → allB f n = true
  | 0, _ => rfl
  | n + 1, h => allB_s (allB_of fun p hp => h p (by omega)) (h n (by omega))
theorem alR_alw (S : St) (d s : Nat) : alR S d s (S 19 d) = alw S d := by
  unfold alR alw
  congr 1
  let P : Nat → Bool := fun x => decide (S 17 x = S 18 d) && decide (S 12 (S 15 x) = 0) && decide (mo S d (S 15 x) ≤ S 3 2)
  cases h : allB (okAt S d) (S 19 d) with
  | true =>
    have h1 : ∀ p, p < S 19 d → P (S (30 + d) p) = true := fun p hp => allB_at (f := okAt S d) h hp
    have h2 := shuf_all (s := s) h1
    refine allB_of fun j hj => ?_
    have h3 : (decide (S 17 (shuf S d s j) = S 18 d) && decide (S 12 (S 15 (shuf S d s j)) = 0) && decide (mo S d (S 15 (shuf S d s j)) ≤ S 3 2)) = true := h2 j hj
    obtain ⟨h4, h5⟩ := Bool.and_eq_true_iff.mp h3
    unfold okR
    rw [h4, Bool.true_and]
    refine decide_eq_true (Nat.le_trans (cnt_mono _ (show j + 1 ≤ S 19 d by omega)) ?_)
    rw [sk_mo]
    exact of_decide_eq_true h5
  | false =>
    cases h1 : allB (okR S d s) (S 19 d) with
    | false => rfl
    | true =>
      have h2 : ∀ j, j < S 19 d → P (shuf S d s j) = true := by
        intro j hj
        have h3 : (decide (S 17 (shuf S d s j) = S 18 d) && decide (S 12 (S 15 (shuf S d s j)) = 0) && decide (cnt (skB S d s (S 15 (shuf S d s j))) (j + 1) ≤ S 3 2)) = true := allB_at (f := okR S d s) h1 hj
        obtain ⟨h4, -⟩ := Bool.and_eq_true_iff.mp h3
        show (decide (S 17 (shuf S d s j) = S 18 d) && decide (S 12 (S 15 (shuf S d s j)) = 0) && decide (mo S d (S 15 (shuf S d s j)) ≤ S 3 2)) = true
        rw [h4, Bool.true_and]
        refine decide_eq_true ?_
        rw [← sk_mo S d s]
        obtain ⟨q, hq, g1, g2⟩ := cnt_ex (f := skB S d s (S 15 (shuf S d s j))) (n := S 19 d) (cnt_pos hj (decide_eq_true rfl))
        have g3 : (decide (S 17 (shuf S d s q) = S 18 d) && decide (S 12 (S 15 (shuf S d s q)) = 0) && decide (cnt (skB S d s (S 15 (shuf S d s q))) (q + 1) ≤ S 3 2)) = true := allB_at (f := okR S d s) h1 hq
        obtain ⟨-, g4⟩ := Bool.and_eq_true_iff.mp g3
        have g5 := of_decide_eq_true g4
        rw [show S 15 (shuf S d s q) = S 15 (shuf S d s j) from of_decide_eq_true g1, g2] at g5
        exact g5
      have h3 := shuf_allR h2
      rw [allB_of (f := okAt S d) h3] at h
      cases h
/-- the cards seen, as bits -/
def sbN (S : St) (d s : Nat) : Nat → Nat
  | 0 => 0
  | i + 1 => sbN S d s i ||| 2 ^ shuf S d s i
theorem sbN_s (S : St) (d s i : Nat) : sbN S d s (i + 1) = sbN S d s i ||| 2 ^ shuf S d s i := rfl
theorem sbN_lt {S U : St} (h : Rel S U) {d s : Nat} (hd : d < 12) : ∀ i, i ≤ S 19 d → sbN S d s i < 2 ^ 60
  | 0, _ => by show 0 < 2 ^ 60; decide
  | i + 1, hi => by
    have h1 := sbN_lt h (s := s) hd i (by omega)
    have h2 := rel_shuf h (s := s) hd (show i < S 19 d by omega)
    have h3 := rel_60 h
    rw [sbN_s]
    exact Nat.or_lt_two_pow h1 (Nat.pow_lt_pow_right (by decide) (by omega))
theorem sbN_cnt {S U : St} (h : Rel S U) {d s : Nat} (hd : d < 12) : ∀ i, i ≤ S 19 d → cnt (fun t => (sbN S d s i).testBit t) 60 = i ∧ ∀ t, (sbN S d s i).testBit t = true → ∃ j, j < i ∧ shuf S d s j = t
  | 0, _ => by
    have e : ∀ n, cnt (fun t => (sbN S d s 0).testBit t) n = 0 := fun n => by
      induction n with
      | zero => rfl
      | succ n ih => rw [cnt_n (show (sbN S d s 0).testBit n = false from Nat.zero_testBit n), ih]
    exact ⟨e 60, fun t ht => by rw [show (sbN S d s 0).testBit t = false from Nat.zero_testBit t] at ht; cases ht⟩
  | i + 1, hi => by
    obtain ⟨h1, h2⟩ := sbN_cnt h (s := s) hd i (by omega)
    have h3 := rel_shuf h (s := s) hd (show i < S 19 d by omega)
    have h4 := rel_60 h
    have hb : ∀ t, (sbN S d s (i + 1)).testBit t = ((sbN S d s i).testBit t || decide (shuf S d s i = t)) := fun t => lay_bit _ _ t
    have hno : (sbN S d s i).testBit (shuf S d s i) = false := by
      cases hc : (sbN S d s i).testBit (shuf S d s i) with
      | false => rfl
      | true =>
        obtain ⟨j, hj, ej⟩ := h2 _ hc
        exact absurd ej (shuf_dist h hd hj (by omega))
    refine ⟨?_, fun t ht => ?_⟩
    · have h5 : cnt (fun t => (sbN S d s i).testBit t) 60 + 1 = cnt (fun t => (sbN S d s (i + 1)).testBit t) 60 :=
        cnt_drop (f := fun t => (sbN S d s (i + 1)).testBit t) (g := fun t => (sbN S d s i).testBit t) (p := shuf S d s i) (by rw [hb, decide_eq_true rfl, Bool.or_true]) (fun t => by
          rw [hb]
          by_cases e : shuf S d s i = t
          · rw [decide_eq_true e, ← e, hno]; rfl
          · rw [decide_eq_false e]; simp) (by omega)
      omega
    · rw [hb] at ht
      rcases Bool.or_eq_true_iff.mp ht with q | q
      · obtain ⟨j, hj, ej⟩ := h2 t q
        exact ⟨j, by omega, ej⟩
      · exact ⟨i, by omega, of_decide_eq_true q⟩
theorem bit_step {m t : Nat} {n : Nat} (h : cnt (fun t => m.testBit t) 60 = n) (ht : t < 60) : (m.testBit t).toNat ≤ n - cnt (fun t => m.testBit t) t ∧ n - cnt (fun t => m.testBit t) t - (m.testBit t).toNat = n - cnt (fun t => m.testBit t) (t + 1) := by
  have h1 := cnt_mono (fun t => m.testBit t) (show t + 1 ≤ 60 by omega)
  have h2 := cnt_s (fun t => m.testBit t) t
  omega
theorem lshl_1 : ∀ c, c < 60 → lN 1 <<< ((nI c).toInt64 &&& 63) = lN (2 ^ c) := by decide +kernel
theorem lN_or (a b : Nat) : lN a ||| lN b = lN (a ||| b) := by
  apply Int64.toBitVec_inj.1
  show BitVec.ofNat 64 a ||| BitVec.ofNat 64 b = BitVec.ofNat 64 (a ||| b)
  apply BitVec.eq_of_getLsbD_eq
  intro i hi
  simp [hi]
theorem lN_and (a b : Nat) : lN a &&& lN b = lN (a &&& b) := by
  apply Int64.toBitVec_inj.1
  show BitVec.ofNat 64 a &&& BitVec.ofNat 64 b = BitVec.ofNat 64 (a &&& b)
  apply BitVec.eq_of_getLsbD_eq
  intro i hi
  simp [hi]
/-- the factorial, and before -/
def fc : Nat → Nat
  | 0 => 1
  | n + 1 => (n + 1) * fc n
theorem fc_s (n : Nat) : fc (n + 1) = (n + 1) * fc n := rfl
theorem Wn_fc : ∀ r o : Nat, Wn r o 0 = fc r
  | 0, o => by unfold Wn; rfl
  | r + 1, o => by rw [Wn_s0, Wn_fc r o]; rfl
theorem fc_pos : ∀ n, 0 < fc n
  | 0 => Nat.one_pos
  | n + 1 => Nat.mul_pos (Nat.succ_pos n) (fc_pos n)
theorem fc_le {m n : Nat} (h : m ≤ n) : fc m ≤ fc n := by
  induction n with
  | zero => rw [show m = 0 by omega]; exact Nat.le_refl _
  | succ n ih =>
    by_cases e : m = n + 1
    · rw [e]; exact Nat.le_refl _
    · rw [fc_s]
      have h1 := ih (by omega)
      have h2 : 1 * fc n ≤ (n + 1) * fc n := Nat.mul_le_mul_right _ (by omega)
      omega
theorem fc_10 {n : Nat} (h : n ≤ 10) : fc n ≤ 3628800 := Nat.le_trans (fc_le h) (by decide)
theorem ord_all (S : St) (d k f : Nat) : ordN S d k f = fc (S 19 d) - Wn (S 19 d) (S 19 d - mo S d k) f := by
  unfold ordN
  rw [prod_all, prod_Wn, Wn_fc]
theorem ord_le (S : St) (d k f : Nat) : ordN S d k f ≤ fc (S 19 d) := by
  rw [ord_all]; exact Nat.sub_le _ _
theorem mo_sz (S : St) (d k : Nat) : mo S d k ≤ S 19 d := cnt_le _ _
theorem ord_mono (S : St) (d k : Nat) {f g : Nat} (h : f ≤ g) : ordN S d k f ≤ ordN S d k g := by
  unfold ordN
  have h1 : prod (fWo (S 19 d) (S 19 d - mo S d k) g) (S 19 d) ≤ prod (fWo (S 19 d) (S 19 d - mo S d k) f) (S 19 d) := prod_le fun p hp => by
    unfold fWo
    by_cases e : p < f
    · rw [if_pos e, if_pos (by omega)]; exact Nat.le_refl _
    · rw [if_neg e]
      split <;> omega
  omega
theorem ord_end {S : St} {d k f : Nat} (hf : S 19 d ≤ f) : ordN S d k f = if 0 < mo S d k then fc (S 19 d) else 0 := by
  have hm := mo_sz S d k
  rw [ord_all]
  by_cases e : 0 < mo S d k
  · rw [if_pos e, ← prod_Wn, prod_0 (i := S 19 d - mo S d k) (by unfold fWo; rw [if_pos (by omega)]; omega) (by omega), Nat.sub_zero]
  · rw [if_neg e, ← prod_Wn, show S 19 d - mo S d k = S 19 d by omega]
    have h1 : prod (fWo (S 19 d) (S 19 d) f) (S 19 d) = fc (S 19 d) := by
      rw [← Wn_fc (S 19 d) 0, ← prod_all]
      exact prod_cong fun p hp => by unfold fWo fAll; rw [if_pos (by omega)]
    rw [h1, Nat.sub_self]
theorem ord_1 {S : St} {d k : Nat} (h0 : S 19 d ≠ 0) : fc (S 19 d) / S 19 d * mo S d k = ordN S d k 1 := by
  have hm := mo_sz S d k
  rw [ord_all]
  generalize S 19 d = n at h0 hm ⊢
  generalize mo S d k = q at hm ⊢
  cases n with
  | zero => exact absurd rfl h0
  | succ n =>
    rw [Wn_ss, Wn_fc, fc_s, Nat.mul_div_cancel_left _ (Nat.succ_pos n), ← Nat.sub_mul, Nat.mul_comm]
    congr 1
    omega
/-- what was told before -/
def bfN (S : St) (d k t : Nat) : Nat := if t ≤ 1 then 0 else ordN S d k (t - 1)
theorem bf_0 (S : St) (d k : Nat) : bfN S d k 1 = 0 := rfl
theorem bf_s {S : St} {d k t : Nat} (h : 1 ≤ t) : bfN S d k (t + 1) = ordN S d k t := by unfold bfN; rw [if_neg (by omega), Nat.add_sub_cancel]
theorem bf_le (S : St) (d k t : Nat) : bfN S d k t ≤ ordN S d k t := by
  unfold bfN
  split
  · exact Nat.zero_le _
  · exact ord_mono S d k (by omega)
theorem lcmp_0 (x : Int64) : lg_cmp x x = nI 0 := by
  unfold lg_cmp
  rw [if_neg (by rw [gt_iff_lt, Int64.lt_iff_toInt_lt]; omega), if_pos rfl]
  rfl
end DECKSPEC
