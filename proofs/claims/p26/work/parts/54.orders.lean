/-! Orders: counted one by one, and by the formula. -/
section ORD
/-- the orders of r cards, o of them not of the kind, in which none of the next g is of the kind -/
def Wn : Nat → Nat → Nat → Nat
  | 0, _, _ => 1
  | r + 1, o, 0 => (r + 1) * Wn r o 0
  | r + 1, o, g + 1 => o * Wn r (o - 1) g
theorem Wn_s0 (r o : Nat) : Wn (r + 1) o 0 = (r + 1) * Wn r o 0 := by conv => lhs; unfold Wn
theorem Wn_ss (r o g : Nat) : Wn (r + 1) o (g + 1) = o * Wn r (o - 1) g := by conv => lhs; unfold Wn
theorem Wn_0 : ∀ r o : Nat, Wn r o 0 = Wn r 0 0
  | 0, o => by unfold Wn; rfl
  | r + 1, o => by rw [Wn_s0, Wn_s0, Wn_0 r o]
theorem prod_head (f : Nat → Nat) : ∀ n, prod f (n + 1) = f 0 * prod (fun p => f (p + 1)) n
  | 0 => by show 1 * f 0 = f 0 * 1; omega
  | n + 1 => by
    rw [prod_s, prod_head f n, prod_s, Nat.mul_assoc]
theorem prod_cong {f g : Nat → Nat} : ∀ {n : Nat}, (∀ p, p < n → f p = g p) → prod f n = prod g n
  | 0, _ => rfl
  | n + 1, h => by rw [prod_s, prod_s, prod_cong (fun p hp => h p (by omega)), h n (by omega)]
theorem prod_Wn : ∀ r o g : Nat, prod (fWo r o g) r = Wn r o g
  | 0, o, g => by unfold Wn; rfl
  | r + 1, o, 0 => by
    rw [prod_head, Wn_s0, ← prod_Wn r o 0]
    congr 1
    refine prod_cong fun p hp => ?_
    unfold fWo
    rw [if_neg (by omega), if_neg (by omega)]
    omega
  | r + 1, o, g + 1 => by
    rw [prod_head, Wn_ss, ← prod_Wn r (o - 1) g]
    have h0 : fWo (r + 1) o (g + 1) 0 = o := by
      unfold fWo
      rw [if_pos (by omega)]
      omega
    rw [h0]
    congr 1
    refine prod_cong fun p hp => ?_
    unfold fWo
    by_cases e : p < g
    · rw [if_pos (by omega), if_pos e]; omega
    · rw [if_neg (by omega), if_neg e]; omega
theorem prod_all (n : Nat) : prod (fAll n) n = Wn n 0 0 := by
  rw [← prod_Wn]
  refine prod_cong fun p hp => ?_
  unfold fAll fWo
  rw [if_neg (by omega)]
theorem sum_two (q s : Nat → Bool) (x1 x2 : Nat) : ∀ n, sumN (fun p => if q p then 0 else if s p then x1 else x2) n = cnt (fun p => !q p && s p) n * x1 + cnt (fun p => !q p && !s p) n * x2
  | 0 => by show 0 = 0 * x1 + 0 * x2; omega
  | n + 1 => by
    rw [sumN_s, sum_two q s x1 x2 n]
    cases hq : q n with
    | true =>
      rw [cnt_n (by simp [hq]), cnt_n (by simp [hq])]
      simp
    | false =>
      cases hs : s n with
      | true =>
        rw [cnt_y (by simp [hq, hs]), cnt_n (by simp [hq, hs])]
        simp [Nat.add_mul]
        omega
      | false =>
        rw [cnt_n (by simp [hq, hs]), cnt_y (by simp [hq, hs])]
        simp [Nat.add_mul]
        omega
theorem sumN_cong {f g : Nat → Nat} : ∀ {n : Nat}, (∀ p, p < n → f p = g p) → sumN f n = sumN g n
  | 0, _ => rfl
  | n + 1, h => by rw [sumN_s, sumN_s, sumN_cong (fun p hp => h p (by omega)), h n (by omega)]
theorem cnt_split (f g : Nat → Bool) : ∀ n, cnt (fun p => f p && g p) n + cnt (fun p => f p && !g p) n = cnt f n
  | 0 => rfl
  | n + 1 => by
    have h := cnt_split f g n
    cases hf : f n with
    | true =>
      cases hg : g n with
      | true => rw [cnt_y (by simp [hf, hg]), cnt_n (by simp [hf, hg]), cnt_y hf]; omega
      | false => rw [cnt_n (by simp [hf, hg]), cnt_y (by simp [hf, hg]), cnt_y hf]; omega
    | false => rw [cnt_n (by simp [hf]), cnt_n (by simp [hf]), cnt_n hf]; omega
theorem cnt_drop {f g : Nat → Bool} {p : Nat} (hf : f p = true) (hg : ∀ i, g i = (f i && !decide (p = i))) : ∀ {n : Nat}, p < n → cnt g n + 1 = cnt f n
  | 0, h => absurd h (Nat.not_lt_zero p)
  | n + 1, h => by
    by_cases e : p = n
    · subst e
      rw [cnt_y hf, cnt_n (by rw [hg]; simp), cnt_cong (f := g) (g := f) (fun j hj => by rw [hg]; simp [show p ≠ j by omega])]
    · have ih := cnt_drop hf hg (n := n) (by omega)
      cases hn : f n with
      | true => rw [cnt_y hn, cnt_y (by rw [hg, hn]; simp [e])]; omega
      | false => rw [cnt_n hn, cnt_n (by rw [hg, hn]; simp)]; omega
def ub (lb : Nat) : Nat → Bool := fun i => !lb.testBit i
def nb (lb kb : Nat) : Nat → Bool := fun i => !lb.testBit i && !kb.testBit i
theorem lay_bit (lb p i : Nat) : (lb ||| 2 ^ p).testBit i = (lb.testBit i || decide (p = i)) := by
  rw [Nat.testBit_or, Nat.testBit_two_pow]
theorem ub_lay {lb p n : Nat} (h : lb.testBit p = false) (hp : p < n) : cnt (ub (lb ||| 2 ^ p)) n + 1 = cnt (ub lb) n :=
  cnt_drop (p := p) (by unfold ub; rw [h]; rfl) (fun i => by unfold ub; rw [lay_bit, Bool.not_or]) hp
theorem nb_lay {lb kb p n : Nat} (h : lb.testBit p = false) (hk : kb.testBit p = false) (hp : p < n) : cnt (nb (lb ||| 2 ^ p) kb) n + 1 = cnt (nb lb kb) n :=
  cnt_drop (p := p) (by unfold nb; rw [h, hk]; rfl) (fun i => by
    unfold nb
    rw [lay_bit, Bool.not_or]
    cases lb.testBit i <;> cases kb.testBit i <;> cases decide (p = i) <;> rfl) hp
theorem co_seen (n kb f : Nat) : ∀ r lb : Nat, cnt (ub lb) n = r → coN n kb f r lb true = Wn r 0 0
  | 0, lb, _ => by unfold Wn; rfl
  | r + 1, lb, h => by
    rw [coN_s, sumN_cong (g := fun p => if lb.testBit p then 0 else if (fun _ => true) p then Wn r 0 0 else 0) (fun p hp => ?_), sum_two, Wn_s0]
    · have e : cnt (fun p => !lb.testBit p && true) n = r + 1 := by rw [← h]; exact cnt_cong fun j _ => by unfold ub; rw [Bool.and_true]
      rw [e]
      omega
    · show coF n kb f r lb true p = _
      cases hb : lb.testBit p with
      | true => rw [coF_n hb]; rfl
      | false =>
        rw [coF_y hb (s2 := true) (Bool.true_or _), co_seen n kb f r _ (by have := ub_lay hb hp; omega)]
        rfl
theorem co_not (n kb f : Nat) : ∀ r lb : Nat, r ≤ n → cnt (ub lb) n = r → coN n kb f r lb false + Wn r (cnt (nb lb kb) n) (f - (n - r)) = Wn r 0 0
  | 0, lb, _, _ => by unfold Wn; rfl
  | r + 1, lb, hr, h => by
    by_cases ht : n - (r + 1) < f
    · obtain ⟨g, hg⟩ : ∃ g, f - (n - (r + 1)) = g + 1 := ⟨f - (n - (r + 1)) - 1, by omega⟩
      have hg2 : f - (n - r) = g := by omega
      obtain ⟨o, ho⟩ : ∃ o, o = cnt (nb lb kb) n := ⟨_, rfl⟩
      have hsum : coN n kb f (r + 1) lb false = cnt (fun p => !lb.testBit p && kb.testBit p) n * Wn r 0 0 + cnt (fun p => !lb.testBit p && !kb.testBit p) n * (Wn r 0 0 - Wn r (o - 1) g) := by
        rw [coN_s, ← sum_two]
        refine sumN_cong fun p hp => ?_
        cases hb : lb.testBit p with
        | true => rw [coF_n hb]; rfl
        | false =>
          have hu := ub_lay hb hp
          cases hk : kb.testBit p with
          | true =>
            rw [coF_y hb (s2 := true) (by rw [decide_eq_true ht, hk]; rfl), co_seen n kb f r _ (by omega)]
            rfl
          | false =>
            have hn := nb_lay hb hk hp
            have ih := co_not n kb f r (lb ||| 2 ^ p) (by omega) (by omega)
            rw [hg2, show cnt (nb (lb ||| 2 ^ p) kb) n = o - 1 by omega] at ih
            rw [coF_y hb (s2 := false) (by rw [hk, Bool.and_false]; rfl)]
            show _ = Wn r 0 0 - Wn r (o - 1) g
            omega
      have hsp := cnt_split (ub lb) (fun p => kb.testBit p) n
      have e1 : cnt (fun p => !lb.testBit p && kb.testBit p) n + o = r + 1 := by rw [ho, ← h, ← hsp]; rfl
      have e2 : cnt (fun p => !lb.testBit p && !kb.testBit p) n = o := ho.symm
      rw [hsum, hg, ← ho, e2, Wn_ss, Wn_s0, ← e1, Nat.add_mul]
      by_cases h0 : o = 0
      · rw [h0]; omega
      · have hle : Wn r (o - 1) g ≤ Wn r 0 0 := by
          have h1 := prod_le (f := fWo r (o - 1) g) (g := fAll r) (n := r)
          rw [← prod_all, ← prod_Wn]
          have hor : o - 1 ≤ r := by omega
          exact wo_le hor r
        rw [Nat.add_assoc, ← Nat.mul_add, Nat.sub_add_cancel hle]
    · have hg : f - (n - (r + 1)) = 0 := by omega
      have hg2 : f - (n - r) = 0 := by omega
      rw [hg, Wn_0]
      have hz : coN n kb f (r + 1) lb false = 0 := by
        rw [coN_s, sumN_cong (g := fun p => if lb.testBit p then 0 else if (fun _ => true) p then 0 else 0) (fun p hp => ?_), sum_two]
        · omega
        · cases hb : lb.testBit p with
          | true => rw [coF_n hb]; rfl
          | false =>
            have hu := ub_lay hb hp
            have ih := co_not n kb f r (lb ||| 2 ^ p) (by omega) (by omega)
            rw [hg2, Wn_0] at ih
            rw [coF_y hb (s2 := false) (by rw [decide_eq_false ht]; rfl)]
            show _ = 0
            omega
      rw [hz, Nat.zero_add]
/-- all orders gone through give what the formula gives -/
theorem co_ord (S : St) (d k f : Nat) : coN (S 19 d) (bits (isK S d k) (S 19 d)) f (S 19 d) 0 false = ordN S d k f := by
  have hu : cnt (ub 0) (S 19 d) = S 19 d := by
    have : ∀ n, cnt (ub 0) n = n := fun n => by
      induction n with
      | zero => rfl
      | succ n ih => rw [cnt_y (by unfold ub; rw [Nat.zero_testBit]; rfl), ih]
    exact this _
  have h := co_not (S 19 d) (bits (isK S d k) (S 19 d)) f (S 19 d) 0 (Nat.le_refl _) hu
  have hn : cnt (nb 0 (bits (isK S d k) (S 19 d))) (S 19 d) = S 19 d - mo S d k := by
    have hs := cnt_split (ub 0) (isK S d k) (S 19 d)
    rw [hu] at hs
    have e1 : cnt (fun p => ub 0 p && isK S d k p) (S 19 d) = mo S d k := cnt_cong fun j _ => by unfold ub; rw [Nat.zero_testBit]; rfl
    have e2 : cnt (fun p => ub 0 p && !isK S d k p) (S 19 d) = cnt (nb 0 (bits (isK S d k) (S 19 d))) (S 19 d) := cnt_cong fun j hj => by
      unfold ub nb
      rw [bits_test, decide_eq_true hj]; rfl
    omega
  rw [hn, Nat.sub_self, Nat.sub_zero] at h
  unfold ordN
  rw [prod_all, prod_Wn]
  omega
end ORD
