/-! A game told the other way round; who wins, and what is won. -/
section PLAYSPEC
theorem gm_sw (S : St) (r1 r2 : Nat → Nat) : ∀ i, gm S r2 r1 i = ((gm S r1 r2 i).2.2.1, (gm S r1 r2 i).2.2.2, (gm S r1 r2 i).1, (gm S r1 r2 i).2.1)
  | 0 => rfl
  | i + 1 => by
    have ih := gm_sw S r1 r2 i
    simp only [gm, ih]
theorem gmF_sw (S : St) (x y p q : Nat) : (gmF S y x q p).1 = (gmF S x y p q).2.2.1 ∧ (gmF S y x q p).2.2.1 = (gmF S x y p q).1 := by
  unfold gmF
  rw [gm_sw S (shuf S x p) (shuf S y q)]
  exact ⟨rfl, rfl⟩
theorem gmF_le (S : St) (x y p q : Nat) : (gmF S x y p q).1 ≤ 2 * S 3 1 ∧ (gmF S x y p q).2.2.1 ≤ 2 * S 3 1 := by
  have h := gm_le S (shuf S x p) (shuf S y q) (S 3 1)
  exact ⟨h.1, h.2.2.1⟩
theorem wonS_sw (S : St) (x y a c : Nat) : wonS S y x c a = wonS S x y a c := by
  unfold wonS
  rcases Nat.lt_trichotomy a c with h | h | h
  · rw [if_pos h, if_neg (by omega), if_pos h]
  · rw [if_neg (by omega), if_neg (by omega), if_neg (by omega), if_neg (by omega)]
  · rw [if_neg (by omega), if_pos h, if_pos h]
theorem m2_mul : ∀ n, n < 11 → (-2 : Int32) * nI n = nI 0 - nI (2 * n) := by decide +kernel
theorem dm_lo {a c n : Nat} (ha : a ≤ 2 * n) (hc : c ≤ 2 * n) (hn : n < 11) : ¬ nI a - nI c < (-2 : Int32) * nI n := by
  rw [m2_mul n hn, Int32.lt_iff_toInt_lt, pk_sub_toInt (by omega) (by omega), pk_sub_toInt (by omega) (by omega)]
  omega
theorem dm_hi {a c n : Nat} (ha : a ≤ 2 * n) (hc : c ≤ 2 * n) (hn : n < 11) : ¬ nI (2 * n) < nI a - nI c := by
  rw [Int32.lt_iff_toInt_lt, pk_sub_toInt (by omega) (by omega), nI_toInt (by omega)]
  omega
theorem dm_k {a c : Nat} (ha : a ≤ 20) (hc : c ≤ 20) : (-1000 : Int32) ≤ nI a - nI c := by
  rw [Int32.le_iff_toInt_le, pk_sub_toInt (by omega) (by omega), show (-1000 : Int32).toInt = -1000 from by decide]
  omega
theorem dm_z {a c : Nat} (ha : a ≤ 20) (hc : c ≤ 20) : nI a - nI c = 0 ↔ a = c := by
  constructor
  · intro h
    have h1 := congrArg Int32.toInt h
    rw [pk_sub_toInt (by omega) (by omega), Int32.toInt_zero] at h1
    omega
  · intro h
    rw [h, Int32.sub_self]
/-- whether a kind is among the first cards of a shuffled deck -/
def mrB (S : St) (w u : Nat) : Nat → Bool := fun j => decide (S 15 (shuf S w 0 j) = u)
def mrN (S : St) (w u v : Nat) : Nat := (anyB (mrB S w u) v).toNat
theorem mr_y {S : St} {w u v : Nat} (h : S 15 (shuf S w 0 v) = u) : mrN S w u (v + 1) = 1 := by
  unfold mrN
  rw [anyB_succ, show mrB S w u v = true from decide_eq_true h, Bool.or_true]; rfl
theorem mr_n {S : St} {w u v : Nat} (h : S 15 (shuf S w 0 v) ≠ u) : mrN S w u (v + 1) = mrN S w u v := by
  unfold mrN
  rw [anyB_succ, show mrB S w u v = false from decide_eq_false h, Bool.or_false]
theorem any_cnt (f : Nat → Bool) : ∀ n, anyB f n = decide (0 < cnt f n)
  | 0 => rfl
  | n + 1 => by
    rw [anyB_succ, any_cnt f n]
    cases h : f n with
    | true => rw [cnt_y h, Bool.or_true, decide_eq_true (by omega)]
    | false => rw [cnt_n h, Bool.or_false]
theorem mr_all (S : St) (w u : Nat) : mrN S w u (S 19 w) = if 0 < mo S w u then 1 else 0 := by
  unfold mrN
  rw [any_cnt, show cnt (mrB S w u) (S 19 w) = mo S w u from sk_mo S w 0 u]
  by_cases h : 0 < mo S w u
  · rw [if_pos h, decide_eq_true h]; rfl
  · rw [if_neg h, decide_eq_false h]; rfl
theorem gw_14 {S : St} {d u : Nat} : ∀ i, u < i → gwS S d i 14 u = S 14 u + if 0 < mo S d u then 1 else 0
  | 0, h => absurd h (Nat.not_lt_zero u)
  | i + 1, h => by
    by_cases e : u = i
    · subst e
      by_cases g : 0 < mo S d u
      · rw [gwS_y g, up_same, if_pos g]
      · rw [gwS_n g, gwS_hi u (Nat.le_refl u), if_neg g]; rfl
    · by_cases g : 0 < mo S d i
      · rw [gwS_y g, up_nk (fun q => e q), gw_14 i (by omega)]
      · rw [gwS_n g, gw_14 i (by omega)]
theorem won_ne {S : St} {x y a c f : Nat} (h : f ≠ 14) : wonS S x y a c f = S f := by
  unfold wonS
  split
  · exact gwS_ne h 16
  · split
    · exact gwS_ne h 16
    · rfl
theorem won_14 {S : St} {x y a c w u : Nat} (hac : a ≠ c) (hw : w = if c < a then x else y) (hu : u < 16) : wonS S x y a c 14 u = S 14 u + if 0 < mo S w u then 1 else 0 := by
  unfold wonS
  by_cases h : c < a
  · rw [if_pos h] at hw ⊢
    rw [hw, gw_14 16 hu]
  · rw [if_neg h] at hw ⊢
    rw [if_pos (by omega), hw, gw_14 16 hu]
theorem won_same (S : St) (x y a : Nat) : wonS S x y a a = S := by
  unfold wonS
  rw [if_neg (Nat.lt_irrefl a), if_neg (Nat.lt_irrefl a)]
theorem Rel.cong {S T U : St} (h : Rel S U) (e : ∀ f, f ≠ 14 → T f = S f) : Rel T U := by
  have k : ∀ d, kdB T d = kdB S d := fun d => by unfold kdB; rw [e 15 (by decide)]
  unfold Rel at h ⊢
  simp only [k]
  rw [e 2 (by decide), e 3 (by decide), e 4 (by decide), e 12 (by decide), e 13 (by decide), e 15 (by decide), e 16 (by decide), e 17 (by decide), e 18 (by decide), e 19 (by decide), e 21 (by decide), e 23 (by decide), e 24 (by decide), e 25 (by decide)]
  obtain ⟨h1, h2, h3, h4, h5, h6, h7, h8⟩ := h
  refine ⟨h1, h2, h3, h4, h5, fun d p hd hp => ?_, fun d p q hd hp hq => ?_, h8⟩
  · rw [e (30 + d) (by omega)]; exact h6 d p hd hp
  · rw [e (30 + d) (by omega)]; exact h7 d p q hd hp hq
end PLAYSPEC
