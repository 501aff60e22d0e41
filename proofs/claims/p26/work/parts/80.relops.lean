/-! What the law's rows tell stays so, call by call. -/
section RELOPS
/-- a card more -/
def prS (S : St) (k y : Nat) : St := up (up (up (up (up S 13 k (S 13 k + 1)) 15 (S 2 0) k) 16 (S 2 0) (S 13 k + 1)) 17 (S 2 0) y) 2 0 (S 2 0 + 1)
theorem rel_print {S U : St} (h : Rel S U) {k y : Nat} (hk : k < 16) (hy : y < 6) (hn : S 2 0 < 60) : Rel (prS S k y) (up (up U 0 k (S 13 k + 1)) 3 0 (S 2 0 + 1)) := by
  have t2 : prS S k y 2 0 = S 2 0 + 1 := up_same
  have te : ∀ f, f ≠ 2 → f ≠ 13 → f ≠ 15 → f ≠ 16 → f ≠ 17 → prS S k y f = S f := fun f a1 a2 a3 a4 a5 => by unfold prS; rw [up_ne a1, up_ne a5, up_ne a4, up_ne a3, up_ne a2]
  have t13 : prS S k y 13 = upf (S 13) k (S 13 k + 1) := by unfold prS; rw [up_ne (by decide), up_ne (by decide), up_ne (by decide), up_ne (by decide), up_f]
  have t15 : prS S k y 15 = upf (S 15) (S 2 0) k := by unfold prS; rw [up_ne (by decide), up_ne (by decide), up_ne (by decide), up_f, up_ne (by decide)]
  have t16 : prS S k y 16 = upf (S 16) (S 2 0) (S 13 k + 1) := by unfold prS; rw [up_ne (by decide), up_ne (by decide), up_f, up_ne (by decide), up_ne (by decide)]
  have t17 : prS S k y 17 = upf (S 17) (S 2 0) y := by unfold prS; rw [up_ne (by decide), up_f, up_ne (by decide), up_ne (by decide), up_ne (by decide)]
  have v0 : ∀ j, up (up U 0 k (S 13 k + 1)) 3 0 (S 2 0 + 1) 0 j = upf (U 0) k (S 13 k + 1) j := fun j => by rw [up_ne (by decide), up_f]
  have v1 : up (up U 0 k (S 13 k + 1)) 3 0 (S 2 0 + 1) 1 = U 1 := by rw [up_ne (by decide), up_ne (by decide)]
  have v2 : up (up U 0 k (S 13 k + 1)) 3 0 (S 2 0 + 1) 2 = U 2 := by rw [up_ne (by decide), up_ne (by decide)]
  have v3 : ∀ j, up (up U 0 k (S 13 k + 1)) 3 0 (S 2 0 + 1) 3 j = upf (U 3) 0 (S 2 0 + 1) j := fun j => by rw [up_f, up_ne (by decide)]
  generalize prS S k y = T at t2 te t13 t15 t16 t17 ⊢
  generalize up (up U 0 k (S 13 k + 1)) 3 0 (S 2 0 + 1) = W at v0 v1 v2 v3 ⊢
  have kd : ∀ d j, j < S 2 0 → kdB T d j = kdB S d j := fun d j hj => by unfold kdB; rw [t15, upf_ne (by omega)]
  have kc : ∀ d j, j ≤ S 2 0 → cnt (kdB T d) j = cnt (kdB S d) j := fun d j hj => cnt_cong fun i hi => kd d i (by omega)
  have kl : ∀ d, cnt (kdB T d) (S 2 0 + 1) = upf (S 13) k (S 13 k + 1) d ∨ 16 ≤ d := fun d => by
    by_cases hd : d < 16
    · left
      rw [upf_eq]
      by_cases e : d = k
      · rw [if_pos e, cnt_y (by unfold kdB; rw [t15, upf_same, e]; exact decide_eq_true rfl), kc _ _ (Nat.le_refl _), ← rel_cnt h hd, e]
      · rw [if_neg e, cnt_n (by unfold kdB; rw [t15, upf_same]; exact decide_eq_false (fun q => e q.symm)), kc _ _ (Nat.le_refl _), ← rel_cnt h hd]
    · right; omega
  obtain ⟨h1, h2, h3, h4, h5, h6, h7, h8⟩ := h
  refine ⟨⟨?_, ?_, ?_, ?_, ?_⟩, ?_, fun d hd => ⟨?_, ?_, ?_⟩, fun j hj => ⟨?_, ?_⟩, fun d hd => ⟨?_, fun hn => ?_, fun hn => ?_⟩, fun d p hd hp => ?_, fun d p q hd hp hq => ?_, fun o ho => ?_⟩
  · rw [v3, upf_same, t2]
  · rw [v3, upf_ne (by decide), te 3 (by decide) (by decide) (by decide) (by decide) (by decide)]; exact h1.2.1
  · rw [v3, upf_ne (by decide), te 4 (by decide) (by decide) (by decide) (by decide) (by decide)]; exact h1.2.2.1
  · rw [v3, upf_ne (by decide), te 3 (by decide) (by decide) (by decide) (by decide) (by decide)]; exact h1.2.2.2.1
  · rw [v3, upf_ne (by decide), te 3 (by decide) (by decide) (by decide) (by decide) (by decide)]; exact h1.2.2.2.2
  · rw [t2]; omega
  · rw [v0, t13, upf_eq, upf_eq]
    split
    · rfl
    · exact (h3 d hd).1
  · rw [v0, upf_ne (by omega), te 12 (by decide) (by decide) (by decide) (by decide) (by decide)]; exact (h3 d hd).2.1
  · rw [t2, t13]
    rcases kl d with q | q
    · exact q.symm
    · omega
  · rw [t2] at hj
    rw [t16, t15, upf_eq, upf_eq]
    by_cases e : j = S 2 0
    · rw [if_pos e, if_pos e, e]
      rcases kl k with q | q
      · rw [q, upf_same]
      · omega
    · rw [if_neg e, if_neg e, kc _ _ (by omega)]
      exact (h4 j (by omega)).1
  · rw [t2] at hj
    rw [t17, upf_eq]
    split
    · exact hy
    · exact (h4 j (by omega)).2
  · rw [v1, te 19 (by decide) (by decide) (by decide) (by decide) (by decide)]; exact (h5 d hd).1
  · rw [te 3 (by decide) (by decide) (by decide) (by decide) (by decide)] at hn
    rw [te 19 (by decide) (by decide) (by decide) (by decide) (by decide)]; exact (h5 d hd).2.1 hn
  · rw [te 3 (by decide) (by decide) (by decide) (by decide) (by decide)] at hn
    rw [v1, te 18 (by decide) (by decide) (by decide) (by decide) (by decide)]; exact (h5 d hd).2.2 hn
  · rw [te 19 (by decide) (by decide) (by decide) (by decide) (by decide)] at hp
    rw [te (30 + d) (by omega) (by omega) (by omega) (by omega) (by omega), t2]
    have := h6 d p hd hp
    omega
  · rw [te 19 (by decide) (by decide) (by decide) (by decide) (by decide)] at hq
    rw [te (30 + d) (by omega) (by omega) (by omega) (by omega) (by omega)]
    exact h7 d p q hd hp hq
  · rw [te 4 (by decide) (by decide) (by decide) (by decide) (by decide)] at ho
    rw [v2, te 21 (by decide) (by decide) (by decide) (by decide) (by decide), te 23 (by decide) (by decide) (by decide) (by decide) (by decide), te 24 (by decide) (by decide) (by decide) (by decide) (by decide), te 25 (by decide) (by decide) (by decide) (by decide) (by decide)]
    exact h8 o ho
/-- what a state must share with another, and what the rows, for the relation to go over; decks apart -/
theorem Rel.mk2 {S T U W : St} (h : Rel S U) (e : ∀ f, f = 2 ∨ f = 13 ∨ f = 15 ∨ f = 16 ∨ f = 17 → T f = S f) (g : W 3 0 = T 2 0 ∧ W 3 1 = T 3 0 ∧ W 3 2 = T 4 0 ∧ W 3 3 = T 3 1 ∧ W 3 4 = T 3 2)
    (p : ∀ d, d < 16 → W 0 d = U 0 d ∧ W 0 (16 + d) = T 12 d)
    (d1 : ∀ d, d < 12 → W 1 (2 * d + 1) = T 19 d ∧ (T 3 0 ≤ d → T 19 d = 0) ∧ (d < T 3 0 → W 1 (2 * d) = T 18 d))
    (d2 : ∀ d q, d < 12 → q < T 19 d → T (30 + d) q < S 2 0)
    (d3 : ∀ d p q, d < 12 → p < q → q < T 19 d → T (30 + d) p ≠ T (30 + d) q)
    (o1 : ∀ o, o < T 4 0 → W 2 o = T 21 o + 128 * T 23 o + 4096 * T 24 o + 65536 * (1 - T 25 o) ∧ T 23 o < 16 ∧ T 24 o < 6) : Rel T W := by
  have k : ∀ d, kdB T d = kdB S d := fun d => by unfold kdB; rw [e 15 (by omega)]
  refine ⟨g, by rw [e 2 (by omega)]; exact h.2.1, fun d hd => ⟨?_, (p d hd).2, ?_⟩, fun j hj => ?_, d1, fun d q hd hq => by rw [e 2 (by omega)]; exact d2 d q hd hq, d3, o1⟩
  · rw [(p d hd).1, e 13 (by omega)]; exact rel_p h hd
  · rw [k, e 13 (by omega), e 2 (by omega)]; exact rel_cnt h hd
  · rw [e 2 (by omega)] at hj
    rw [k, e 16 (by omega), e 15 (by omega), e 17 (by omega)]
    exact ⟨rel_no h hj, rel_col h hj⟩
theorem rel_decks {S U : St} (h : Rel S U) : ∀ d, d < 12 → U 1 (2 * d + 1) = S 19 d ∧ (S 3 0 ≤ d → S 19 d = 0) ∧ (d < S 3 0 → U 1 (2 * d) = S 18 d) := h.2.2.2.2.1
theorem rel_kinds {S U : St} (h : Rel S U) : ∀ d, d < 16 → U 0 d = U 0 d ∧ U 0 (16 + d) = S 12 d := fun d hd => ⟨rfl, rel_b h hd⟩
def dkS (S : St) (y : Nat) : St := up (up S 18 (S 3 0) y) 3 0 (S 3 0 + 1)
theorem rel_deck {S U : St} (h : Rel S U) {y : Nat} (hn : S 3 0 < 12) : Rel (dkS S y) (up (up U 1 (2 * S 3 0) y) 3 1 (S 3 0 + 1)) := by
  have te : ∀ f, f ≠ 3 → f ≠ 18 → dkS S y f = S f := fun f a1 a2 => by unfold dkS; rw [up_ne a1, up_ne a2]
  have t3 : ∀ j, dkS S y 3 j = upf (S 3) 0 (S 3 0 + 1) j := fun j => by unfold dkS; rw [up_f, up_ne (by decide)]
  have t18 : dkS S y 18 = upf (S 18) (S 3 0) y := by unfold dkS; rw [up_ne (by decide), up_f]
  have v0 : up (up U 1 (2 * S 3 0) y) 3 1 (S 3 0 + 1) 0 = U 0 := by rw [up_ne (by decide), up_ne (by decide)]
  have v1 : ∀ j, up (up U 1 (2 * S 3 0) y) 3 1 (S 3 0 + 1) 1 j = upf (U 1) (2 * S 3 0) y j := fun j => by rw [up_ne (by decide), up_f]
  have v2 : up (up U 1 (2 * S 3 0) y) 3 1 (S 3 0 + 1) 2 = U 2 := by rw [up_ne (by decide), up_ne (by decide)]
  have v3 : ∀ j, up (up U 1 (2 * S 3 0) y) 3 1 (S 3 0 + 1) 3 j = upf (U 3) 1 (S 3 0 + 1) j := fun j => by rw [up_f, up_ne (by decide)]
  generalize dkS S y = T at te t3 t18 ⊢
  generalize up (up U 1 (2 * S 3 0) y) 3 1 (S 3 0 + 1) = W at v0 v1 v2 v3 ⊢
  obtain ⟨g0, g1, g2, g3, g4⟩ := h.1
  refine h.mk2 (fun f hf => te f (by omega) (by omega)) ⟨?_, ?_, ?_, ?_, ?_⟩ (fun d hd => ?_) (fun d hd => ⟨?_, fun hq => ?_, fun hq => ?_⟩) (fun d q hd hq => ?_) (fun d p q hd hp hq => ?_) (fun o ho => ?_)
  · rw [v3, upf_ne (by decide), te 2 (by decide) (by decide)]; exact g0
  · rw [v3, upf_same, t3, upf_same]
  · rw [v3, upf_ne (by decide), te 4 (by decide) (by decide)]; exact g2
  · rw [v3, upf_ne (by decide), t3, upf_ne (by decide)]; exact g3
  · rw [v3, upf_ne (by decide), t3, upf_ne (by decide)]; exact g4
  · rw [v0, te 12 (by decide) (by decide)]; exact ⟨rfl, rel_b h hd⟩
  · rw [v1, upf_ne (by omega), te 19 (by decide) (by decide)]; exact rel_sz h hd
  · rw [t3, upf_same] at hq
    rw [te 19 (by decide) (by decide)]; exact rel_sz0 h hd (by omega)
  · rw [t3, upf_same] at hq
    rw [v1, t18, upf_eq, upf_eq]
    by_cases e : d = S 3 0
    · rw [if_pos (by omega), if_pos e]
    · rw [if_neg (by omega), if_neg e]; exact rel_ow h hd (by omega)
  · rw [te 19 (by decide) (by decide)] at hq
    rw [te (30 + d) (by omega) (by omega)]; exact rel_card h hd hq
  · rw [te 19 (by decide) (by decide)] at hq
    rw [te (30 + d) (by omega) (by omega)]; exact rel_dist h hd hp hq
  · rw [te 4 (by decide) (by decide)] at ho
    rw [v2, te 21 (by decide) (by decide), te 23 (by decide) (by decide), te 24 (by decide) (by decide), te 25 (by decide) (by decide)]; exact rel_off h ho
def adS (S : St) (d x : Nat) : St := up (up S (30 + d) (S 19 d) x) 19 d (S 19 d + 1)
theorem adS_te {S : St} {d x f : Nat} (h : f ≠ 19) (h2 : f ≠ 30 + d) : adS S d x f = S f := by unfold adS; rw [up_ne h, up_ne h2]
theorem adS_19 {S : St} {d x : Nat} (hd : d < 12) : adS S d x 19 = upf (S 19) d (S 19 d + 1) := by unfold adS; rw [up_f, up_ne (by omega)]
theorem adS_row {S : St} {d x : Nat} : adS S d x (30 + d) = upf (S (30 + d)) (S 19 d) x := by unfold adS; rw [up_ne (by omega), up_f]
theorem hold_no {S : St} {d x p : Nat} (h : holdB S d x = false) (hp : p < S 19 d) : S (30 + d) p ≠ x := of_decide_eq_false (anyB_no h p hp)
theorem hold_add {S : St} {d x : Nat} (hd : d < 12) : holdB (adS S d x) d x = true := by
  unfold holdB
  refine anyB_of (i := S 19 d) ?_ ?_
  · rw [adS_row, upf_same]; exact decide_eq_true rfl
  · rw [adS_19 hd, upf_same]; omega
theorem rel_add {S U : St} (h : Rel S U) {d x : Nat} (hd : d < 12) (hn : d < S 3 0) (hx : x < S 2 0) (hh : holdB S d x = false) : Rel (adS S d x) (up U 1 (2 * d + 1) (S 19 d + 1)) := by
  have te : ∀ f, f ≠ 19 → f ≠ 30 + d → adS S d x f = S f := fun f a1 a2 => adS_te a1 a2
  have t19 := adS_19 (S := S) (x := x) hd
  have tr := adS_row (S := S) (d := d) (x := x)
  have v1 : ∀ j, up U 1 (2 * d + 1) (S 19 d + 1) 1 j = upf (U 1) (2 * d + 1) (S 19 d + 1) j := fun j => by rw [up_f]
  have ve : ∀ f, f ≠ 1 → up U 1 (2 * d + 1) (S 19 d + 1) f = U f := fun f hf => up_ne hf
  generalize adS S d x = T at te t19 tr ⊢
  generalize up U 1 (2 * d + 1) (S 19 d + 1) = W at v1 ve ⊢
  obtain ⟨g0, g1, g2, g3, g4⟩ := h.1
  refine h.mk2 (fun f hf => te f (by omega) (by omega)) ⟨?_, ?_, ?_, ?_, ?_⟩ (fun q hq => ?_) (fun q hq => ⟨?_, fun hz => ?_, fun hz => ?_⟩) (fun q p hq hp => ?_) (fun q p r hq hp hr => ?_) (fun o ho => ?_)
  · rw [ve 3 (by decide), te 2 (by decide) (by omega)]; exact g0
  · rw [ve 3 (by decide), te 3 (by decide) (by omega)]; exact g1
  · rw [ve 3 (by decide), te 4 (by decide) (by omega)]; exact g2
  · rw [ve 3 (by decide), te 3 (by decide) (by omega)]; exact g3
  · rw [ve 3 (by decide), te 3 (by decide) (by omega)]; exact g4
  · rw [ve 0 (by decide), te 12 (by decide) (by omega)]; exact ⟨rfl, rel_b h hq⟩
  · rw [v1, t19, upf_eq, upf_eq]
    by_cases e : q = d
    · rw [if_pos (by omega), if_pos e]
    · rw [if_neg (by omega), if_neg e]; exact rel_sz h hq
  · rw [te 3 (by decide) (by omega)] at hz
    rw [t19, upf_ne (by omega)]; exact rel_sz0 h hq hz
  · rw [te 3 (by decide) (by omega)] at hz
    rw [v1, upf_ne (by omega), te 18 (by decide) (by omega)]; exact rel_ow h hq hz
  · rw [t19, upf_eq] at hp
    by_cases e : q = d
    · subst e
      rw [if_pos rfl] at hp
      rw [tr, upf_eq]
      by_cases e2 : p = S 19 q
      · rw [if_pos e2]; exact hx
      · rw [if_neg e2]; exact rel_card h hq (by omega)
    · rw [if_neg e] at hp
      rw [te (30 + q) (by omega) (by omega)]; exact rel_card h hq hp
  · rw [t19, upf_eq] at hr
    by_cases e : q = d
    · subst e
      rw [if_pos rfl] at hr
      rw [tr, upf_eq, upf_eq, if_neg (show ¬ p = S 19 q by omega)]
      by_cases e2 : r = S 19 q
      · rw [if_pos e2]; exact hold_no hh (by omega)
      · rw [if_neg e2]; exact rel_dist h hq hp (by omega)
    · rw [if_neg e] at hr
      rw [te (30 + q) (by omega) (by omega)]; exact rel_dist h hq hp hr
  · rw [te 4 (by decide) (by omega)] at ho
    rw [ve 2 (by decide), te 21 (by decide) (by omega), te 23 (by decide) (by omega), te 24 (by decide) (by omega), te 25 (by decide) (by omega)]; exact rel_off h ho
theorem up_same2 {U : St} {f k v : Nat} (h : U f k = v) : up U f k v = U := by rw [← h, up_id]
/-- the row behind a cut -/
theorem shl_row {S : St} {d g : Nat} : ∀ n j, shl S d g n (30 + d) j = if g ≤ j ∧ j < g + n then S (30 + d) (j + 1) else S (30 + d) j
  | 0, j => by rw [if_neg (by omega)]; rfl
  | n + 1, j => by
    show up (shl S d g n) (30 + d) (g + n) (shl S d g n (30 + d) (g + n + 1)) (30 + d) j = _
    rw [up_f, upf_eq, shl_row n j, shl_row n (g + n + 1)]
    by_cases e : j = g + n
    · rw [if_pos e, if_neg (show ¬ (g ≤ g + n + 1 ∧ g + n + 1 < g + n) by omega), if_pos (show g ≤ j ∧ j < g + (n + 1) by omega), e]
    · rw [if_neg e]
      by_cases e2 : g ≤ j ∧ j < g + n
      · rw [if_pos e2, if_pos (by omega)]
      · rw [if_neg e2, if_neg (by omega)]
def cuS (S : St) (d p : Nat) : St := shl (up S 19 d (S 19 d - 1)) d p (S 19 d - 1 - p)
theorem rel_cut {S U : St} (h : Rel S U) {d p : Nat} (hd : d < 12) (hp : p < S 19 d) : Rel (cuS S d p) (up U 1 (2 * d + 1) (S 19 d - 1)) := by
  have te : ∀ f, f ≠ 19 → f ≠ 30 + d → cuS S d p f = S f := fun f a1 a2 => by unfold cuS; rw [shl_ne a2, up_ne a1]
  have t19 : cuS S d p 19 = upf (S 19) d (S 19 d - 1) := by unfold cuS; rw [shl_ne (by omega), up_f]
  have tr : ∀ j, cuS S d p (30 + d) j = if p ≤ j ∧ j < p + (S 19 d - 1 - p) then S (30 + d) (j + 1) else S (30 + d) j := fun j => by unfold cuS; rw [shl_row, up_ne (by omega)]
  have v1 : ∀ j, up U 1 (2 * d + 1) (S 19 d - 1) 1 j = upf (U 1) (2 * d + 1) (S 19 d - 1) j := fun j => by rw [up_f]
  have ve : ∀ f, f ≠ 1 → up U 1 (2 * d + 1) (S 19 d - 1) f = U f := fun f hf => up_ne hf
  generalize cuS S d p = T at te t19 tr ⊢
  generalize up U 1 (2 * d + 1) (S 19 d - 1) = W at v1 ve ⊢
  obtain ⟨g0, g1, g2, g3, g4⟩ := h.1
  refine h.mk2 (fun f hf => te f (by omega) (by omega)) ⟨?_, ?_, ?_, ?_, ?_⟩ (fun q hq => ?_) (fun q hq => ⟨?_, fun hz => ?_, fun hz => ?_⟩) (fun q r hq hr => ?_) (fun q r s hq hr hs => ?_) (fun o ho => ?_)
  · rw [ve 3 (by decide), te 2 (by decide) (by omega)]; exact g0
  · rw [ve 3 (by decide), te 3 (by decide) (by omega)]; exact g1
  · rw [ve 3 (by decide), te 4 (by decide) (by omega)]; exact g2
  · rw [ve 3 (by decide), te 3 (by decide) (by omega)]; exact g3
  · rw [ve 3 (by decide), te 3 (by decide) (by omega)]; exact g4
  · rw [ve 0 (by decide), te 12 (by decide) (by omega)]; exact ⟨rfl, rel_b h hq⟩
  · rw [v1, t19, upf_eq, upf_eq]
    by_cases e : q = d
    · rw [if_pos (by omega), if_pos e]
    · rw [if_neg (by omega), if_neg e]; exact rel_sz h hq
  · rw [te 3 (by decide) (by omega)] at hz
    have h0 := rel_sz0 h hq hz
    rw [t19, upf_eq]
    split
    · rename_i e; subst e; omega
    · exact h0
  · rw [te 3 (by decide) (by omega)] at hz
    rw [v1, upf_ne (by omega), te 18 (by decide) (by omega)]; exact rel_ow h hq hz
  · rw [t19, upf_eq] at hr
    by_cases e : q = d
    · subst e
      rw [if_pos rfl] at hr
      rw [tr]
      split
      · exact rel_card h hq (by omega)
      · exact rel_card h hq (by omega)
    · rw [if_neg e] at hr
      rw [te (30 + q) (by omega) (by omega)]; exact rel_card h hq hr
  · rw [t19, upf_eq] at hs
    by_cases e : q = d
    · subst e
      rw [if_pos rfl] at hs
      rw [tr, tr]
      by_cases e1 : p ≤ r ∧ r < p + (S 19 q - 1 - p)
      · rw [if_pos e1, if_pos (by omega)]; exact rel_dist h hq (by omega) (by omega)
      · rw [if_neg e1]
        by_cases e2 : p ≤ s ∧ s < p + (S 19 q - 1 - p)
        · rw [if_pos e2]; exact rel_dist h hq (by omega) (by omega)
        · rw [if_neg e2]; exact rel_dist h hq hr (by omega)
    · rw [if_neg e] at hs
      rw [te (30 + q) (by omega) (by omega)]; exact rel_dist h hq hr hs
  · rw [te 4 (by decide) (by omega)] at ho
    rw [ve 2 (by decide), te 21 (by decide) (by omega), te 23 (by decide) (by omega), te 24 (by decide) (by omega), te 25 (by decide) (by omega)]; exact rel_off h ho
theorem rel_setKind {S U : St} (h : Rel S U) {k v w : Nat} : Rel (up (up S 10 k v) 11 k w) U := by
  have te : ∀ f, f ≠ 10 → f ≠ 11 → up (up S 10 k v) 11 k w f = S f := fun f a1 a2 => by rw [up_ne a2, up_ne a1]
  generalize up (up S 10 k v) 11 k w = T at te ⊢
  refine h.mk2 (fun f hf => te f (by omega) (by omega)) ?_ (fun d hd => ?_) (fun d hd => ?_) (fun d q hd hq => ?_) (fun d p q hd hp hq => ?_) (fun o ho => ?_)
  · rw [te 2 (by decide) (by decide), te 3 (by decide) (by decide), te 4 (by decide) (by decide)]; exact h.1
  · rw [te 12 (by decide) (by decide)]; exact ⟨rfl, rel_b h hd⟩
  · rw [te 19 (by decide) (by decide), te 3 (by decide) (by decide), te 18 (by decide) (by decide)]; exact rel_decks h d hd
  · rw [te 19 (by decide) (by decide)] at hq
    rw [te (30 + d) (by omega) (by omega)]; exact rel_card h hd hq
  · rw [te 19 (by decide) (by decide)] at hq
    rw [te (30 + d) (by omega) (by omega)]; exact rel_dist h hd hp hq
  · rw [te 4 (by decide) (by decide)] at ho
    rw [te 21 (by decide) (by decide), te 23 (by decide) (by decide), te 24 (by decide) (by decide), te 25 (by decide) (by decide)]; exact rel_off h ho
theorem rel_format {S U : St} (h : Rel S U) {x y : Nat} : Rel (up (up S 3 1 x) 3 2 y) (up (up U 3 3 x) 3 4 y) := by
  have te : ∀ f, f ≠ 3 → up (up S 3 1 x) 3 2 y f = S f := fun f a1 => by rw [up_ne a1, up_ne a1]
  have t3 : ∀ j, up (up S 3 1 x) 3 2 y 3 j = upf (upf (S 3) 1 x) 2 y j := fun j => by rw [up_f, up_f]
  have ve : ∀ f, f ≠ 3 → up (up U 3 3 x) 3 4 y f = U f := fun f a1 => by rw [up_ne a1, up_ne a1]
  have v3 : ∀ j, up (up U 3 3 x) 3 4 y 3 j = upf (upf (U 3) 3 x) 4 y j := fun j => by rw [up_f, up_f]
  generalize up (up S 3 1 x) 3 2 y = T at te t3 ⊢
  generalize up (up U 3 3 x) 3 4 y = W at ve v3 ⊢
  obtain ⟨g0, g1, g2, g3, g4⟩ := h.1
  have e30 : T 3 0 = S 3 0 := by rw [t3, upf_ne (by decide), upf_ne (by decide)]
  refine h.mk2 (fun f hf => te f (by omega)) ⟨?_, ?_, ?_, ?_, ?_⟩ (fun d hd => ?_) (fun d hd => ?_) (fun d q hd hq => ?_) (fun d p q hd hp hq => ?_) (fun o ho => ?_)
  · rw [v3, upf_ne (by decide), upf_ne (by decide), te 2 (by decide)]; exact g0
  · rw [v3, upf_ne (by decide), upf_ne (by decide), e30]; exact g1
  · rw [v3, upf_ne (by decide), upf_ne (by decide), te 4 (by decide)]; exact g2
  · rw [v3, upf_ne (by decide), upf_same, t3, upf_ne (by decide), upf_same]
  · rw [v3, upf_same, t3, upf_same]
  · rw [ve 0 (by decide), te 12 (by decide)]; exact ⟨rfl, rel_b h hd⟩
  · rw [ve 1 (by decide), te 19 (by decide), e30, te 18 (by decide)]; exact rel_decks h d hd
  · rw [te 19 (by decide)] at hq
    rw [te (30 + d) (by omega)]; exact rel_card h hd hq
  · rw [te 19 (by decide)] at hq
    rw [te (30 + d) (by omega)]; exact rel_dist h hd hp hq
  · rw [te 4 (by decide)] at ho
    rw [ve 2 (by decide), te 21 (by decide), te 23 (by decide), te 24 (by decide), te 25 (by decide)]; exact rel_off h ho
theorem rel_ban {S U : St} (h : Rel S U) {k v : Nat} (hk : k < 16) : Rel (up S 12 k v) (up U 0 (16 + k) v) := by
  have te : ∀ f, f ≠ 12 → up S 12 k v f = S f := fun f a1 => up_ne a1
  have t12 : up S 12 k v 12 = upf (S 12) k v := up_f
  have ve : ∀ f, f ≠ 0 → up U 0 (16 + k) v f = U f := fun f a1 => up_ne a1
  have v0 : up U 0 (16 + k) v 0 = upf (U 0) (16 + k) v := up_f
  generalize up S 12 k v = T at te t12 ⊢
  generalize up U 0 (16 + k) v = W at ve v0 ⊢
  refine h.mk2 (fun f hf => te f (by omega)) ?_ (fun d hd => ⟨?_, ?_⟩) (fun d hd => ?_) (fun d q hd hq => ?_) (fun d p q hd hp hq => ?_) (fun o ho => ?_)
  · rw [te 2 (by decide), te 3 (by decide), te 4 (by decide), ve 3 (by decide)]; exact h.1
  · rw [v0, upf_ne (by omega)]
  · rw [v0, t12, upf_eq, upf_eq]
    by_cases e : d = k
    · rw [if_pos (by omega), if_pos e]
    · rw [if_neg (by omega), if_neg e]; exact rel_b h hd
  · rw [ve 1 (by decide), te 19 (by decide), te 3 (by decide), te 18 (by decide)]; exact rel_decks h d hd
  · rw [te 19 (by decide)] at hq
    rw [te (30 + d) (by omega)]; exact rel_card h hd hq
  · rw [te 19 (by decide)] at hq
    rw [te (30 + d) (by omega)]; exact rel_dist h hd hp hq
  · rw [te 4 (by decide)] at ho
    rw [ve 2 (by decide), te 21 (by decide), te 23 (by decide), te 24 (by decide), te 25 (by decide)]; exact rel_off h ho
theorem rel_offer {S U : St} (h : Rel S U) {x y : Nat} (hx : x < S 2 0) (hy : y < 16) : Rel (offS S x y) (up (up U 2 (S 4 0) (x + 128 * y + 4096 * S 17 x)) 3 2 (S 4 0 + 1)) := by
  have hc := rel_col h hx
  have te : ∀ f, f ≠ 4 → f ≠ 21 → f ≠ 22 → f ≠ 23 → f ≠ 24 → f ≠ 25 → offS S x y f = S f := fun f a1 a2 a3 a4 a5 a6 => by unfold offS; rw [up_ne a1, up_ne a6, up_ne a5, up_ne a4, up_ne a3, up_ne a2]
  have t4 : offS S x y 4 0 = S 4 0 + 1 := up_same
  have t21 : offS S x y 21 = upf (S 21) (S 4 0) x := by unfold offS; rw [up_ne (by decide), up_ne (by decide), up_ne (by decide), up_ne (by decide), up_ne (by decide), up_f]
  have t23 : offS S x y 23 = upf (S 23) (S 4 0) y := by unfold offS; rw [up_ne (by decide), up_ne (by decide), up_ne (by decide), up_f, up_ne (by decide), up_ne (by decide)]
  have t24 : offS S x y 24 = upf (S 24) (S 4 0) (S 17 x) := by unfold offS; rw [up_ne (by decide), up_ne (by decide), up_f, up_ne (by decide), up_ne (by decide), up_ne (by decide)]
  have t25 : offS S x y 25 = upf (S 25) (S 4 0) 1 := by unfold offS; rw [up_ne (by decide), up_f, up_ne (by decide), up_ne (by decide), up_ne (by decide), up_ne (by decide)]
  have ve : ∀ f, f ≠ 2 → f ≠ 3 → up (up U 2 (S 4 0) (x + 128 * y + 4096 * S 17 x)) 3 2 (S 4 0 + 1) f = U f := fun f a1 a2 => by rw [up_ne a2, up_ne a1]
  have v2 : ∀ j, up (up U 2 (S 4 0) (x + 128 * y + 4096 * S 17 x)) 3 2 (S 4 0 + 1) 2 j = upf (U 2) (S 4 0) (x + 128 * y + 4096 * S 17 x) j := fun j => by rw [up_ne (by decide), up_f]
  have v3 : ∀ j, up (up U 2 (S 4 0) (x + 128 * y + 4096 * S 17 x)) 3 2 (S 4 0 + 1) 3 j = upf (U 3) 2 (S 4 0 + 1) j := fun j => by rw [up_f, up_ne (by decide)]
  generalize offS S x y = T at te t4 t21 t23 t24 t25 ⊢
  generalize up (up U 2 (S 4 0) (x + 128 * y + 4096 * S 17 x)) 3 2 (S 4 0 + 1) = W at ve v2 v3 ⊢
  obtain ⟨g0, g1, g2, g3, g4⟩ := h.1
  refine h.mk2 (fun f hf => te f (by omega) (by omega) (by omega) (by omega) (by omega) (by omega)) ⟨?_, ?_, ?_, ?_, ?_⟩ (fun d hd => ?_) (fun d hd => ?_) (fun d q hd hq => ?_) (fun d p q hd hp hq => ?_) (fun o ho => ?_)
  · rw [v3, upf_ne (by decide), te 2 (by decide) (by decide) (by decide) (by decide) (by decide) (by decide)]; exact g0
  · rw [v3, upf_ne (by decide), te 3 (by decide) (by decide) (by decide) (by decide) (by decide) (by decide)]; exact g1
  · rw [v3, upf_same, t4]
  · rw [v3, upf_ne (by decide), te 3 (by decide) (by decide) (by decide) (by decide) (by decide) (by decide)]; exact g3
  · rw [v3, upf_ne (by decide), te 3 (by decide) (by decide) (by decide) (by decide) (by decide) (by decide)]; exact g4
  · rw [ve 0 (by decide) (by decide), te 12 (by decide) (by decide) (by decide) (by decide) (by decide) (by decide)]; exact ⟨rfl, rel_b h hd⟩
  · rw [ve 1 (by decide) (by decide), te 19 (by decide) (by decide) (by decide) (by decide) (by decide) (by decide), te 3 (by decide) (by decide) (by decide) (by decide) (by decide) (by decide), te 18 (by decide) (by decide) (by decide) (by decide) (by decide) (by decide)]; exact rel_decks h d hd
  · rw [te 19 (by decide) (by decide) (by decide) (by decide) (by decide) (by decide)] at hq
    rw [te (30 + d) (by omega) (by omega) (by omega) (by omega) (by omega) (by omega)]; exact rel_card h hd hq
  · rw [te 19 (by decide) (by decide) (by decide) (by decide) (by decide) (by decide)] at hq
    rw [te (30 + d) (by omega) (by omega) (by omega) (by omega) (by omega) (by omega)]; exact rel_dist h hd hp hq
  · rw [t4] at ho
    rw [v2, t21, t23, t24, t25, upf_eq, upf_eq, upf_eq, upf_eq, upf_eq]
    by_cases e : o = S 4 0
    · rw [if_pos e, if_pos e, if_pos e, if_pos e, if_pos e]
      exact ⟨by omega, hy, hc⟩
    · rw [if_neg e, if_neg e, if_neg e, if_neg e, if_neg e]
      exact rel_off h (by omega)
/-- offers closed: the rows' numbers grow, the flags fall -/
theorem rel_close {S T U W : St} (h : Rel S U) (te : ∀ f, f ≠ 17 → f ≠ 25 → f ≠ 27 → T f = S f) (ve : ∀ f, f ≠ 2 → W f = U f) (h17 : ∀ j, j < S 2 0 → T 17 j < 6)
    (hc : ∀ o, o < S 4 0 → (W 2 o = U 2 o ∧ T 25 o = S 25 o) ∨ (W 2 o = U 2 o + 65536 ∧ T 25 o = 0 ∧ S 25 o = 1)) : Rel T W := by
  have k : ∀ d, kdB T d = kdB S d := fun d => by unfold kdB; rw [te 15 (by decide) (by decide) (by decide)]
  obtain ⟨h1, h2, h3, h4, h5, h6, h7, h8⟩ := h
  unfold Rel
  simp only [k]
  rw [te 2 (by decide) (by decide) (by decide), te 3 (by decide) (by decide) (by decide), te 4 (by decide) (by decide) (by decide), te 12 (by decide) (by decide) (by decide), te 13 (by decide) (by decide) (by decide), te 15 (by decide) (by decide) (by decide), te 16 (by decide) (by decide) (by decide), te 18 (by decide) (by decide) (by decide), te 19 (by decide) (by decide) (by decide), te 21 (by decide) (by decide) (by decide), te 23 (by decide) (by decide) (by decide), te 24 (by decide) (by decide) (by decide), ve 0 (by decide), ve 1 (by decide), ve 3 (by decide)]
  refine ⟨h1, h2, h3, fun j hj => ⟨(h4 j hj).1, h17 j hj⟩, h5, fun d p hd hp => ?_, fun d p q hd hp hq => ?_, fun o ho => ?_⟩
  · rw [te (30 + d) (by omega) (by omega) (by omega)]; exact h6 d p hd hp
  · rw [te (30 + d) (by omega) (by omega) (by omega)]; exact h7 d p q hd hp hq
  · obtain ⟨a1, a2, a3⟩ := h8 o ho
    refine ⟨?_, a2, a3⟩
    rcases hc o ho with ⟨b1, b2⟩ | ⟨b1, b2, b3⟩
    · rw [b1, b2]; exact a1
    · rw [b1, b2, a1, b3]
theorem rel_takeBack {S U : St} (h : Rel S U) {x : Nat} (h1 : S 25 x = 1) : Rel (tbS S x) (up U 2 x (U 2 x + 65536)) := by
  refine rel_close h (fun f a1 a2 a3 => by unfold tbS; rw [up_ne a3, up_ne a2]) (fun f hf => up_ne hf) (fun j hj => by unfold tbS; rw [up_ne (by decide), up_ne (by decide)]; exact rel_col h hj) (fun o ho => ?_)
  have e25 : tbS S x 25 = upf (S 25) x 0 := by unfold tbS; rw [up_ne (by decide), up_f]
  rw [e25, up_f, upf_eq, upf_eq]
  by_cases e : o = x
  · rw [if_pos e, if_pos e, e]; exact Or.inr ⟨rfl, rfl, h1⟩
  · rw [if_neg e, if_neg e]; exact Or.inl ⟨rfl, rfl⟩
theorem clU_ne {U S : St} {f : Nat} (h : f ≠ 2) : ∀ i, clU U S i f = U f
  | 0 => rfl
  | i + 1 => by rw [clU_s, up_ne h, clU_ne h i]
theorem clU_2 {U S : St} {o : Nat} : ∀ i, i ≤ lenO (frl S) → clU U S i 2 o = if inL (lstO (frl S)) i o then U 2 o + 65536 else U 2 o
  | 0, _ => rfl
  | i + 1, hi => by
    have ih := clU_2 (U := U) (S := S) (o := o) i (by omega)
    rw [clU_s, up_f, upf_eq, inL_s]
    by_cases e : o = lr S i
    · subst e
      have hno : inL (lstO (frl S)) i (lr S i) = false := by
        cases hc : inL (lstO (frl S)) i (lr S i) with
        | false => rfl
        | true =>
          obtain ⟨q, hq, eq⟩ := inL_ex hc
          exact absurd eq (lr_inj hq (by omega))
      rw [if_pos rfl, ih, hno, show decide (g0 (lstO (frl S)) i = lr S i) = true from decide_eq_true rfl]
      rfl
    · rw [if_neg e, show decide (g0 (lstO (frl S)) i = o) = false from decide_eq_false (fun q => e q.symm), Bool.or_false]
      exact ih
theorem trX_17lt {S : St} (hc : ∀ j, j < S 2 0 → S 17 j < 6) (h24 : ∀ o, o < S 4 0 → S 24 o < 6) : ∀ i, i ≤ lenO (frl S) → ∀ j, j < S 2 0 → trX S (lstO (frl S)) i 17 j < 6
  | 0, _, j, hj => hc j hj
  | i + 1, hi, j, hj => by
    rw [trX_s, up_ne (by decide), up_ne (by decide), up_f, upf_eq]
    split
    · exact h24 _ (lr_lt (nxp_lt (show i < lenO (frl S) by omega)))
    · exact trX_17lt hc h24 i (by omega) j hj
theorem rel_trade {n : Nat} {S U : St} (hI : Inv n S) (h : Rel S U) : Rel (trS S) (clU U S (lenO (frl S))) := by
  refine rel_close h (fun f a1 a2 a3 => trS_ne a1 a2 a3) (fun f hf => clU_ne hf _) (fun j hj => ?_) (fun o ho => ?_)
  · exact trX_17lt (fun j hj => rel_col h hj) (fun o ho => (rel_off h ho).2.2) _ (Nat.le_refl _) j hj
  · have e25 : trS S 25 o = if inL (lstO (frl S)) (lenO (frl S)) o then 0 else S 25 o := trX_25 _ _
    rw [clU_2 _ (Nat.le_refl _), e25]
    cases hc : inL (lstO (frl S)) (lenO (frl S)) o with
    | false => exact Or.inl ⟨rfl, rfl⟩
    | true =>
      obtain ⟨q, hq, eq⟩ := inL_ex hc
      have h1 := lr_live hq
      have h2 := hI.2.2.1.lt2 o
      rw [show lr S q = o from eq] at h1
      exact Or.inr ⟨rfl, rfl, by omega⟩
theorem neg_ne {x : Int32} (hx : x < 0) {n : Nat} (h : n < 2147483648) : x ≠ nI n := fun e => by
  rw [e] at hx
  exact nI_pos (show n < 2 ^ 31 by omega) hx
end RELOPS
