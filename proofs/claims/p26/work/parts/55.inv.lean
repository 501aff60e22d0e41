/-! What every run of calls keeps; one state for both sides. -/
section INV
theorem upP {S : St} {f k v g j : Nat} {P : Nat → Prop} (h1 : P (S g j)) (h2 : g = f → j = k → P v) : P (up S f k v g j) := by
  by_cases e : g = f
  · subst e
    rw [up_f, upf_eq]
    by_cases e2 : j = k
    · rw [if_pos e2]; exact h2 rfl e2
    · rw [if_neg e2]; exact h1
  · rw [up_ne e]; exact h1
def Bd (n : Nat) (S : St) : Prop := ∀ f k, S f k ≤ 100 + n
theorem Bd.up {n : Nat} {S : St} {f k v : Nat} (h : Bd n S) (hv : v ≤ 100 + n) : Bd n (up S f k v) := fun g j => upP (P := fun z => z ≤ 100 + n) (h g j) (fun _ _ => hv)
theorem Bd.mono {n m : Nat} {S : St} (h : Bd n S) (hm : n ≤ m) : Bd m S := fun f k => Nat.le_trans (h f k) (by omega)
def Vr (S : St) : Prop := S 2 0 ≤ 80 ∧ S 3 0 ≤ 12 ∧ S 4 0 ≤ 40 ∧ (∀ k, S 15 k < 16) ∧ (∀ d, S 19 d ≤ 10) ∧ (∀ d p, d < 12 → S (30 + d) p < 80) ∧ (∀ o, S 21 o < 80) ∧ (4 ≤ S 3 1 ∧ S 3 1 ≤ 10)
theorem Vr.V {n : Nat} {S : St} (h : Vr S) (hb : Bd n S) (hn : n ≤ 999000 - 200) : V S := ⟨fun f k => Nat.lt_of_le_of_lt (hb f k) (by omega), h⟩
theorem Vr.up {S : St} {f k v : Nat} (h : Vr S) (hu : (f = 2 → k = 0 → v ≤ 80) ∧ (f = 3 → k = 0 → v ≤ 12) ∧ (f = 3 → k = 1 → 4 ≤ v ∧ v ≤ 10) ∧ (f = 4 → k = 0 → v ≤ 40) ∧ (f = 15 → v < 16) ∧ (f = 19 → v ≤ 10) ∧ (30 ≤ f → f < 42 → v < 80) ∧ (f = 21 → v < 80)) : Vr (up S f k v) := by
  obtain ⟨a2, a3, a4, a5, a6, a7, a8, a9⟩ := h
  obtain ⟨b2, b3, b31, b4, b5, b6, b7, b8⟩ := hu
  refine ⟨?_, ?_, ?_, fun j => ?_, fun j => ?_, fun d p hd => ?_, fun o => ?_, ?_⟩
  · exact upP (P := fun z => z ≤ 80) a2 (fun e e2 => b2 e.symm e2.symm)
  · exact upP (P := fun z => z ≤ 12) a3 (fun e e2 => b3 e.symm e2.symm)
  · exact upP (P := fun z => z ≤ 40) a4 (fun e e2 => b4 e.symm e2.symm)
  · exact upP (P := fun z => z < 16) (a5 j) (fun e e2 => b5 e.symm)
  · exact upP (P := fun z => z ≤ 10) (a6 j) (fun e e2 => b6 e.symm)
  · exact upP (P := fun z => z < 80) (a7 d p hd) (fun e e2 => b7 (by omega) (by omega))
  · exact upP (P := fun z => z < 80) (a8 o) (fun e e2 => b8 e.symm)
  · exact upP (P := fun z => 4 ≤ z ∧ z ≤ 10) a9 (fun e e2 => b31 e.symm e2.symm)
/-- the offers: live is open -/
def Of (S : St) : Prop := ∀ o, (o < S 4 0 → S 21 o < S 2 0 ∧ S 22 o = S 15 (S 21 o) ∧ (S 25 o = 1 ∧ S 27 o = 0 ∧ S 17 (S 21 o) = S 24 o ∨ S 25 o = 0 ∧ S 27 o = 1)) ∧ (S 4 0 ≤ o → S 25 o = 0 ∧ S 27 o = 0)
def Di (S : St) : Prop := ∀ o p, o < S 4 0 → p < S 4 0 → S 25 o = 1 → S 25 p = 1 → S 21 o = S 21 p → o = p
def Inv (n : Nat) (S : St) : Prop := Bd n S ∧ Vr S ∧ Of S ∧ Di S
theorem Inv.V {n : Nat} {S : St} (h : Inv n S) (hn : n ≤ 600) : V S := h.2.1.V h.1 (by omega)
theorem Inv.small {n : Nat} {S : St} (h : Inv n S) (hn : n ≤ 600) (f : Nat) : ∀ k, S f k < 999999 := fun k => Nat.lt_of_le_of_lt (h.1 f k) (by omega)
theorem Inv.mono {n m : Nat} {S : St} (h : Inv n S) (hm : n ≤ m) : Inv m S := ⟨h.1.mono hm, h.2⟩
theorem Of.lt2 {S : St} (h : Of S) : ∀ k, S 25 k < 2 := fun k => by
  by_cases e : k < S 4 0
  · rcases ((h k).1 e).2.2 with q | q <;> omega
  · have := ((h k).2 (by omega)).1
    omega
theorem Of.op {S : St} (h : Of S) {o : Nat} (ho : o < S 4 0) : opB S o = decide (S 25 o ≠ 0) := by
  unfold opB
  rcases ((h o).1 ho).2.2 with ⟨q1, q2, q3⟩ | ⟨q1, q2⟩
  · rw [decide_eq_true q2, decide_eq_true q3, decide_eq_true (show S 25 o ≠ 0 by omega)]; rfl
  · rw [decide_eq_false (show ¬ S 27 o = 0 by omega), decide_eq_false (show ¬ S 25 o ≠ 0 by omega)]; rfl
theorem Of.Lk {S : St} (h : Of S) : Lk S := ⟨fun o ho => h.op ho, fun o ho => ((h o).1 ho).2.1⟩
theorem Of.op_nat {S : St} (h : Of S) {o : Nat} (ho : o < S 4 0) : (opB S o).toNat = S 25 o := by
  rw [h.op ho]
  have h2 := h.lt2 o
  by_cases e : S 25 o = 0
  · rw [e]; rfl
  · rw [decide_eq_true e, show S 25 o = 1 by omega]; rfl
theorem Inv.cong {n m : Nat} {S T : St} (h : Inv n S) (e : ∀ f, (f = 2 ∨ f = 4 ∨ f = 15 ∨ f = 17 ∨ f = 21 ∨ f = 22 ∨ f = 24 ∨ f = 25 ∨ f = 27) → T f = S f) (hb : Bd m T) (hv : Vr T) : Inv m T := by
  obtain ⟨-, -, h3, h4⟩ := h
  refine ⟨hb, hv, ?_, ?_⟩
  · unfold Of at h3 ⊢
    rw [e 4 (by omega), e 21 (by omega), e 2 (by omega), e 22 (by omega), e 15 (by omega), e 25 (by omega), e 27 (by omega), e 17 (by omega), e 24 (by omega)]
    exact h3
  · unfold Di at h4 ⊢
    rw [e 4 (by omega), e 21 (by omega), e 25 (by omega)]
    exact h4
theorem inv_setKind {n : Nat} {S : St} (h : Inv n S) {k v w : Nat} (hv : v ≤ 9) (hw : w ≤ 3) : Inv n (up (up S 10 k v) 11 k w) :=
  h.cong (fun f hf => (up_ne (by omega)).trans (up_ne (by omega))) ((h.1.up (by omega)).up (by omega)) ((h.2.1.up (by omega)).up (by omega))
theorem inv_setFormat {n : Nat} {S : St} (h : Inv n S) {x y : Nat} (h1 : 4 ≤ x) (h2 : x ≤ 10) (hy : y ≤ 4) : Inv n (up (up S 3 1 x) 3 2 y) :=
  h.cong (fun f hf => (up_ne (by omega)).trans (up_ne (by omega))) ((h.1.up (by omega)).up (by omega)) ((h.2.1.up (by omega)).up (by omega))
theorem inv_ban {n : Nat} {S : St} (h : Inv n S) {k v : Nat} (hv : v < 2) : Inv n (up S 12 k v) :=
  h.cong (fun f hf => up_ne (by omega)) (h.1.up (by omega)) (h.2.1.up (by omega))
theorem inv_deck {n : Nat} {S : St} (h : Inv n S) {x : Nat} (hx : x ≤ 5) (hd : S 3 0 < 12) : Inv n (up (up S 18 (S 3 0) x) 3 0 (S 3 0 + 1)) :=
  h.cong (fun f hf => (up_ne (by omega)).trans (up_ne (by omega))) ((h.1.up (by omega)).up (by omega)) ((h.2.1.up (by omega)).up (by omega))
theorem inv_add {n : Nat} {S : St} (h : Inv n S) {d x : Nat} (hs : S 19 d < 10) (hx : x < S 2 0) : Inv n (up (up S (30 + d) (S 19 d) x) 19 d (S 19 d + 1)) := by
  have hc := h.2.1.1
  exact h.cong (fun f hf => (up_ne (by omega)).trans (up_ne (by omega))) ((h.1.up (by omega)).up (by omega)) ((h.2.1.up (by omega)).up (by omega))
theorem inv_shl {n : Nat} {S : St} (h : Inv n S) {d g : Nat} (hd : d < 12) : ∀ m, Inv n (shl S d g m)
  | 0 => h
  | m + 1 => by
    have ih := inv_shl h (g := g) hd m
    have h8 := ih.2.1.2.2.2.2.2.1 d (g + m + 1) hd
    show Inv n (up (shl S d g m) (30 + d) (g + m) (shl S d g m (30 + d) (g + m + 1)))
    exact ih.cong (fun f hf => up_ne (by omega)) (ih.1.up (by omega)) (ih.2.1.up (by omega))
theorem inv_cut {n : Nat} {S : St} (h : Inv n S) {d g m : Nat} (hd : d < 12) : Inv n (shl (up S 19 d (S 19 d - 1)) d g m) := by
  have h6 := h.2.1.2.2.2.2.1 d
  exact inv_shl (h.cong (fun f hf => up_ne (by omega)) (h.1.up (by omega)) (h.2.1.up (by omega))) hd m
theorem inv_gw {n : Nat} {S : St} (h : Inv n S) (d : Nat) : ∀ i, Inv (n + 1) (gwS S d i)
  | 0 => h.mono (by omega)
  | i + 1 => by
    have ih := inv_gw h d i
    have hb := h.1 14 i
    by_cases e : 0 < mo S d i
    · rw [gwS_y e]
      exact ih.cong (fun f hf => up_ne (by omega)) (ih.1.up (by omega)) (ih.2.1.up (by omega))
    · rw [gwS_n e]; exact ih
theorem inv_won {n : Nat} {S : St} (h : Inv n S) (x y a c : Nat) : Inv (n + 1) (wonS S x y a c) := by
  unfold wonS
  split
  · exact inv_gw h x 16
  · split
    · exact inv_gw h y 16
    · exact h.mono (by omega)
theorem inv_print {n : Nat} {S : St} (h : Inv n S) {x y : Nat} (hx : x ≤ 15) (hy : y ≤ 5) (hc : S 2 0 < 80) : Inv (n + 1) (up (up (up (up (up S 13 x (S 13 x + 1)) 15 (S 2 0) x) 16 (S 2 0) (S 13 x + 1)) 17 (S 2 0) y) 2 0 (S 2 0 + 1)) := by
  have hb := h.1 13 x
  have h1 := h.1.mono (m := n + 1) (by omega)
  refine ⟨((((h1.up (by omega)).up (by omega)).up (by omega)).up (by omega)).up (by omega), ((((h.2.1.up (by omega)).up (by omega)).up (by omega)).up (by omega)).up (by omega), ?_, ?_⟩
  · have h3 := h.2.2.1
    intro o
    have g4 : up (up (up (up (up S 13 x (S 13 x + 1)) 15 (S 2 0) x) 16 (S 2 0) (S 13 x + 1)) 17 (S 2 0) y) 2 0 (S 2 0 + 1) 2 0 = S 2 0 + 1 := up_same
    generalize hT : up (up (up (up (up S 13 x (S 13 x + 1)) 15 (S 2 0) x) 16 (S 2 0) (S 13 x + 1)) 17 (S 2 0) y) 2 0 (S 2 0 + 1) = T at g4
    have e : ∀ f, f ≠ 13 → f ≠ 15 → f ≠ 16 → f ≠ 17 → f ≠ 2 → T f = S f := fun f a b c d e => by rw [← hT, up_ne e, up_ne d, up_ne c, up_ne b, up_ne a]
    have e15 : ∀ k, k ≠ S 2 0 → T 15 k = S 15 k := fun k hk => by rw [← hT, up_ne (by decide), up_ne (by decide), up_ne (by decide), up_nk hk, up_ne (by decide)]
    have e17 : ∀ k, k ≠ S 2 0 → T 17 k = S 17 k := fun k hk => by rw [← hT, up_ne (by decide), up_nk hk, up_ne (by decide), up_ne (by decide), up_ne (by decide)]
    rw [e 4 (by decide) (by decide) (by decide) (by decide) (by decide), e 21 (by decide) (by decide) (by decide) (by decide) (by decide), e 22 (by decide) (by decide) (by decide) (by decide) (by decide), e 24 (by decide) (by decide) (by decide) (by decide) (by decide), e 25 (by decide) (by decide) (by decide) (by decide) (by decide), e 27 (by decide) (by decide) (by decide) (by decide) (by decide), g4]
    refine ⟨fun ho => ?_, (h3 o).2⟩
    obtain ⟨q1, q2, q3⟩ := (h3 o).1 ho
    rw [e15 _ (by omega), e17 _ (by omega)]
    exact ⟨by omega, q2, q3⟩
  · have h4 := h.2.2.2
    unfold Di at h4 ⊢
    rw [up_ne (by decide), up_ne (by decide), up_ne (by decide), up_ne (by decide), up_ne (by decide), up_ne (by decide), up_ne (by decide), up_ne (by decide), up_ne (by decide), up_ne (by decide), up_ne (by decide), up_ne (by decide), up_ne (by decide), up_ne (by decide), up_ne (by decide)]
    exact h4
end INV
