/-! What the house computes: numbers alone. -/
section SPEC
def V (S : St) : Prop := (∀ f k, S f k < 1000000) ∧ S 2 0 ≤ 80 ∧ S 3 0 ≤ 12 ∧ S 4 0 ≤ 40 ∧ (∀ k, S 15 k < 16) ∧ (∀ d, S 19 d ≤ 10) ∧ (∀ d p, d < 12 → S (30 + d) p < 80) ∧ (∀ o, S 21 o < 80) ∧ (4 ≤ S 3 1 ∧ S 3 1 ≤ 10)
theorem V_b {S : St} (h : V S) (f k : Nat) : S f k < 1000000 := h.1 f k
theorem V_cards {S : St} (h : V S) : S 2 0 ≤ 80 := h.2.1
theorem V_decks {S : St} (h : V S) : S 3 0 ≤ 12 := h.2.2.1
theorem V_offers {S : St} (h : V S) : S 4 0 ≤ 40 := h.2.2.2.1
theorem V_kind {S : St} (h : V S) (k : Nat) : S 15 k < 16 := h.2.2.2.2.1 k
theorem V_size {S : St} (h : V S) (d : Nat) : S 19 d ≤ 10 := h.2.2.2.2.2.1 d
theorem V_card {S : St} (h : V S) (d p : Nat) (hd : d < 12) : S (30 + d) p < 80 := h.2.2.2.2.2.2.1 d p hd
theorem V_ocard {S : St} (h : V S) (o : Nat) : S 21 o < 80 := h.2.2.2.2.2.2.2.1 o
theorem V_fsize {S : St} (h : V S) : 4 ≤ S 3 1 ∧ S 3 1 ≤ 10 := h.2.2.2.2.2.2.2.2
def anyB (f : Nat → Bool) : Nat → Bool
  | 0 => false
  | n + 1 => anyB f n || f n
theorem anyB_of {f : Nat → Bool} {i : Nat} (hf : f i = true) : ∀ {n : Nat}, i < n → anyB f n = true
  | 0, h => absurd h (Nat.not_lt_zero i)
  | n + 1, h => by
    unfold anyB
    rcases Nat.lt_or_ge i n with q | q
    · rw [anyB_of hf q]; rfl
    · have e : i = n := by omega
      rw [← e, hf, Bool.or_true]
theorem anyB_s {f : Nat → Bool} {n : Nat} (h : anyB f n = false) (hf : f n = false) : anyB f (n + 1) = false := by
  unfold anyB
  rw [h, hf]; rfl
def allB (f : Nat → Bool) : Nat → Bool
  | 0 => true
  | n + 1 => allB f n && f n
theorem allB_no {f : Nat → Bool} {i : Nat} (hf : f i = false) : ∀ {n : Nat}, i < n → allB f n = false
  | 0, h => absurd h (Nat.not_lt_zero i)
  | n + 1, h => by
    unfold allB
    rcases Nat.lt_or_ge i n with q | q
    · rw [allB_no hf q]; rfl
    · have e : i = n := by omega
      rw [← e, hf, Bool.and_false]
theorem allB_s {f : Nat → Bool} {n : Nat} (h : allB f n = true) (hf : f n = true) : allB f (n + 1) = true := by
  unfold allB
  rw [h, hf]; rfl
def cnt (f : Nat → Bool) : Nat → Nat
  | 0 => 0
  | n + 1 => cnt f n + (f n).toNat
theorem cnt_le (f : Nat → Bool) : ∀ n, cnt f n ≤ n
  | 0 => Nat.le_refl _
  | n + 1 => by
    have h := cnt_le f n
    have h2 : (f n).toNat ≤ 1 := by cases f n <;> decide
    unfold cnt
    omega
theorem cnt_y {f : Nat → Bool} {n : Nat} (h : f n = true) : cnt f (n + 1) = cnt f n + 1 := by show cnt f n + (f n).toNat = _; rw [h]; rfl
theorem cnt_n {f : Nat → Bool} {n : Nat} (h : f n = false) : cnt f (n + 1) = cnt f n := by show cnt f n + (f n).toNat = _; rw [h]; rfl
/-- deck d holds the card x -/
def holdB (S : St) (d x : Nat) : Bool := anyB (fun p => decide (S (30 + d) p = x)) (S 19 d)
/-- the places of kind k in deck d, as bits -/
def isK (S : St) (d k : Nat) : Nat → Bool := fun p => decide (S 15 (S (30 + d) p) = k)
def bits (f : Nat → Bool) : Nat → Nat
  | 0 => 0
  | n + 1 => bits f n + (if f n then 2 ^ n else 0)
theorem bits_lt (f : Nat → Bool) : ∀ n, bits f n < 2 ^ n
  | 0 => Nat.one_pos
  | n + 1 => by
    have h := bits_lt f n
    have h2 : 2 ^ (n + 1) = 2 ^ n + 2 ^ n := by rw [Nat.pow_succ]; omega
    unfold bits
    by_cases e : f n = true
    · rw [if_pos e]; omega
    · rw [if_neg e]; omega
/-- how many cards of kind k deck d has -/
def mo (S : St) (d k : Nat) : Nat := cnt (isK S d k) (S 19 d)
def okAt (S : St) (d : Nat) : Nat → Bool := fun p => decide (S 17 (S (30 + d) p) = S 18 d) && decide (S 12 (S 15 (S (30 + d) p)) = 0) && decide (mo S d (S 15 (S (30 + d) p)) ≤ S 3 2)
def alw (S : St) (d : Nat) : Bool := decide (S 19 d = S 3 1) && allB (okAt S d) (S 19 d)
def nAlw (S : St) : Nat := cnt (alw S) (S 3 0)
def shl (S : St) (d g : Nat) : Nat → St
  | 0 => S
  | n + 1 => up (shl S d g n) (30 + d) (g + n) (shl S d g n (30 + d) (g + n + 1))
end SPEC
section MYB
variable {l : Launch} {R : Room} {G : Gt} {cc : ByteArray} {nL : Nat} {Ts : List Cond} {own : String} {D : va_G} {tys : List (ClassId × FieldType)} {k n : Nat} {ws ws' : va_W} {lv lv' : List (Nat × Value)} {pc : Nat} {st : List Value}
theorem r_if_eqB (K : Ok l R G cc nL Ts own D tys) {b : Bool} {off : Int} (tgt : Nat) (hd : decode cc pc = .ok (.ifCond .eq off, 3)) (ht : (pc : Int) + off = (tgt : Int)) (kt : b = false → G k n ws lv tgt st) (kf : b = true → G k n ws lv (pc + 3) st) : G k n ws lv pc (.int (nI b.toNat) :: st) := by
  refine r_if_eq K tgt hd ht (by cases b <;> decide) (fun q => kt ?_) (fun q => kf ?_)
  · cases b
    · rfl
    · exact absurd q (by decide)
  · cases b
    · exact absurd rfl q
    · rfl
theorem r_if_neB (K : Ok l R G cc nL Ts own D tys) {b : Bool} {off : Int} (tgt : Nat) (hd : decode cc pc = .ok (.ifCond .ne off, 3)) (ht : (pc : Int) + off = (tgt : Int)) (kt : b = true → G k n ws lv tgt st) (kf : b = false → G k n ws lv (pc + 3) st) : G k n ws lv pc (.int (nI b.toNat) :: st) := by
  refine r_if_ne K tgt hd ht (by cases b <;> decide) (fun q => kt ?_) (fun q => kf ?_)
  · cases b
    · exact absurd rfl q
    · rfl
  · cases b
    · rfl
    · exact absurd q (by decide)
/-- a contract with one answer and one world behind it -/
def Cs (l : Launch) (y : MethodName) (wsy : List Cond) (rm : Room) (D : va_G) (tys : List (ClassId × FieldType)) (av : List Value) (w : va_W) (v : Int32) (w1 : va_W) : Prop := Ci l y wsy rm D tys av w (fun r (_ : Unit) => r = v) (fun _ => w1)
def Csv (l : Launch) (y : MethodName) (wsy : List Cond) (rm : Room) (D : va_G) (tys : List (ClassId × FieldType)) (av : List Value) (w : va_W) (w1 : va_W) : Prop := Cv l y wsy rm D tys av w (fun (_ : Unit) => True) (fun _ => w1)
variable {y : MethodName} {wsy wsy' : List Cond} {rm : Room} {w w1 : va_W} {bytes : ByteArray} {maxL index : Nat} {ret : Option FieldType} {v : Int32}
theorem r_callVs (K : Ok l R G cc nL Ts own D tys) {C : String} {F : u_T} {N ci b : Nat} {fs As rest : List Value} (hC : Cs l y wsy rm D tys (.ref b :: As) w v w1) (j : Nat) (hG : GoodIn Ts (wsV own index C y wsy)) (hw : wsy = Cond.code y bytes maxL ret :: wsy') (hds : okDesc y C j) (hn : As.length = j) (hR : okRoom rm R maxL k n)
    (q0 : Nat) (he : w[q0]? = some (b, .inr (ci, fs))) (hc : vwCl[ci]? = some (C, F, N)) (hst : st = As.reverse ++ .ref b :: rest) (hcat : (rest.map fun v => v.category).sum ≤ 8) (hd : decode cc pc = .ok (.invokevirtual index, 3)) (h0 : rm.cells = 0) (h1 : rm.slots = 0)
    (kk : G k n w1 lv (pc + 3) (.int v :: rest)) : G k n w lv pc st :=
  r_callV K hC j hG hw hds hn hR q0 he hc hst hcat hd (fun r u hr => by rw [h0, h1, hr]; exact kk)
theorem r_callVsv (K : Ok l R G cc nL Ts own D tys) {C : String} {F : u_T} {N ci b : Nat} {fs As rest : List Value} (hC : Csv l y wsy rm D tys (.ref b :: As) w w1) (j : Nat) (hG : GoodIn Ts (wsV own index C y wsy)) (hw : wsy = Cond.code y bytes maxL ret :: wsy') (hds : okDesc y C j) (hn : As.length = j) (hR : okRoom rm R maxL k n)
    (q0 : Nat) (he : w[q0]? = some (b, .inr (ci, fs))) (hc : vwCl[ci]? = some (C, F, N)) (hst : st = As.reverse ++ .ref b :: rest) (hcat : (rest.map fun v => v.category).sum ≤ 8) (hd : decode cc pc = .ok (.invokevirtual index, 3)) (h0 : rm.cells = 0) (h1 : rm.slots = 0)
    (kk : G k n w1 lv (pc + 3) rest) : G k n w lv pc st :=
  r_callVv K hC j hG hw hds hn hR q0 he hc hst hcat hd (fun u hr => by rw [h0, h1]; exact kk)
theorem r_callSs (K : Ok l R G cc nL Ts own D tys) {As rest : List Value} (hC : Cs l y wsy rm D tys As w v w1) (j : Nat) (hG : GoodIn Ts (va_wsS own index y wsy)) (hw : wsy = Cond.code y bytes maxL ret :: wsy') (hds : okDescS y j) (hn : As.length = j) (hR : okRoom rm R maxL k n)
    (hst : st = As.reverse ++ rest) (hcat : (rest.map fun v => v.category).sum ≤ 8) (hd : decode cc pc = .ok (.invokestatic index, 3)) (h0 : rm.cells = 0) (h1 : rm.slots = 0)
    (kk : G k n w1 lv (pc + 3) (.int v :: rest)) : G k n w lv pc st :=
  r_callS K hC j hG hw hds hn hR hst hcat hd (fun r u hr => by rw [h0, h1, hr]; exact kk)
end MYB
