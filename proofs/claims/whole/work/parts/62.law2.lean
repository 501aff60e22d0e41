/-! The law's loop: its script, its switch, what it keeps. -/
section LAW2
def OkS (l : Launch) (R : Room) (G : Gt) (cc : ByteArray) (nL : Nat) (Ts : List Cond) (own : String) (D : va_G) (tys : List (ClassId × FieldType)) (sb L : Nat) (xs : Nat → Int32) : Prop :=
  ∃ (p : Program) (e : Env) (s : State) (m : MethodId) (args : Array Value) (below : List Frame) (meth : Method) (c : Code) (Q : State → Prop) (A : Nat → Prop) (H0 : Heap), Fx p l e R s m args below meth c Q A H0 G cc nL Ts own D tys ∧ va_X sb L xs s H0 ∧ sb < H0.size ∧ ¬ A sb
section RS
variable {l : Launch} {R : Room} {G : Gt} {cc : ByteArray} {nL : Nat} {Ts : List Cond} {own : String} {D : va_G} {tys : List (ClassId × FieldType)} {sb L : Nat} {xs : Nat → Int32} {k n : Nat} {ws : va_W} {lv : List (Nat × Value)} {pc : Nat} {st : List Value}
theorem OkS.ok (K : OkS l R G cc nL Ts own D tys sb L xs) : Ok l R G cc nL Ts own D tys := by
  obtain ⟨p, e, s, m, args, below, meth, c, Q, A, H0, hF, -⟩ := K
  exact ⟨p, e, s, m, args, below, meth, c, Q, A, H0, hF⟩
theorem r_sld (K : OkS l R G cc nL Ts own D tys sb L xs) {i : Nat} (hi : i < L) (hL : L ≤ 2560) (hd : decode cc pc = .ok (.iaload, 1)) (kk : G k n ws lv (pc + 1) (.int (xs i) :: st)) : G k n ws lv pc (.int (nI i) :: .ref sb :: st) := by
  obtain ⟨p, e, s, m, args, below, meth, c, Q, A, H0, ⟨rfl, hx, hb, hml, hown, hts, hK, hA⟩, hX, hbl, hbA⟩ := K
  intro H locs ls hP hD hS hl
  refine va_sld hx hb hX hbl hbA hS (vp_in_nI hi (by omega)) hd ?_
  rw [nI_clamp (by omega)]
  exact kk H locs ls hP hD hS hl
theorem r_slen (K : OkS l R G cc nL Ts own D tys sb L xs) (hd : decode cc pc = .ok (.arraylength, 1)) (kk : G k n ws lv (pc + 1) (.int (nI L) :: st)) : G k n ws lv pc (.ref sb :: st) := by
  obtain ⟨p, e, s, m, args, below, meth, c, Q, A, H0, ⟨rfl, hx, hb, hml, hown, hts, hK, hA⟩, hX, hbl, hbA⟩ := K
  intro H locs ls hP hD hS hl
  exact va_slen hx hb hX hbl hbA hS hd (kk H locs ls hP hD hS hl)
theorem r_tin (K : Ok l R G cc nL Ts own D tys) {dflt hi : Int} {offs : Array Int} {len t : Nat} {off : Int} (tgt : Nat) (hd : decode cc pc = .ok (.tableswitch dflt 0 hi offs, len)) (ht : t < 1000) (h2 : (t : Int) ≤ hi) (ho : offs[t]? = some off) (hg : (pc : Int) + off = (tgt : Int)) (kk : G k n ws lv tgt st) : G k n ws lv pc (.int (nI t) :: st) := by
  obtain ⟨p, e, s, m, args, below, meth, c, Q, A, H0, rfl, hx, hb, hml, hown, hts, hK, hA⟩ := K
  intro H locs ls hP hD hS hl
  have e1 : (nI t).toInt = t := nI_toInt (by omega)
  refine lv_tableIn hx hb hd (by rw [e1]; omega) (by rw [e1]; omega) (by rw [e1]; simpa using ho) hg (kk H locs ls hP hD hS hl)
theorem r_tout (K : Ok l R G cc nL Ts own D tys) {dflt hi : Int} {offs : Array Int} {len t : Nat} (tgt : Nat) (hd : decode cc pc = .ok (.tableswitch dflt 0 hi offs, len)) (ht : t < 1000) (h2 : hi < (t : Int)) (hg : (pc : Int) + dflt = (tgt : Int)) (kk : G k n ws lv tgt st) : G k n ws lv pc (.int (nI t) :: st) := by
  obtain ⟨p, e, s, m, args, below, meth, c, Q, A, H0, rfl, hx, hb, hml, hown, hts, hK, hA⟩ := K
  intro H locs ls hP hD hS hl
  have e1 : (nI t).toInt = t := nI_toInt (by omega)
  exact lv_tableOut hx hb hd (Or.inr (by rw [e1]; exact h2)) hg (kk H locs ls hP hD hS hl)
end RS
theorem and31 (x : Int32) : ∃ t : Nat, t < 32 ∧ x &&& nI 31 = nI t := by
  refine ⟨(x &&& nI 31).toBitVec.toNat, ?_, ?_⟩
  · rw [Int32.toBitVec_and]
    show (x.toBitVec &&& (31#32)).toNat < 32
    rw [BitVec.toNat_and]
    exact Nat.lt_of_le_of_lt Nat.and_le_right (by decide)
  · apply Int32.toBitVec_inj.mp
    show _ = BitVec.ofNat 32 _
    rw [BitVec.ofNat_toNat, BitVec.setWidth_eq]
theorem loop_gt {i L : Nat} (hi : i < 1000000) (hL : L < 1000000) : nI L - nI 5 < nI i ↔ L < i + 5 := by
  rw [Int32.lt_iff_toInt_lt, pk_sub_toInt (by omega) (by decide), nI_toInt (by omega)]
  omega
theorem lcmp_0 (x : Int64) : lg_cmp x x = nI 0 := by
  unfold lg_cmp
  rw [if_neg (by rw [gt_iff_lt, Int64.lt_iff_toInt_lt]; omega), if_pos rfl]
  rfl
theorem inB_tn {x : Int32} {lo hi : Int} (h0 : 0 ≤ lo) (h : inB x lo hi = true) : lo ≤ (tn x : Int) ∧ (tn x : Int) ≤ hi := by
  obtain ⟨k, ha, hb, rfl, hc⟩ := inB_ex h0 h
  rw [tn_nI hc]
  exact ⟨ha, hb⟩
theorem inB_self {x : Int32} {lo hi : Int} (h0 : 0 ≤ lo) (h : inB x lo hi = true) : x = nI (tn x) := by
  obtain ⟨k, ha, hb, rfl, hc⟩ := inB_ex h0 h
  rw [tn_nI hc]
def wL (a b : Nat → Nat) (o : Nat) (c : Nat → ClassId) (S J : St) (f : Nat → Int64) (J2 : St) : va_W := (wC a c S J ++ lo o c f) ++ wM b c S J2
def lvL (sb a b o i : Nat) : List (Nat × Value) := [(0, .ref sb), (1, .ref a), (2, .ref b), (3, .ref o), (4, .int (nI i))]
/-- what the loop's rest asks of a state: behind a call -/
def Next (G : Gt) (sb : Nat) (a b : Nat → Nat) (o : Nat) (c : Nat → ClassId) (m k n i : Nat) : Prop := ∀ (k' n' : Nat) (S J : St) (f : Nat → Int64) (J2 : St), k' ≤ k + 10 → n' ≤ n + 60 → Inv m S → G k' n' (wL a b o c S J f J2) (lvL sb (a 0) (b 0) o i) 1592 []
end LAW2
