section SPEC5
theorem hng_IOB : ∀ w ∈ (vx_atS RX6 240 eIOB nmRE).filter (fun w => !goodWord w), w ∈ hNg := fun w hw => List.mem_filter.mpr ⟨List.mem_append_left _ (List.mem_append_left _ (List.mem_filter.mp hw).1), (List.mem_filter.mp hw).2⟩
theorem hng_IAE : ∀ w ∈ (vx_atS RX6 126 eIAE nmRE).filter (fun w => !goodWord w), w ∈ hNg := fun w hw => List.mem_filter.mpr ⟨List.mem_append_left _ (List.mem_append_right _ (List.mem_filter.mp hw).1), (List.mem_filter.mp hw).2⟩
theorem hng_ISE : ∀ w ∈ (vx_atS RX6 94 eISE nmRE).filter (fun w => !goodWord w), w ∈ hNg := fun w hw => List.mem_filter.mpr ⟨List.mem_append_right _ (List.mem_filter.mp hw).1, (List.mem_filter.mp hw).2⟩
theorem hot_IOB : ∀ w ∈ Cond.classLink RX6 236 eIOB :: Cond.initialized eIOB :: vx_atS RX6 240 eIOB nmRE, vx_ot w = true := by decide +kernel
theorem hot_IAE : ∀ w ∈ Cond.classLink RX6 122 eIAE :: Cond.initialized eIAE :: vx_atS RX6 126 eIAE nmRE, vx_ot w = true := by decide +kernel
theorem hot_ISE : ∀ w ∈ Cond.classLink RX6 90 eISE :: Cond.initialized eISE :: vx_atS RX6 94 eISE nmRE, vx_ot w = true := by decide +kernel
/-- lo to hi -/
def inB (v : Int32) (lo hi : Int) : Bool := decide (lo ≤ v.toInt ∧ v.toInt ≤ hi)
theorem inB_neg {x : Int32} {hi : Int} (h : x < 0) : inB x 0 hi = false := by
  refine decide_eq_false fun q => ?_
  have h1 := Int32.lt_iff_toInt_lt.mp h
  rw [Int32.toInt_zero] at h1
  omega
theorem inB_big {x : Int32} {n : Nat} (hn : n < 2147483648) (h : nI n ≤ x) : inB x 0 ((n : Int) - 1) = false := by
  refine decide_eq_false fun q => ?_
  have h1 := Int32.le_iff_toInt_le.mp h
  rw [nI_toInt hn] at h1
  omega
theorem inB_ok {x : Int32} {n : Nat} (hn : n < 2147483648) (h0 : ¬ x < 0) (h : ¬ nI n ≤ x) : inB x 0 ((n : Int) - 1) = true := by
  rw [Int32.lt_iff_toInt_lt, Int32.toInt_zero] at h0
  rw [Int32.le_iff_toInt_le, nI_toInt hn] at h
  exact decide_eq_true ⟨by omega, by omega⟩
theorem inB_lo {x : Int32} {lo : Nat} {hi : Int} (hn : lo < 2147483648) (h : x < nI lo) : inB x lo hi = false := by
  refine decide_eq_false fun q => ?_
  have h1 := Int32.lt_iff_toInt_lt.mp h
  rw [nI_toInt hn] at h1
  omega
theorem inB_hi {x : Int32} {lo : Int} {hi : Nat} (hn : hi < 2147483648) (h : nI hi < x) : inB x lo hi = false := by
  refine decide_eq_false fun q => ?_
  have h1 := Int32.lt_iff_toInt_lt.mp h
  rw [nI_toInt hn] at h1
  omega
theorem inB_rg {x : Int32} {lo hi : Nat} (hl : lo < 2147483648) (hn : hi < 2147483648) (h0 : ¬ x < nI lo) (h : ¬ nI hi < x) : inB x lo hi = true := by
  rw [Int32.lt_iff_toInt_lt, nI_toInt hl] at h0
  rw [Int32.lt_iff_toInt_lt, nI_toInt hn] at h
  exact decide_eq_true ⟨by omega, by omega⟩
theorem inB_ex {x : Int32} {lo hi : Int} (h0 : 0 ≤ lo) (h : inB x lo hi = true) : ∃ k : Nat, lo ≤ k ∧ (k : Int) ≤ hi ∧ x = nI k ∧ k < 2147483648 := by
  have hq := of_decide_eq_true h
  have hx : ¬ x < 0 := fun q => by
    have h1 := Int32.lt_iff_toInt_lt.mp q
    rw [Int32.toInt_zero] at h1
    omega
  obtain ⟨j, hj, rfl⟩ := nI_of hx
  rw [nI_toInt hj] at hq
  exact ⟨j, hq.1, hq.2, rfl, hj⟩
theorem inB_nI {k : Nat} {lo hi : Int} (hk : k < 2147483648) (h1 : lo ≤ k) (h2 : (k : Int) ≤ hi) : inB (nI k) lo hi = true := by
  refine decide_eq_true ?_
  rw [nI_toInt hk]
  exact ⟨h1, h2⟩
def sdB (x : Int32) : Bool := !decide (x < 0)
theorem sdB_f {x : Int32} (h : x < 0) : sdB x = false := by unfold sdB; rw [decide_eq_true h]; rfl
theorem sdB_t {x : Int32} (h : ¬ x < 0) : sdB x = true := by unfold sdB; rw [decide_eq_false h]; rfl
theorem sdB_ex {x : Int32} (h : sdB x = true) : ∃ k : Nat, k < 2147483648 ∧ x = nI k := by
  have hx : ¬ x < 0 := fun q => by rw [sdB_f q] at h; cases h
  obtain ⟨j, hj, rfl⟩ := nI_of hx
  exact ⟨j, hj, rfl⟩
def tn (x : Int32) : Nat := x.toNatClampNeg
theorem tn_nI {k : Nat} (h : k < 2147483648) : tn (nI k) = k := nI_clamp h
/-- which of three conditions is the first that does not hold -/
def thr (b1 b2 b3 : Bool) : Nat := if b1 = false then 1 else if b2 = false then 2 else if b3 = false then 3 else 0
theorem thr_1 {b1 b2 b3 : Bool} (h : b1 = false) : thr b1 b2 b3 = 1 := if_pos h
theorem thr_2 {b1 b2 b3 : Bool} (h : b1 = true) (h2 : b2 = false) : thr b1 b2 b3 = 2 := by unfold thr; rw [h, h2]; rfl
theorem thr_3 {b1 b2 b3 : Bool} (h : b1 = true) (h2 : b2 = true) (h3 : b3 = false) : thr b1 b2 b3 = 3 := by unfold thr; rw [h, h2, h3]; rfl
theorem thr_0 {b1 b2 b3 : Bool} (h : b1 = true) (h2 : b2 = true) (h3 : b3 = true) : thr b1 b2 b3 = 0 := by unfold thr; rw [h, h2, h3]; rfl
def nm3 (n1 n2 n3 : String) (j : Nat) : String := if j = 1 then n1 else if j = 2 then n2 else n3
def pxN (n1 n2 n3 : String) (t : Nat) (E : String) : Prop := t ≠ 0 ∧ E = nm3 n1 n2 n3 t
theorem px_1 {n1 n2 n3 E : String} {b1 b2 b3 : Bool} (h : b1 = false) (e : E = n1) : pxN n1 n2 n3 (thr b1 b2 b3) E := by rw [thr_1 h]; exact ⟨by decide, e⟩
theorem px_2 {n1 n2 n3 E : String} {b1 b2 b3 : Bool} (h : b1 = true) (h2 : b2 = false) (e : E = n2) : pxN n1 n2 n3 (thr b1 b2 b3) E := by rw [thr_2 h h2]; exact ⟨by decide, e⟩
theorem px_3 {n1 n2 n3 E : String} {b1 b2 b3 : Bool} (h : b1 = true) (h2 : b2 = true) (h3 : b3 = false) (e : E = n3) : pxN n1 n2 n3 (thr b1 b2 b3) E := by rw [thr_3 h h2 h3]; exact ⟨by decide, e⟩
def pxB (b : Bool) (n : String) (E : String) : Prop := b = false ∧ E = n
theorem and_t {a b : Bool} (h : a = true) (h2 : b = true) : (a && b) = true := by rw [h, h2]; rfl
theorem and_f1 {a b : Bool} (h : a = false) : (a && b) = false := by rw [h]; rfl
theorem and_f2 {a b : Bool} (h : b = false) : (a && b) = false := by rw [h, Bool.and_false]
end SPEC5
section RXW
variable {l : Launch} {R : Room} {G : Gt} {cc : ByteArray} {nL : Nat} {Ts : List Cond} {own : String} {D : va_G} {tys : List (ClassId × FieldType)} {k n : Nat} {lv : List (Nat × Value)} {pc : Nat} {st : List Value} {w0 : va_W} {px : String → Prop} {mc ms : Nat}
set_option maxHeartbeats 4000000 in
theorem r_throwW (K : OkX l R G cc nL Ts RX6 D tys w0 px mc ms) {cls text : String} {ik is ic : Nat} (hcls : Bundle.fit cls = true) (hk : Cond.classLink RX6 ik cls ∈ Ts) (hini : Cond.initialized cls ∈ Ts) (hstr : (is, text) ∈ hStrs)
    (hat : ∀ w ∈ (vx_atS RX6 ic cls nmRE).filter goodWord, w ∈ Ts) (hng : ∀ w ∈ (vx_atS RX6 ic cls nmRE).filter (fun w => !goodWord w), w ∈ hNg) (hgood : ∀ w ∈ Cond.classLink RX6 ik cls :: Cond.initialized cls :: vx_atS RX6 ic cls nmRE, vx_ot w = true)
    (d0 : decode cc pc = .ok (.new ik, 3)) (d3 : decode cc (pc + 3) = .ok (.dup, 1)) (d4 : decode cc (pc + 4) = .ok (.ldc_w is, 3)) (d6 : decode cc (pc + 7) = .ok (.invokespecial ic, 3)) (d9 : decode cc (pc + 10) = .ok (.athrow, 1))
    (hR : 5 < R.frames ∧ 82 ≤ R.locals ∧ k + 1 ≤ R.cells ∧ n + 6 ≤ R.slots ∧ k + 1 ≤ mc ∧ n + 6 ≤ ms) (hp : px cls) : G k n w0 lv pc [] := by
  obtain ⟨p, e, s, m, args, below, meth, c, Qc, A, ⟨rfl, hx, hb, hml, hown, hts, hK, hA⟩, hl0, hlocks, hnt, hSE⟩ := K
  obtain ⟨s1, s2, s3, s4⟩ := hSE
  obtain ⟨sa, hsa⟩ := s1 _ hstr
  intro H locs ls hP hD hS hl
  have hnames : ∀ n ∈ nmRE, Bundle.fit n = true := by decide +kernel
  refine vx_throwSW (A := A) hx hb hl0 hown hcls hnames (hts _ hk) (hts _ hini) hsa (vx_hat (B := hNg) (fun w hw => hts w (hat w hw)) hng (fun w hw => va_Nw.use (ng_tabs (hNg_ng w hw)) (s4 w hw))) hgood s2 s3 hS (hl.1.trans hml.symm) d0 d3 d4 d6 d9 (fun x hx9 => (hnt x hx9).elim) (by show 2 + 3 < R.frames; omega) (by show (([] : List Value).map fun v => v.category).sum + (13 * (2 + 1) + 43) ≤ R.locals; simp; omega) hR.2.2.1 hR.2.2.2.1 hlocks ?_ hS.2.2 hR.2.2.2.2.1 hR.2.2.2.2.2
  intro t hal hsz hk9
  refine ⟨(), trivial, ⟨hp, hP.kept (fun j q hq => hk9 q.1 (hP j q hq).lt), va_K.moved hal hK, hD⟩, Nat.le_trans hS.1 hsz, fun q hq hnA => (hk9 q (Nat.lt_of_lt_of_le hq hS.1)).trans (hS.2.1 q hq hnA)⟩
end RXW
