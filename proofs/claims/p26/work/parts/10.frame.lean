
/-! The house's own frame: one judgement over worlds and locals, rules for its instructions. -/
section MYF
def lget : List (Nat × Value) → Nat → Option Value
  | [], _ => none
  | q :: t, i => if q.1 = i then some q.2 else lget t i
theorem lget_mem {i : Nat} {v : Value} : ∀ {lv : List (Nat × Value)}, lget lv i = some v → (i, v) ∈ lv
  | [], h => by simp [lget] at h
  | q :: t, h => by
    unfold lget at h
    by_cases e : q.1 = i
    · rw [if_pos e] at h
      cases h
      rw [← e]
      exact List.mem_cons_self
    · rw [if_neg e] at h
      exact List.mem_cons_of_mem _ (lget_mem h)
def lins (i : Nat) (v : Value) : List (Nat × Value) → List (Nat × Value)
  | [] => [(i, v)]
  | q :: t => if i < q.1 then (i, v) :: q :: t else q :: lins i v t
theorem lins_mem {i : Nat} {v : Value} {q : Nat × Value} : ∀ {l : List (Nat × Value)}, q ∈ lins i v l → q ∈ (i, v) :: l
  | [], h => h
  | x :: t, h => by
    unfold lins at h
    by_cases e : i < x.1
    · rw [if_pos e] at h
      exact h
    · rw [if_neg e] at h
      rcases List.mem_cons.mp h with h1 | h1
      · exact List.mem_cons_of_mem _ (List.mem_cons.mpr (Or.inl h1))
      · rcases List.mem_cons.mp (lins_mem h1) with h2 | h2
        · exact List.mem_cons.mpr (Or.inl h2)
        · exact List.mem_cons_of_mem _ (List.mem_cons_of_mem _ h2)
def lput (i : Nat) (v : Value) (lv : List (Nat × Value)) : List (Nat × Value) := lins i v (lv.filter (fun q => !(q.1 == i) && !(q.1 + 1 == i && q.2.category == 2)))
def lputL (i : Nat) (v : Value) (lv : List (Nat × Value)) : List (Nat × Value) := lins i v (lv.filter (fun q => !(q.1 == i) && (!(q.1 == i + 1) && !(q.1 + 1 == i && q.2.category == 2))))
theorem lv_mono {ls : Array Slot} {nL : Nat} {l l' : List (Nat × Value)} (h : lv_has ls nL l) (hm : ∀ q, q ∈ l' → q ∈ l) : lv_has ls nL l' := ⟨h.1, h.2.1, fun q hq => h.2.2 q (hm q hq)⟩
theorem lv_g {ls : Array Slot} {nL i : Nat} {lv : List (Nat × Value)} {v : Value} (h : lv_has ls nL lv) (hl : lget lv i = some v) : ls[i]? = some (.val v) := h.2.2 (i, v) (lget_mem hl)
/-- numbers as ints, row by row -/
def ar (g : Nat → Nat) : Nat → Int32 := fun j => nI (g j)
def upf (g : Nat → Nat) (k v : Nat) : Nat → Nat := fun j => if j = k then v else g j
theorem ar_upd (g : Nat → Nat) (k v : Nat) : upd (ar g) k (nI v) = ar (upf g k v) := by
  funext j
  unfold upd ar upf
  by_cases e : j = k
  · rw [if_pos e, if_pos e]
  · rw [if_neg e, if_neg e]
theorem lN_ne0 {n : Nat} (h0 : 0 < n) (h : n < 9223372036854775808) : ¬ lN n = 0 := fun q => by
  have h1 : lN n = lN 0 := q
  rw [pk_lEQ h (by decide)] at h1
  omega
theorem nar_b {v : Nat} (h : v < 2) : vp_nar .boolean (nI v) = nI v := by
  rcases (show v = 0 ∨ v = 1 by omega) with rfl | rfl <;> decide
def Wh (p : Program) (l : Launch) (e : Env) (R : Room) (s : State) (m : MethodId) (args : Array Value) (below : List Frame) (meth : Method) (c : Code) (Q : State → Prop) (D : va_G) (A : Nat → Prop) (H0 : Heap) (nL : Nat) (k n : Nat) (ws : va_W) (lv : List (Nat × Value)) (pc : Nat) (st : List Value) : Prop :=
  ∀ (H : Heap) (locs : List Loc) (ls : Array Slot), va_P D vwCl ws H → va_D A ws → va_S A H0 H locs → lv_has ls nL lv → W p l e R s m args below meth c H locs k n Q (F0 m pc ls st)
abbrev Gt : Type := Nat → Nat → va_W → List (Nat × Value) → Nat → List Value → Prop
/-- what every rule needs of a method's frame -/
def Fx (p : Program) (l : Launch) (e : Env) (R : Room) (s : State) (m : MethodId) (args : Array Value) (below : List Frame) (meth : Method) (c : Code) (Q : State → Prop) (A : Nat → Prop) (H0 : Heap) (G : Gt) (cc : ByteArray) (nL : Nat) (Ts : List Cond) (own : String) (D : va_G) (tys : List (ClassId × FieldType)) : Prop :=
  G = Wh p l e R s m args below meth c Q D A H0 nL ∧ p.tables.exec = Jvm.exec ∧ c.code = cc ∧ c.maxLocals = nL ∧ s.vm.findClass own = some m.cls ∧ (∀ w ∈ Ts, w.before args s = true) ∧ va_K D vwCl tys s ∧ (∀ q, H0.size ≤ q → A q)
def Ok (l : Launch) (R : Room) (G : Gt) (cc : ByteArray) (nL : Nat) (Ts : List Cond) (own : String) (D : va_G) (tys : List (ClassId × FieldType)) : Prop :=
  ∃ (p : Program) (e : Env) (s : State) (m : MethodId) (args : Array Value) (below : List Frame) (meth : Method) (c : Code) (Q : State → Prop) (A : Nat → Prop) (H0 : Heap), Fx p l e R s m args below meth c Q A H0 G cc nL Ts own D tys
section R
variable {l : Launch} {R : Room} {G : Gt} {cc : ByteArray} {nL : Nat} {Ts : List Cond} {own : String} {D : va_G} {tys : List (ClassId × FieldType)} {k n : Nat} {ws ws' : va_W} {lv lv' : List (Nat × Value)} {pc : Nat} {st : List Value}

theorem r_iload_n (K : Ok l R G cc nL Ts own D tys) {f : Fin 4} {x : Int32} (hd : decode cc pc = .ok (.iload_n f, 1)) (hg : lget lv (f : Nat) = some (.int x)) (kk : G k n ws lv (pc + 1) (.int x :: st)) : G k n ws lv pc st := by
  obtain ⟨p, e, s, m, args, below, meth, c, Q, A, H0, rfl, hx, hb, hml, hown, hts, hK, hA⟩ := K
  intro H locs ls hP hD hS hl
  exact lv_iload_n hx hb hd rfl (lv_g hl hg) (kk H locs ls hP hD hS hl)

theorem r_iload (K : Ok l R G cc nL Ts own D tys) {i : Nat} {x : Int32} (hd : decode cc pc = .ok (.iload i, 2)) (hg : lget lv i = some (.int x)) (kk : G k n ws lv (pc + 2) (.int x :: st)) : G k n ws lv pc st := by
  obtain ⟨p, e, s, m, args, below, meth, c, Q, A, H0, rfl, hx, hb, hml, hown, hts, hK, hA⟩ := K
  intro H locs ls hP hD hS hl
  exact lv_iload hx hb hd (lv_g hl hg) (kk H locs ls hP hD hS hl)

theorem r_lload_n (K : Ok l R G cc nL Ts own D tys) {f : Fin 4} {x : Int64} (hd : decode cc pc = .ok (.lload_n f, 1)) (hg : lget lv (f : Nat) = some (.long x)) (kk : G k n ws lv (pc + 1) (.long x :: st)) : G k n ws lv pc st := by
  obtain ⟨p, e, s, m, args, below, meth, c, Q, A, H0, rfl, hx, hb, hml, hown, hts, hK, hA⟩ := K
  intro H locs ls hP hD hS hl
  exact lv_lload_n hx hb hd rfl (lv_g hl hg) (kk H locs ls hP hD hS hl)

theorem r_lload (K : Ok l R G cc nL Ts own D tys) {i : Nat} {x : Int64} (hd : decode cc pc = .ok (.lload i, 2)) (hg : lget lv i = some (.long x)) (kk : G k n ws lv (pc + 2) (.long x :: st)) : G k n ws lv pc st := by
  obtain ⟨p, e, s, m, args, below, meth, c, Q, A, H0, rfl, hx, hb, hml, hown, hts, hK, hA⟩ := K
  intro H locs ls hP hD hS hl
  exact lv_lload hx hb hd (lv_g hl hg) (kk H locs ls hP hD hS hl)

theorem r_aload_n (K : Ok l R G cc nL Ts own D tys) {f : Fin 4} {x : Nat} (hd : decode cc pc = .ok (.aload_n f, 1)) (hg : lget lv (f : Nat) = some (.ref x)) (kk : G k n ws lv (pc + 1) (.ref x :: st)) : G k n ws lv pc st := by
  obtain ⟨p, e, s, m, args, below, meth, c, Q, A, H0, rfl, hx, hb, hml, hown, hts, hK, hA⟩ := K
  intro H locs ls hP hD hS hl
  exact lv_aload_n hx hb hd rfl (lv_g hl hg) (kk H locs ls hP hD hS hl)

theorem r_aload (K : Ok l R G cc nL Ts own D tys) {i : Nat} {x : Nat} (hd : decode cc pc = .ok (.aload i, 2)) (hg : lget lv i = some (.ref x)) (kk : G k n ws lv (pc + 2) (.ref x :: st)) : G k n ws lv pc st := by
  obtain ⟨p, e, s, m, args, below, meth, c, Q, A, H0, rfl, hx, hb, hml, hown, hts, hK, hA⟩ := K
  intro H locs ls hP hD hS hl
  exact lv_aload hx hb hd (lv_g hl hg) (kk H locs ls hP hD hS hl)

theorem r_istore_n (K : Ok l R G cc nL Ts own D tys) {f : Fin 4} {x : Int32} (hd : decode cc pc = .ok (.istore_n f, 1)) (hn : (f : Nat) < nL) (hq : lput (f : Nat) (.int x) lv = lv') (kk : G k n ws lv' (pc + 1) st) : G k n ws lv pc (.int x :: st) := by
  obtain ⟨p, e, s, m, args, below, meth, c, Q, A, H0, rfl, hx, hb, hml, hown, hts, hK, hA⟩ := K
  intro H locs ls hP hD hS hl
  refine lv_istore_n (lv' := _) hx hb hd rfl hl hn rfl (fun ls' hl' => kk H locs ls' hP hD hS (lv_mono hl' fun q hq' => ?_))
  rw [← hq] at hq'
  exact lins_mem hq'

theorem r_istore (K : Ok l R G cc nL Ts own D tys) {i : Nat} {x : Int32} (hd : decode cc pc = .ok (.istore i, 2)) (hn : i < nL) (hq : lput i (.int x) lv = lv') (kk : G k n ws lv' (pc + 2) st) : G k n ws lv pc (.int x :: st) := by
  obtain ⟨p, e, s, m, args, below, meth, c, Q, A, H0, rfl, hx, hb, hml, hown, hts, hK, hA⟩ := K
  intro H locs ls hP hD hS hl
  refine lv_istore (lv' := _) hx hb hd hl hn rfl (fun ls' hl' => kk H locs ls' hP hD hS (lv_mono hl' fun q hq' => ?_))
  rw [← hq] at hq'
  exact lins_mem hq'

theorem r_astore_n (K : Ok l R G cc nL Ts own D tys) {f : Fin 4} {x : Nat} (hd : decode cc pc = .ok (.astore_n f, 1)) (hn : (f : Nat) < nL) (hq : lput (f : Nat) (.ref x) lv = lv') (kk : G k n ws lv' (pc + 1) st) : G k n ws lv pc (.ref x :: st) := by
  obtain ⟨p, e, s, m, args, below, meth, c, Q, A, H0, rfl, hx, hb, hml, hown, hts, hK, hA⟩ := K
  intro H locs ls hP hD hS hl
  refine lv_astore_n (lv' := _) hx hb hd rfl hl hn rfl (fun ls' hl' => kk H locs ls' hP hD hS (lv_mono hl' fun q hq' => ?_))
  rw [← hq] at hq'
  exact lins_mem hq'

theorem r_astore (K : Ok l R G cc nL Ts own D tys) {i : Nat} {x : Nat} (hd : decode cc pc = .ok (.astore i, 2)) (hn : i < nL) (hq : lput i (.ref x) lv = lv') (kk : G k n ws lv' (pc + 2) st) : G k n ws lv pc (.ref x :: st) := by
  obtain ⟨p, e, s, m, args, below, meth, c, Q, A, H0, rfl, hx, hb, hml, hown, hts, hK, hA⟩ := K
  intro H locs ls hP hD hS hl
  refine lv_astore (lv' := _) hx hb hd hl hn rfl (fun ls' hl' => kk H locs ls' hP hD hS (lv_mono hl' fun q hq' => ?_))
  rw [← hq] at hq'
  exact lins_mem hq'

theorem r_lstore (K : Ok l R G cc nL Ts own D tys) {i : Nat} {x : Int64} (hd : decode cc pc = .ok (.lstore i, 2)) (hn : i + 1 < nL) (hq : lputL i (.long x) lv = lv') (kk : G k n ws lv' (pc + 2) st) : G k n ws lv pc (.long x :: st) := by
  obtain ⟨p, e, s, m, args, below, meth, c, Q, A, H0, rfl, hx, hb, hml, hown, hts, hK, hA⟩ := K
  intro H locs ls hP hD hS hl
  refine lv_lstore (lv' := _) hx hb hd hl hn rfl (fun ls' hl' => kk H locs ls' hP hD hS (lv_mono hl' fun q hq' => ?_))
  rw [← hq] at hq'
  exact lins_mem hq'

theorem r_sub (K : Ok l R G cc nL Ts own D tys) (hm : ∀ q, q ∈ lv' → q ∈ lv) (kk : G k n ws lv' pc st) : G k n ws lv pc st := by
  obtain ⟨p, e, s, m, args, below, meth, c, Q, A, H0, rfl, hx, hb, hml, hown, hts, hK, hA⟩ := K
  intro H locs ls hP hD hS hl
  exact kk H locs ls hP hD hS (lv_mono hl hm)

theorem mem_pick {lv lv' : List (Nat × Value)} (ks : List Nat) (h : lv_pick lv ks = lv') : ∀ q, q ∈ lv' → q ∈ lv := by
  intro q hq
  rw [← h] at hq
  obtain ⟨k, -, hk⟩ := List.mem_filterMap.mp hq
  exact List.mem_of_getElem? hk

theorem r_pick (ks : List Nat) (K : Ok l R G cc nL Ts own D tys) (h : lv_pick lv ks = lv') (kk : G k n ws lv' pc st) : G k n ws lv pc st := r_sub K (mem_pick ks h) kk

theorem r_w (h : ws = ws') (kk : G k n ws' lv pc st) : G k n ws lv pc st := h ▸ kk

theorem r_st {st' : List Value} (h : st = st') (kk : G k n ws lv pc st') : G k n ws lv pc st := h ▸ kk

theorem r_lv (h : lv = lv') (kk : G k n ws lv' pc st) : G k n ws lv pc st := h ▸ kk

theorem r_top {x y : Int32} (h : x = y) (kk : G k n ws lv pc (.int y :: st)) : G k n ws lv pc (.int x :: st) := h ▸ kk

theorem r_topL {x y : Int64} (h : x = y) (kk : G k n ws lv pc (.long y :: st)) : G k n ws lv pc (.long x :: st) := h ▸ kk

theorem r_iconst (K : Ok l R G cc nL Ts own D tys) {z : Int} (v : Int32) (hd : decode cc pc = .ok (.iconst z, 1)) (hv : Int32.ofInt z = v) (kk : G k n ws lv (pc + 1) (.int v :: st)) : G k n ws lv pc st := by
  obtain ⟨p, e, s, m, args, below, meth, c, Q, A, H0, rfl, hx, hb, hml, hown, hts, hK, hA⟩ := K
  intro H locs ls hP hD hS hl
  exact lv_iconst hx hb hd hv (kk H locs ls hP hD hS hl)

theorem r_bipush (K : Ok l R G cc nL Ts own D tys) {z : Int} (v : Int32) (hd : decode cc pc = .ok (.bipush z, 2)) (hv : (Int8.ofInt z).toInt32 = v) (kk : G k n ws lv (pc + 2) (.int v :: st)) : G k n ws lv pc st := by
  obtain ⟨p, e, s, m, args, below, meth, c, Q, A, H0, rfl, hx, hb, hml, hown, hts, hK, hA⟩ := K
  intro H locs ls hP hD hS hl
  exact lv_bipush hx hb hd hv (kk H locs ls hP hD hS hl)

theorem r_lconst (K : Ok l R G cc nL Ts own D tys) {z : Fin 2} (v : Int64) (hd : decode cc pc = .ok (.lconst z, 1)) (hv : Int64.ofNat (z : Nat) = v) (kk : G k n ws lv (pc + 1) (.long v :: st)) : G k n ws lv pc st := by
  obtain ⟨p, e, s, m, args, below, meth, c, Q, A, H0, rfl, hx, hb, hml, hown, hts, hK, hA⟩ := K
  intro H locs ls hP hD hS hl
  exact lv_lconst hx hb hd hv (kk H locs ls hP hD hS hl)

theorem r_ldc2 (K : Ok l R G cc nL Ts own D tys) {ix : Nat} {v : Int64} (hc : Cond.constantLong own ix v ∈ Ts) (hd : decode cc pc = .ok (.ldc2_w ix, 3)) (kk : G k n ws lv (pc + 3) (.long v :: st)) : G k n ws lv pc st := by
  obtain ⟨p, e, s, m, args, below, meth, c, Q, A, H0, rfl, hx, hb, hml, hown, hts, hK, hA⟩ := K
  intro H locs ls hP hD hS hl
  exact lv_ldc2 hx hb hown (hts _ hc) hd (kk H locs ls hP hD hS hl)

theorem r_ldcw (K : Ok l R G cc nL Ts own D tys) {ix : Nat} {v : Int32} (hc : Cond.constant own ix v ∈ Ts) (hd : decode cc pc = .ok (.ldc_w ix, 3)) (kk : G k n ws lv (pc + 3) (.int v :: st)) : G k n ws lv pc st := by
  obtain ⟨p, e, s, m, args, below, meth, c, Q, A, H0, rfl, hx, hb, hml, hown, hts, hK, hA⟩ := K
  intro H locs ls hP hD hS hl
  exact lv_ldcw hx hb hown (hts _ hc) hd (kk H locs ls hP hD hS hl)

theorem r_dup (K : Ok l R G cc nL Ts own D tys) {v : Value} (hd : decode cc pc = .ok (.dup, 1)) (hv : v.category = 1) (kk : G k n ws lv (pc + 1) (v :: v :: st)) : G k n ws lv pc (v :: st) := by
  obtain ⟨p, e, s, m, args, below, meth, c, Q, A, H0, rfl, hx, hb, hml, hown, hts, hK, hA⟩ := K
  intro H locs ls hP hD hS hl
  exact lv_dup hx hb hd hv (kk H locs ls hP hD hS hl)

theorem r_dup2 (K : Ok l R G cc nL Ts own D tys) {v u : Value} (hd : decode cc pc = .ok (.dup2, 1)) (hv : v.category = 1) (hu : u.category = 1) (kk : G k n ws lv (pc + 1) (v :: u :: v :: u :: st)) : G k n ws lv pc (v :: u :: st) := by
  obtain ⟨p, e, s, m, args, below, meth, c, Q, A, H0, rfl, hx, hb, hml, hown, hts, hK, hA⟩ := K
  intro H locs ls hP hD hS hl
  exact lv_dup2_11 hx hb hd hv hu (kk H locs ls hP hD hS hl)

theorem r_iadd (K : Ok l R G cc nL Ts own D tys) {a b : Nat} (hd : decode cc pc = .ok (.iadd, 1)) (kk : G k n ws lv (pc + 1) (.int (nI (a + b)) :: st)) : G k n ws lv pc (.int (nI b) :: .int (nI a) :: st) := by
  obtain ⟨p, e, s, m, args, below, meth, c, Q, A, H0, rfl, hx, hb, hml, hown, hts, hK, hA⟩ := K
  intro H locs ls hP hD hS hl
  refine lv_iadd hx hb hd ?_
  rw [nI_add]
  exact kk H locs ls hP hD hS hl

theorem r_iaddR (K : Ok l R G cc nL Ts own D tys) {x y : Int32} (hd : decode cc pc = .ok (.iadd, 1)) (kk : G k n ws lv (pc + 1) (.int (x + y) :: st)) : G k n ws lv pc (.int y :: .int x :: st) := by
  obtain ⟨p, e, s, m, args, below, meth, c, Q, A, H0, rfl, hx, hb, hml, hown, hts, hK, hA⟩ := K
  intro H locs ls hP hD hS hl
  exact lv_iadd hx hb hd (kk H locs ls hP hD hS hl)

theorem r_isub (K : Ok l R G cc nL Ts own D tys) {a b : Nat} (hd : decode cc pc = .ok (.isub, 1)) (hba : b ≤ a) (kk : G k n ws lv (pc + 1) (.int (nI (a - b)) :: st)) : G k n ws lv pc (.int (nI b) :: .int (nI a) :: st) := by
  obtain ⟨p, e, s, m, args, below, meth, c, Q, A, H0, rfl, hx, hb, hml, hown, hts, hK, hA⟩ := K
  intro H locs ls hP hD hS hl
  refine lv_isub hx hb hd ?_
  rw [pk_sub hba]
  exact kk H locs ls hP hD hS hl

theorem r_isubR (K : Ok l R G cc nL Ts own D tys) {x y : Int32} (hd : decode cc pc = .ok (.isub, 1)) (kk : G k n ws lv (pc + 1) (.int (x - y) :: st)) : G k n ws lv pc (.int y :: .int x :: st) := by
  obtain ⟨p, e, s, m, args, below, meth, c, Q, A, H0, rfl, hx, hb, hml, hown, hts, hK, hA⟩ := K
  intro H locs ls hP hD hS hl
  exact lv_isub hx hb hd (kk H locs ls hP hD hS hl)

theorem r_imul (K : Ok l R G cc nL Ts own D tys) {a b : Nat} (hd : decode cc pc = .ok (.imul, 1)) (kk : G k n ws lv (pc + 1) (.int (nI (a * b)) :: st)) : G k n ws lv pc (.int (nI b) :: .int (nI a) :: st) := by
  obtain ⟨p, e, s, m, args, below, meth, c, Q, A, H0, rfl, hx, hb, hml, hown, hts, hK, hA⟩ := K
  intro H locs ls hP hD hS hl
  refine lv_imul hx hb hd ?_
  rw [pk_mul]
  exact kk H locs ls hP hD hS hl

theorem r_imulR (K : Ok l R G cc nL Ts own D tys) {x y : Int32} (hd : decode cc pc = .ok (.imul, 1)) (kk : G k n ws lv (pc + 1) (.int (x * y) :: st)) : G k n ws lv pc (.int y :: .int x :: st) := by
  obtain ⟨p, e, s, m, args, below, meth, c, Q, A, H0, rfl, hx, hb, hml, hown, hts, hK, hA⟩ := K
  intro H locs ls hP hD hS hl
  exact lv_imul hx hb hd (kk H locs ls hP hD hS hl)

theorem r_idiv (K : Ok l R G cc nL Ts own D tys) {a b : Nat} (hd : decode cc pc = .ok (.idiv, 1)) (ha : a < 2147483648) (h0 : 0 < b) (hb2 : b < 2147483648) (kk : G k n ws lv (pc + 1) (.int (nI (a / b)) :: st)) : G k n ws lv pc (.int (nI b) :: .int (nI a) :: st) := by
  obtain ⟨p, e, s, m, args, below, meth, c, Q, A, H0, rfl, hx, hb, hml, hown, hts, hK, hA⟩ := K
  intro H locs ls hP hD hS hl
  refine lv_idiv hx hb hd (nI_ne0 h0 hb2) ?_
  rw [pk_div ha h0 hb2]
  exact kk H locs ls hP hD hS hl

theorem r_iandR (K : Ok l R G cc nL Ts own D tys) {x y : Int32} (hd : decode cc pc = .ok (.iand, 1)) (kk : G k n ws lv (pc + 1) (.int (x &&& y) :: st)) : G k n ws lv pc (.int y :: .int x :: st) := by
  obtain ⟨p, e, s, m, args, below, meth, c, Q, A, H0, rfl, hx, hb, hml, hown, hts, hK, hA⟩ := K
  intro H locs ls hP hD hS hl
  exact lv_iand hx hb hd (kk H locs ls hP hD hS hl)

theorem r_iorR (K : Ok l R G cc nL Ts own D tys) {x y : Int32} (hd : decode cc pc = .ok (.ior, 1)) (kk : G k n ws lv (pc + 1) (.int (x ||| y) :: st)) : G k n ws lv pc (.int y :: .int x :: st) := by
  obtain ⟨p, e, s, m, args, below, meth, c, Q, A, H0, rfl, hx, hb, hml, hown, hts, hK, hA⟩ := K
  intro H locs ls hP hD hS hl
  exact lv_ior hx hb hd (kk H locs ls hP hD hS hl)

theorem r_ishlR (K : Ok l R G cc nL Ts own D tys) {x y : Int32} (hd : decode cc pc = .ok (.ishl, 1)) (kk : G k n ws lv (pc + 1) (.int (x <<< (y &&& 31)) :: st)) : G k n ws lv pc (.int y :: .int x :: st) := by
  obtain ⟨p, e, s, m, args, below, meth, c, Q, A, H0, rfl, hx, hb, hml, hown, hts, hK, hA⟩ := K
  intro H locs ls hP hD hS hl
  exact lv_ishl hx hb hd (kk H locs ls hP hD hS hl)

theorem r_iushrR (K : Ok l R G cc nL Ts own D tys) {x y v : Int32} (hd : decode cc pc = .ok (.iushr, 1)) (hv : (x.toUInt32 >>> (y.toUInt32 &&& Int32.toUInt32 31)).toInt32 = v) (kk : G k n ws lv (pc + 1) (.int v :: st)) : G k n ws lv pc (.int y :: .int x :: st) := by
  obtain ⟨p, e, s, m, args, below, meth, c, Q, A, H0, rfl, hx, hb, hml, hown, hts, hK, hA⟩ := K
  intro H locs ls hP hD hS hl
  exact lv_iushr hx hb hd hv (kk H locs ls hP hD hS hl)

theorem r_iinc (K : Ok l R G cc nL Ts own D tys) {i : Nat} {a b : Nat} {z : Int} (hd : decode cc pc = .ok (.iinc i z, 3)) (hg : lget lv i = some (.int (nI a))) (hv : nI a + Int32.ofInt z = nI b) (hn : i < nL) (hq : lput i (.int (nI b)) lv = lv') (kk : G k n ws lv' (pc + 3) st) : G k n ws lv pc st := by
  obtain ⟨p, e, s, m, args, below, meth, c, Q, A, H0, rfl, hx, hb, hml, hown, hts, hK, hA⟩ := K
  intro H locs ls hP hD hS hl
  have hm := lget_mem hg
  obtain ⟨j, hj⟩ := List.getElem?_of_mem hm
  refine lv_iinc (lv' := _) hx hb hd hl hj hv hn rfl (fun ls' hl' => kk H locs ls' hP hD hS (lv_mono hl' fun q hq' => ?_))
  rw [← hq] at hq'
  exact lins_mem hq'

theorem r_ladd (K : Ok l R G cc nL Ts own D tys) {a b : Nat} (hd : decode cc pc = .ok (.ladd, 1)) (kk : G k n ws lv (pc + 1) (.long (lN (a + b)) :: st)) : G k n ws lv pc (.long (lN b) :: .long (lN a) :: st) := by
  obtain ⟨p, e, s, m, args, below, meth, c, Q, A, H0, rfl, hx, hb, hml, hown, hts, hK, hA⟩ := K
  intro H locs ls hP hD hS hl
  refine lv_ladd hx hb hd ?_
  rw [lN_add]
  exact kk H locs ls hP hD hS hl

theorem r_lmul (K : Ok l R G cc nL Ts own D tys) {a b : Nat} (hd : decode cc pc = .ok (.lmul, 1)) (kk : G k n ws lv (pc + 1) (.long (lN (a * b)) :: st)) : G k n ws lv pc (.long (lN b) :: .long (lN a) :: st) := by
  obtain ⟨p, e, s, m, args, below, meth, c, Q, A, H0, rfl, hx, hb, hml, hown, hts, hK, hA⟩ := K
  intro H locs ls hP hD hS hl
  refine lv_lmul hx hb hd ?_
  rw [lN_mul]
  exact kk H locs ls hP hD hS hl

theorem r_ldiv (K : Ok l R G cc nL Ts own D tys) {a b : Nat} (hd : decode cc pc = .ok (.ldiv, 1)) (ha : a < 9223372036854775808) (h0 : 0 < b) (hb2 : b < 9223372036854775808) (kk : G k n ws lv (pc + 1) (.long (lN (a / b)) :: st)) : G k n ws lv pc (.long (lN b) :: .long (lN a) :: st) := by
  obtain ⟨p, e, s, m, args, below, meth, c, Q, A, H0, rfl, hx, hb, hml, hown, hts, hK, hA⟩ := K
  intro H locs ls hP hD hS hl
  refine lv_ldiv hx hb hd (lN_ne0 h0 hb2) ?_
  rw [pk_lDiv ha h0 hb2]
  exact kk H locs ls hP hD hS hl

theorem r_lrem (K : Ok l R G cc nL Ts own D tys) {a b : Nat} (hd : decode cc pc = .ok (.lrem, 1)) (ha : a < 9223372036854775808) (h0 : 0 < b) (hb2 : b < 9223372036854775808) (kk : G k n ws lv (pc + 1) (.long (lN (a % b)) :: st)) : G k n ws lv pc (.long (lN b) :: .long (lN a) :: st) := by
  obtain ⟨p, e, s, m, args, below, meth, c, Q, A, H0, rfl, hx, hb, hml, hown, hts, hK, hA⟩ := K
  intro H locs ls hP hD hS hl
  refine lv_lrem hx hb hd (lN_ne0 h0 hb2) ?_
  rw [pk_lRem ha h0 hb2]
  exact kk H locs ls hP hD hS hl

theorem r_i2l (K : Ok l R G cc nL Ts own D tys) {a : Nat} (hd : decode cc pc = .ok (.i2l, 1)) (ha : a < 2147483648) (kk : G k n ws lv (pc + 1) (.long (lN a) :: st)) : G k n ws lv pc (.int (nI a) :: st) := by
  obtain ⟨p, e, s, m, args, below, meth, c, Q, A, H0, rfl, hx, hb, hml, hown, hts, hK, hA⟩ := K
  intro H locs ls hP hD hS hl
  exact lv_i2l hx hb hd (nI_l ha) (kk H locs ls hP hD hS hl)

theorem r_i2lR (K : Ok l R G cc nL Ts own D tys) {x : Int32} (hd : decode cc pc = .ok (.i2l, 1)) (kk : G k n ws lv (pc + 1) (.long x.toInt64 :: st)) : G k n ws lv pc (.int x :: st) := by
  obtain ⟨p, e, s, m, args, below, meth, c, Q, A, H0, rfl, hx, hb, hml, hown, hts, hK, hA⟩ := K
  intro H locs ls hP hD hS hl
  exact lv_i2l hx hb hd rfl (kk H locs ls hP hD hS hl)

theorem r_l2i (K : Ok l R G cc nL Ts own D tys) {a : Nat} (hd : decode cc pc = .ok (.l2i, 1)) (kk : G k n ws lv (pc + 1) (.int (nI a) :: st)) : G k n ws lv pc (.long (lN a) :: st) := by
  obtain ⟨p, e, s, m, args, below, meth, c, Q, A, H0, rfl, hx, hb, hml, hown, hts, hK, hA⟩ := K
  intro H locs ls hP hD hS hl
  exact lv_l2i hx hb hd (lN_i a) (kk H locs ls hP hD hS hl)

theorem r_lcmpR (K : Ok l R G cc nL Ts own D tys) {x y : Int64} (hd : decode cc pc = .ok (.lcmp, 1)) (kk : G k n ws lv (pc + 1) (.int (lg_cmp x y) :: st)) : G k n ws lv pc (.long y :: .long x :: st) := by
  obtain ⟨p, e, s, m, args, below, meth, c, Q, A, H0, rfl, hx, hb, hml, hown, hts, hK, hA⟩ := K
  intro H locs ls hP hD hS hl
  exact W.lcmp hx hb hd (kk H locs ls hP hD hS hl)

theorem r_if_eqR (K : Ok l R G cc nL Ts own D tys) {x : Int32} {off : Int} (tgt : Nat) (hd : decode cc pc = .ok (.ifCond .eq off, 3)) (ht : (pc : Int) + off = (tgt : Int)) (kt : x = 0 → G k n ws lv tgt st) (kf : ¬ x = 0 → G k n ws lv (pc + 3) st) : G k n ws lv pc (.int x :: st) := by
  obtain ⟨p, e, s, m, args, below, meth, c, Q, A, H0, rfl, hx, hb, hml, hown, hts, hK, hA⟩ := K
  intro H locs ls hP hD hS hl
  exact lv_if_eq hx hb hd ht (fun q => kt q H locs ls hP hD hS hl) (fun q => kf q H locs ls hP hD hS hl)

theorem r_if_neR (K : Ok l R G cc nL Ts own D tys) {x : Int32} {off : Int} (tgt : Nat) (hd : decode cc pc = .ok (.ifCond .ne off, 3)) (ht : (pc : Int) + off = (tgt : Int)) (kt : ¬ x = 0 → G k n ws lv tgt st) (kf : x = 0 → G k n ws lv (pc + 3) st) : G k n ws lv pc (.int x :: st) := by
  obtain ⟨p, e, s, m, args, below, meth, c, Q, A, H0, rfl, hx, hb, hml, hown, hts, hK, hA⟩ := K
  intro H locs ls hP hD hS hl
  exact lv_if_ne hx hb hd ht (fun q => kt q H locs ls hP hD hS hl) (fun q => kf q H locs ls hP hD hS hl)

theorem r_if_ltR (K : Ok l R G cc nL Ts own D tys) {x : Int32} {off : Int} (tgt : Nat) (hd : decode cc pc = .ok (.ifCond .lt off, 3)) (ht : (pc : Int) + off = (tgt : Int)) (kt : x < 0 → G k n ws lv tgt st) (kf : ¬ x < 0 → G k n ws lv (pc + 3) st) : G k n ws lv pc (.int x :: st) := by
  obtain ⟨p, e, s, m, args, below, meth, c, Q, A, H0, rfl, hx, hb, hml, hown, hts, hK, hA⟩ := K
  intro H locs ls hP hD hS hl
  exact lv_if_lt hx hb hd ht (fun q => kt q H locs ls hP hD hS hl) (fun q => kf q H locs ls hP hD hS hl)

theorem r_if_geR (K : Ok l R G cc nL Ts own D tys) {x : Int32} {off : Int} (tgt : Nat) (hd : decode cc pc = .ok (.ifCond .ge off, 3)) (ht : (pc : Int) + off = (tgt : Int)) (kt : 0 ≤ x → G k n ws lv tgt st) (kf : ¬ 0 ≤ x → G k n ws lv (pc + 3) st) : G k n ws lv pc (.int x :: st) := by
  obtain ⟨p, e, s, m, args, below, meth, c, Q, A, H0, rfl, hx, hb, hml, hown, hts, hK, hA⟩ := K
  intro H locs ls hP hD hS hl
  exact lv_if_ge hx hb hd ht (fun q => kt q H locs ls hP hD hS hl) (fun q => kf q H locs ls hP hD hS hl)

theorem r_if_gtR (K : Ok l R G cc nL Ts own D tys) {x : Int32} {off : Int} (tgt : Nat) (hd : decode cc pc = .ok (.ifCond .gt off, 3)) (ht : (pc : Int) + off = (tgt : Int)) (kt : 0 < x → G k n ws lv tgt st) (kf : ¬ 0 < x → G k n ws lv (pc + 3) st) : G k n ws lv pc (.int x :: st) := by
  obtain ⟨p, e, s, m, args, below, meth, c, Q, A, H0, rfl, hx, hb, hml, hown, hts, hK, hA⟩ := K
  intro H locs ls hP hD hS hl
  exact lv_if_gt hx hb hd ht (fun q => kt q H locs ls hP hD hS hl) (fun q => kf q H locs ls hP hD hS hl)

theorem r_if_leR (K : Ok l R G cc nL Ts own D tys) {x : Int32} {off : Int} (tgt : Nat) (hd : decode cc pc = .ok (.ifCond .le off, 3)) (ht : (pc : Int) + off = (tgt : Int)) (kt : x ≤ 0 → G k n ws lv tgt st) (kf : ¬ x ≤ 0 → G k n ws lv (pc + 3) st) : G k n ws lv pc (.int x :: st) := by
  obtain ⟨p, e, s, m, args, below, meth, c, Q, A, H0, rfl, hx, hb, hml, hown, hts, hK, hA⟩ := K
  intro H locs ls hP hD hS hl
  exact lv_if_le hx hb hd ht (fun q => kt q H locs ls hP hD hS hl) (fun q => kf q H locs ls hP hD hS hl)

theorem r_ic_eqR (K : Ok l R G cc nL Ts own D tys) {x y : Int32} {off : Int} (tgt : Nat) (hd : decode cc pc = .ok (.if_icmp .eq off, 3)) (ht : (pc : Int) + off = (tgt : Int)) (kt : x = y → G k n ws lv tgt st) (kf : ¬ x = y → G k n ws lv (pc + 3) st) : G k n ws lv pc (.int y :: .int x :: st) := by
  obtain ⟨p, e, s, m, args, below, meth, c, Q, A, H0, rfl, hx, hb, hml, hown, hts, hK, hA⟩ := K
  intro H locs ls hP hD hS hl
  exact lv_icmp_eq hx hb hd ht (fun q => kt q H locs ls hP hD hS hl) (fun q => kf q H locs ls hP hD hS hl)

theorem r_ic_neR (K : Ok l R G cc nL Ts own D tys) {x y : Int32} {off : Int} (tgt : Nat) (hd : decode cc pc = .ok (.if_icmp .ne off, 3)) (ht : (pc : Int) + off = (tgt : Int)) (kt : ¬ x = y → G k n ws lv tgt st) (kf : x = y → G k n ws lv (pc + 3) st) : G k n ws lv pc (.int y :: .int x :: st) := by
  obtain ⟨p, e, s, m, args, below, meth, c, Q, A, H0, rfl, hx, hb, hml, hown, hts, hK, hA⟩ := K
  intro H locs ls hP hD hS hl
  exact lv_icmp_ne hx hb hd ht (fun q => kt q H locs ls hP hD hS hl) (fun q => kf q H locs ls hP hD hS hl)

theorem r_ic_ltR (K : Ok l R G cc nL Ts own D tys) {x y : Int32} {off : Int} (tgt : Nat) (hd : decode cc pc = .ok (.if_icmp .lt off, 3)) (ht : (pc : Int) + off = (tgt : Int)) (kt : x < y → G k n ws lv tgt st) (kf : ¬ x < y → G k n ws lv (pc + 3) st) : G k n ws lv pc (.int y :: .int x :: st) := by
  obtain ⟨p, e, s, m, args, below, meth, c, Q, A, H0, rfl, hx, hb, hml, hown, hts, hK, hA⟩ := K
  intro H locs ls hP hD hS hl
  exact lv_icmp_lt hx hb hd ht (fun q => kt q H locs ls hP hD hS hl) (fun q => kf q H locs ls hP hD hS hl)

theorem r_ic_geR (K : Ok l R G cc nL Ts own D tys) {x y : Int32} {off : Int} (tgt : Nat) (hd : decode cc pc = .ok (.if_icmp .ge off, 3)) (ht : (pc : Int) + off = (tgt : Int)) (kt : y ≤ x → G k n ws lv tgt st) (kf : ¬ y ≤ x → G k n ws lv (pc + 3) st) : G k n ws lv pc (.int y :: .int x :: st) := by
  obtain ⟨p, e, s, m, args, below, meth, c, Q, A, H0, rfl, hx, hb, hml, hown, hts, hK, hA⟩ := K
  intro H locs ls hP hD hS hl
  exact lv_icmp_ge hx hb hd ht (fun q => kt q H locs ls hP hD hS hl) (fun q => kf q H locs ls hP hD hS hl)

theorem r_ic_gtR (K : Ok l R G cc nL Ts own D tys) {x y : Int32} {off : Int} (tgt : Nat) (hd : decode cc pc = .ok (.if_icmp .gt off, 3)) (ht : (pc : Int) + off = (tgt : Int)) (kt : y < x → G k n ws lv tgt st) (kf : ¬ y < x → G k n ws lv (pc + 3) st) : G k n ws lv pc (.int y :: .int x :: st) := by
  obtain ⟨p, e, s, m, args, below, meth, c, Q, A, H0, rfl, hx, hb, hml, hown, hts, hK, hA⟩ := K
  intro H locs ls hP hD hS hl
  exact lv_icmp_gt hx hb hd ht (fun q => kt q H locs ls hP hD hS hl) (fun q => kf q H locs ls hP hD hS hl)

theorem r_ic_leR (K : Ok l R G cc nL Ts own D tys) {x y : Int32} {off : Int} (tgt : Nat) (hd : decode cc pc = .ok (.if_icmp .le off, 3)) (ht : (pc : Int) + off = (tgt : Int)) (kt : x ≤ y → G k n ws lv tgt st) (kf : ¬ x ≤ y → G k n ws lv (pc + 3) st) : G k n ws lv pc (.int y :: .int x :: st) := by
  obtain ⟨p, e, s, m, args, below, meth, c, Q, A, H0, rfl, hx, hb, hml, hown, hts, hK, hA⟩ := K
  intro H locs ls hP hD hS hl
  exact lv_icmp_le hx hb hd ht (fun q => kt q H locs ls hP hD hS hl) (fun q => kf q H locs ls hP hD hS hl)

theorem r_ic_eq (K : Ok l R G cc nL Ts own D tys) {a b : Nat} {off : Int} (tgt : Nat) (hd : decode cc pc = .ok (.if_icmp .eq off, 3)) (ht : (pc : Int) + off = (tgt : Int)) (ha : a < 2147483648) (hb2 : b < 2147483648) (kt : a = b → G k n ws lv tgt st) (kf : a ≠ b → G k n ws lv (pc + 3) st) : G k n ws lv pc (.int (nI b) :: .int (nI a) :: st) := r_ic_eqR K tgt hd ht (fun q => kt ((nI_eq ha hb2).mp q)) (fun q => kf (fun h => q ((nI_eq ha hb2).mpr h)))

theorem r_ic_ne (K : Ok l R G cc nL Ts own D tys) {a b : Nat} {off : Int} (tgt : Nat) (hd : decode cc pc = .ok (.if_icmp .ne off, 3)) (ht : (pc : Int) + off = (tgt : Int)) (ha : a < 2147483648) (hb2 : b < 2147483648) (kt : a ≠ b → G k n ws lv tgt st) (kf : a = b → G k n ws lv (pc + 3) st) : G k n ws lv pc (.int (nI b) :: .int (nI a) :: st) := r_ic_neR K tgt hd ht (fun q => kt (fun h => q ((nI_eq ha hb2).mpr h))) (fun q => kf ((nI_eq ha hb2).mp q))

theorem r_ic_lt (K : Ok l R G cc nL Ts own D tys) {a b : Nat} {off : Int} (tgt : Nat) (hd : decode cc pc = .ok (.if_icmp .lt off, 3)) (ht : (pc : Int) + off = (tgt : Int)) (ha : a < 2147483648) (hb2 : b < 2147483648) (kt : a < b → G k n ws lv tgt st) (kf : b ≤ a → G k n ws lv (pc + 3) st) : G k n ws lv pc (.int (nI b) :: .int (nI a) :: st) := r_ic_ltR K tgt hd ht (fun q => kt ((nI_ltI ha hb2).mp q)) (fun q => kf (Nat.not_lt.mp fun h => q ((nI_ltI ha hb2).mpr h)))

theorem r_ic_ge (K : Ok l R G cc nL Ts own D tys) {a b : Nat} {off : Int} (tgt : Nat) (hd : decode cc pc = .ok (.if_icmp .ge off, 3)) (ht : (pc : Int) + off = (tgt : Int)) (ha : a < 2147483648) (hb2 : b < 2147483648) (kt : b ≤ a → G k n ws lv tgt st) (kf : a < b → G k n ws lv (pc + 3) st) : G k n ws lv pc (.int (nI b) :: .int (nI a) :: st) := r_ic_geR K tgt hd ht (fun q => kt ((nI_leI hb2 ha).mp q)) (fun q => kf (Nat.not_le.mp fun h => q ((nI_leI hb2 ha).mpr h)))

theorem r_ic_gt (K : Ok l R G cc nL Ts own D tys) {a b : Nat} {off : Int} (tgt : Nat) (hd : decode cc pc = .ok (.if_icmp .gt off, 3)) (ht : (pc : Int) + off = (tgt : Int)) (ha : a < 2147483648) (hb2 : b < 2147483648) (kt : b < a → G k n ws lv tgt st) (kf : a ≤ b → G k n ws lv (pc + 3) st) : G k n ws lv pc (.int (nI b) :: .int (nI a) :: st) := r_ic_gtR K tgt hd ht (fun q => kt ((nI_ltI hb2 ha).mp q)) (fun q => kf (Nat.not_lt.mp fun h => q ((nI_ltI hb2 ha).mpr h)))

theorem r_ic_le (K : Ok l R G cc nL Ts own D tys) {a b : Nat} {off : Int} (tgt : Nat) (hd : decode cc pc = .ok (.if_icmp .le off, 3)) (ht : (pc : Int) + off = (tgt : Int)) (ha : a < 2147483648) (hb2 : b < 2147483648) (kt : a ≤ b → G k n ws lv tgt st) (kf : b < a → G k n ws lv (pc + 3) st) : G k n ws lv pc (.int (nI b) :: .int (nI a) :: st) := r_ic_leR K tgt hd ht (fun q => kt ((nI_leI ha hb2).mp q)) (fun q => kf (Nat.not_le.mp fun h => q ((nI_leI ha hb2).mpr h)))

theorem r_if_eq (K : Ok l R G cc nL Ts own D tys) {a : Nat} {off : Int} (tgt : Nat) (hd : decode cc pc = .ok (.ifCond .eq off, 3)) (ht : (pc : Int) + off = (tgt : Int)) (ha : a < 2147483648) (kt : a = 0 → G k n ws lv tgt st) (kf : a ≠ 0 → G k n ws lv (pc + 3) st) : G k n ws lv pc (.int (nI a) :: st) := by
  have hb2 : 0 < 2147483648 := by decide
  exact r_if_eqR K tgt hd ht (fun q => kt (by rw [← nI_0] at q; exact ((nI_eq ha hb2).mp q))) (fun q => kf (by rw [← nI_0] at q; exact (fun h => q ((nI_eq ha hb2).mpr h))))

theorem r_if_ne (K : Ok l R G cc nL Ts own D tys) {a : Nat} {off : Int} (tgt : Nat) (hd : decode cc pc = .ok (.ifCond .ne off, 3)) (ht : (pc : Int) + off = (tgt : Int)) (ha : a < 2147483648) (kt : a ≠ 0 → G k n ws lv tgt st) (kf : a = 0 → G k n ws lv (pc + 3) st) : G k n ws lv pc (.int (nI a) :: st) := by
  have hb2 : 0 < 2147483648 := by decide
  exact r_if_neR K tgt hd ht (fun q => kt (by rw [← nI_0] at q; exact (fun h => q ((nI_eq ha hb2).mpr h)))) (fun q => kf (by rw [← nI_0] at q; exact ((nI_eq ha hb2).mp q)))

theorem r_if_lt (K : Ok l R G cc nL Ts own D tys) {a : Nat} {off : Int} (tgt : Nat) (hd : decode cc pc = .ok (.ifCond .lt off, 3)) (ht : (pc : Int) + off = (tgt : Int)) (ha : a < 2147483648) (kt : a < 0 → G k n ws lv tgt st) (kf : 0 ≤ a → G k n ws lv (pc + 3) st) : G k n ws lv pc (.int (nI a) :: st) := by
  have hb2 : 0 < 2147483648 := by decide
  exact r_if_ltR K tgt hd ht (fun q => kt (by rw [← nI_0] at q; exact ((nI_ltI ha hb2).mp q))) (fun q => kf (by rw [← nI_0] at q; exact (Nat.not_lt.mp fun h => q ((nI_ltI ha hb2).mpr h))))

theorem r_if_ge (K : Ok l R G cc nL Ts own D tys) {a : Nat} {off : Int} (tgt : Nat) (hd : decode cc pc = .ok (.ifCond .ge off, 3)) (ht : (pc : Int) + off = (tgt : Int)) (ha : a < 2147483648) (kt : 0 ≤ a → G k n ws lv tgt st) (kf : a < 0 → G k n ws lv (pc + 3) st) : G k n ws lv pc (.int (nI a) :: st) := by
  have hb2 : 0 < 2147483648 := by decide
  exact r_if_geR K tgt hd ht (fun q => kt (by rw [← nI_0] at q; exact ((nI_leI hb2 ha).mp q))) (fun q => kf (by rw [← nI_0] at q; exact (Nat.not_le.mp fun h => q ((nI_leI hb2 ha).mpr h))))

theorem r_if_gt (K : Ok l R G cc nL Ts own D tys) {a : Nat} {off : Int} (tgt : Nat) (hd : decode cc pc = .ok (.ifCond .gt off, 3)) (ht : (pc : Int) + off = (tgt : Int)) (ha : a < 2147483648) (kt : 0 < a → G k n ws lv tgt st) (kf : a ≤ 0 → G k n ws lv (pc + 3) st) : G k n ws lv pc (.int (nI a) :: st) := by
  have hb2 : 0 < 2147483648 := by decide
  exact r_if_gtR K tgt hd ht (fun q => kt (by rw [← nI_0] at q; exact ((nI_ltI hb2 ha).mp q))) (fun q => kf (by rw [← nI_0] at q; exact (Nat.not_lt.mp fun h => q ((nI_ltI hb2 ha).mpr h))))

theorem r_if_le (K : Ok l R G cc nL Ts own D tys) {a : Nat} {off : Int} (tgt : Nat) (hd : decode cc pc = .ok (.ifCond .le off, 3)) (ht : (pc : Int) + off = (tgt : Int)) (ha : a < 2147483648) (kt : a ≤ 0 → G k n ws lv tgt st) (kf : 0 < a → G k n ws lv (pc + 3) st) : G k n ws lv pc (.int (nI a) :: st) := by
  have hb2 : 0 < 2147483648 := by decide
  exact r_if_leR K tgt hd ht (fun q => kt (by rw [← nI_0] at q; exact ((nI_leI ha hb2).mp q))) (fun q => kf (by rw [← nI_0] at q; exact (Nat.not_le.mp fun h => q ((nI_leI ha hb2).mpr h))))

theorem r_goto (K : Ok l R G cc nL Ts own D tys) {off : Int} (tgt : Nat) (hd : decode cc pc = .ok (.goto off, 3)) (ht : (pc : Int) + off = (tgt : Int)) (kk : G k n ws lv tgt st) : G k n ws lv pc st := by
  obtain ⟨p, e, s, m, args, below, meth, c, Q, A, H0, rfl, hx, hb, hml, hown, hts, hK, hA⟩ := K
  intro H locs ls hP hD hS hl
  exact lv_goto hx hb hd ht (kk H locs ls hP hD hS hl)

theorem r_get (K : Ok l R G cc nL Ts own D tys) {C : String} {T : u_T} {N ci ix a : Nat} {fs : List Value} {v : Value} (hin : ∀ w ∈ u_ws C T N, w ∈ Ts) (q0 : Nat) (he : ws[q0]? = some (a, .inr (ci, fs))) (hc : vwCl[ci]? = some (C, T, N)) (f : Nat) (hf : f < N) (hlk : Cond.fieldLink own ix (T f).1 (T f).2.1 (T f).2.2.1 ∈ Ts) (hv : fs[f]? = some v) (hd : decode cc pc = .ok (.getfield ix, 3)) (kk : G k n ws lv (pc + 3) (v :: st)) : G k n ws lv pc (.ref a :: st) := by
  obtain ⟨p, e, s, m, args, below, meth, c, Q, A, H0, rfl, hx, hb, hml, hown, hts, hK, hA⟩ := K
  intro H locs ls hP hD hS hl
  exact va_get (D := D) hx hb hts hin hown hK hP q0 he hc f hf (hts _ hlk) (fun _ h9 => h9) hv hd (kk H locs ls hP hD hS hl)

theorem r_put (K : Ok l R G cc nL Ts own D tys) {C : String} {T : u_T} {N ci ix a : Nat} {fs : List Value} {v : Value} (hin : ∀ w ∈ u_ws C T N, w ∈ Ts) (ty0 : Nat → FieldType) (hty : ∀ k, k < N → parseFieldDescriptor (T k).2.2.1 = some (ty0 k)) (hnm : ∀ a, a < N → ∀ b, b < N → a ≠ b → (T a).2.1 ≠ (T b).2.1) (q0 : Nat) (he : ws[q0]? = some (a, .inr (ci, fs))) (hc : vwCl[ci]? = some (C, T, N)) (f : Nat) (hf : f < N) (hlk : Cond.fieldLink own ix (T f).1 (T f).2.1 (T f).2.2.1 ∈ Ts) (hfin : (T f).2.2.2 = false) (hn : narrow (ty0 f) v = v) (hfit : fits (ty0 f) v = true) (hle : f < fs.length) (hd : decode cc pc = .ok (.putfield ix, 3)) (hset : ws.set q0 (a, .inr (ci, fs.set f v)) = ws') (kk : G k n ws' lv (pc + 3) st) : G k n ws lv pc (v :: .ref a :: st) := by
  obtain ⟨p, e, s, m, args, below, meth, c, Q, A, H0, rfl, hx, hb, hml, hown, hts, hK, hA⟩ := K
  intro H locs ls hP hD hS hl
  refine va_put (D := D) hx hb hts hin ty0 hty hnm hown hK hP hD hS q0 he hc f hf (hts _ hlk) (fun _ h9 => h9) hfin (hty f hf) hn hfit hle hd (fun H1 locs1 hP1 hD1 hS1 => ?_)
  rw [hset] at hP1 hD1
  exact kk H1 locs1 ls hP1 hD1 hS1 hl

theorem r_iald (K : Ok l R G cc nL Ts own D tys) {cA : ClassId} {a N i : Nat} {g : Nat → Nat} (q0 t0 : Nat) (ha : ws[q0]? = some (a, .inl (cA, N, .inl (ar g)))) (ht : tys[t0]? = some (cA, .int)) (hi : i < N) (hN : N < 2147483648) (hd : decode cc pc = .ok (.iaload, 1)) (kk : G k n ws lv (pc + 1) (.int (nI (g i)) :: st)) : G k n ws lv pc (.int (nI i) :: .ref a :: st) := by
  obtain ⟨p, e, s, m, args, below, meth, c, Q, A, H0, rfl, hx, hb, hml, hown, hts, hK, hA⟩ := K
  intro H locs ls hP hD hS hl
  refine va_iald hx hb hK hP q0 t0 ha ht (vp_in_nI hi hN) hd ?_
  rw [nI_clamp (Nat.lt_trans hi hN)]
  exact kk H locs ls hP hD hS hl

theorem r_ialdJ (K : Ok l R G cc nL Ts own D tys) {cA : ClassId} {a N i : Nat} {g : Nat → Int32} (q0 t0 : Nat) (ha : ws[q0]? = some (a, .inl (cA, N, .inl g))) (ht : tys[t0]? = some (cA, .int)) (hi : i < N) (hN : N < 2147483648) (hd : decode cc pc = .ok (.iaload, 1)) (kk : G k n ws lv (pc + 1) (.int (g i) :: st)) : G k n ws lv pc (.int (nI i) :: .ref a :: st) := by
  obtain ⟨p, e, s, m, args, below, meth, c, Q, A, H0, rfl, hx, hb, hml, hown, hts, hK, hA⟩ := K
  intro H locs ls hP hD hS hl
  refine va_iald hx hb hK hP q0 t0 ha ht (vp_in_nI hi hN) hd ?_
  rw [nI_clamp (Nat.lt_trans hi hN)]
  exact kk H locs ls hP hD hS hl

theorem r_zald (K : Ok l R G cc nL Ts own D tys) {cA : ClassId} {a N i : Nat} {g : Nat → Nat} (q0 t0 : Nat) (ha : ws[q0]? = some (a, .inl (cA, N, .inl (ar g)))) (ht : tys[t0]? = some (cA, .boolean)) (hi : i < N) (hN : N < 2147483648) (hd : decode cc pc = .ok (.baload, 1)) (kk : G k n ws lv (pc + 1) (.int (nI (g i)) :: st)) : G k n ws lv pc (.int (nI i) :: .ref a :: st) := by
  obtain ⟨p, e, s, m, args, below, meth, c, Q, A, H0, rfl, hx, hb, hml, hown, hts, hK, hA⟩ := K
  intro H locs ls hP hD hS hl
  refine va_zald hx hb hK hP q0 t0 ha ht (vp_in_nI hi hN) hd ?_
  rw [nI_clamp (Nat.lt_trans hi hN)]
  exact kk H locs ls hP hD hS hl

theorem r_iast (K : Ok l R G cc nL Ts own D tys) {cA : ClassId} {a N i v : Nat} {g : Nat → Nat} (q0 t0 : Nat) (ha : ws[q0]? = some (a, .inl (cA, N, .inl (ar g)))) (ht : tys[t0]? = some (cA, .int)) (hi : i < N) (hN : N < 2147483648) (hd : decode cc pc = .ok (.iastore, 1)) (hset : ws.set q0 (a, .inl (cA, N, .inl (ar (upf g i v)))) = ws') (kk : G k n ws' lv (pc + 1) st) : G k n ws lv pc (.int (nI v) :: .int (nI i) :: .ref a :: st) := by
  obtain ⟨p, e, s, m, args, below, meth, c, Q, A, H0, rfl, hx, hb, hml, hown, hts, hK, hA⟩ := K
  intro H locs ls hP hD hS hl
  refine va_iast hx hb hK hP hD hS q0 t0 ha ht (vp_in_nI hi hN) hd (fun H1 locs1 hP1 hD1 hS1 => ?_)
  rw [nI_clamp (Nat.lt_trans hi hN), ar_upd, hset] at hP1 hD1
  exact kk H1 locs1 ls hP1 hD1 hS1 hl

theorem r_iastJ (K : Ok l R G cc nL Ts own D tys) {cA : ClassId} {a N i : Nat} {v : Int32} {g : Nat → Int32} (q0 t0 : Nat) (ha : ws[q0]? = some (a, .inl (cA, N, .inl g))) (ht : tys[t0]? = some (cA, .int)) (hi : i < N) (hN : N < 2147483648) (hd : decode cc pc = .ok (.iastore, 1)) (hset : ws.set q0 (a, .inl (cA, N, .inl (upd g i v))) = ws') (kk : G k n ws' lv (pc + 1) st) : G k n ws lv pc (.int v :: .int (nI i) :: .ref a :: st) := by
  obtain ⟨p, e, s, m, args, below, meth, c, Q, A, H0, rfl, hx, hb, hml, hown, hts, hK, hA⟩ := K
  intro H locs ls hP hD hS hl
  refine va_iast hx hb hK hP hD hS q0 t0 ha ht (vp_in_nI hi hN) hd (fun H1 locs1 hP1 hD1 hS1 => ?_)
  rw [nI_clamp (Nat.lt_trans hi hN), hset] at hP1 hD1
  exact kk H1 locs1 ls hP1 hD1 hS1 hl

theorem r_zast (K : Ok l R G cc nL Ts own D tys) {cA : ClassId} {a N i v : Nat} {g : Nat → Nat} (q0 t0 : Nat) (ha : ws[q0]? = some (a, .inl (cA, N, .inl (ar g)))) (ht : tys[t0]? = some (cA, .boolean)) (hi : i < N) (hN : N < 2147483648) (hv2 : v < 2) (hd : decode cc pc = .ok (.bastore, 1)) (hset : ws.set q0 (a, .inl (cA, N, .inl (ar (upf g i v)))) = ws') (kk : G k n ws' lv (pc + 1) st) : G k n ws lv pc (.int (nI v) :: .int (nI i) :: .ref a :: st) := by
  obtain ⟨p, e, s, m, args, below, meth, c, Q, A, H0, rfl, hx, hb, hml, hown, hts, hK, hA⟩ := K
  intro H locs ls hP hD hS hl
  refine va_zast hx hb hK hP hD hS q0 t0 ha ht (vp_in_nI hi hN) hd (fun H1 locs1 hP1 hD1 hS1 => ?_)
  rw [nI_clamp (Nat.lt_trans hi hN), nar_b hv2, ar_upd, hset] at hP1 hD1
  exact kk H1 locs1 ls hP1 hD1 hS1 hl

theorem r_aald2 (K : Ok l R G cc nL Ts own D tys) {cA : ClassId} {a N i y : Nat} {t : FieldType} {f : Nat → Option Nat} (q0 t0 : Nat) (ha : ws[q0]? = some (a, .inl (cA, N, .inr (.inr (.inr (.inr f)))))) (ht : tys[t0]? = some (cA, .array t)) (hi : i < N) (hN : N < 2147483648) (hf : f i = some y) (hd : decode cc pc = .ok (.aaload, 1)) (kk : G k n ws lv (pc + 1) (.ref y :: st)) : G k n ws lv pc (.int (nI i) :: .ref a :: st) := by
  obtain ⟨p, e, s, m, args, below, meth, c, Q, A, H0, rfl, hx, hb, hml, hown, hts, hK, hA⟩ := K
  intro H locs ls hP hD hS hl
  have hc : (nI i).toNatClampNeg = i := nI_clamp (Nat.lt_trans hi hN)
  exact W.aald (v := .ref y) (ty := .array t) hx hb (hP q0 _ ha) ((hK.2 t0 _ ht).1 N (fun j => va_rf (f j))) rfl (fun q => by cases q) (by show ¬ (nI i < 0 ∨ (arrV _ _ _).slots.size ≤ _); rw [arrV_size]; exact vp_in_nI hi hN) (by show (arrV _ _ _).slots[_]? = _; rw [hc, arrV_read _ _ hi, hf]; rfl) rfl rfl hd (kk H locs ls hP hD hS hl)

end R
end MYF
