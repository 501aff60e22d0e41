/-! Calls with other cells beside; methods with handlers. -/
section LAWF
theorem P_l {D : va_G} {cl : List vw_C} {x y : va_W} {H : Heap} (h : va_P D cl (x ++ y) H) : va_P D cl x H := fun k q hk => h k q (by
  rw [List.getElem?_append_left (List.getElem?_eq_some_iff.mp hk).1]; exact hk)
theorem P_r {D : va_G} {cl : List vw_C} {x y : va_W} {H : Heap} (h : va_P D cl (x ++ y) H) : va_P D cl y H := fun k q hk => h (x.length + k) q (by
  rw [List.getElem?_append_right (Nat.le_add_right _ _), Nat.add_sub_cancel_left]; exact hk)
theorem in_l {x y : va_W} {k : Nat} {q : Nat × va_E} (hk : x[k]? = some q) : (x ++ y)[k]? = some q := by
  rw [List.getElem?_append_left (List.getElem?_eq_some_iff.mp hk).1]; exact hk
theorem in_r {x y : va_W} {k : Nat} {q : Nat × va_E} (hk : y[k]? = some q) : (x ++ y)[x.length + k]? = some q := by
  rw [List.getElem?_append_right (Nat.le_add_right _ _), Nat.add_sub_cancel_left]; exact hk
theorem D_l {A : Nat → Prop} {x y : va_W} (h : va_D A (x ++ y)) : va_D A x := ⟨fun i j p q hi hj e => h.1 i j p q (in_l hi) (in_l hj) e, fun k q hk => h.2 k q (in_l hk)⟩
theorem D_r {A : Nat → Prop} {x y : va_W} (h : va_D A (x ++ y)) : va_D A y := ⟨fun i j p q hi hj e => by
  have := h.1 _ _ p q (in_r hi) (in_r hj) e
  omega, fun k q hk => h.2 _ q (in_r hk)⟩
theorem D_x {A : Nat → Prop} {x y : va_W} (h : va_D A (x ++ y)) : ∀ (i j : Nat) (p q : Nat × va_E), x[i]? = some p → y[j]? = some q → p.1 ≠ q.1 := fun i j p q hi hj e => by
  have h1 := h.1 _ _ p q (in_l hi) (in_r hj) e
  have h2 := (List.getElem?_eq_some_iff.mp hi).1
  omega
theorem beside {D : va_G} {cl : List vw_C} {A0 : Nat → Prop} {w z u : va_W} {H H1 : Heap} (hPz : va_P D cl z H) (hDz : va_D A0 z) (hx : ∀ (i j : Nat) (p q : Nat × va_E), w[i]? = some p → z[j]? = some q → p.1 ≠ q.1)
    (hk : ∀ q : Nat, q < H.size → ¬ va_A w H.size q → H1[q]? = H[q]?) (hD1 : va_D (va_A w H.size) u) : va_P D cl z H1 ∧ ∀ (i j : Nat) (p q : Nat × va_E), u[i]? = some p → z[j]? = some q → p.1 ≠ q.1 := by
  have out : ∀ (j : Nat) (q : Nat × va_E), z[j]? = some q → ¬ va_A w H.size q.1 := fun j q hj h => by
    rcases h with ⟨k, e, h⟩ | h
    · exact hx k j _ q h hj rfl
    · have := (hPz j q hj).lt
      omega
  refine ⟨hPz.kept fun j q hj => hk q.1 (hPz j q hj).lt (out j q hj), fun i j p q hi hj e => ?_⟩
  have h1 := hD1.2 i p hi
  rw [e] at h1
  exact out j q hj h1
theorem beside_l {D : va_G} {cl : List vw_C} {A0 : Nat → Prop} {w z u : va_W} {H H1 : Heap} (hP : va_P D cl (w ++ z) H) (hD : va_D A0 (w ++ z)) (hk : ∀ q : Nat, q < H.size → ¬ va_A w H.size q → H1[q]? = H[q]?) (hF : ∀ q, va_A w H.size q → A0 q)
    (hP1 : va_P D cl u H1) (hD1 : va_D (va_A w H.size) u) : va_P D cl (u ++ z) H1 ∧ va_D A0 (u ++ z) := by
  obtain ⟨h1, h2⟩ := beside (P_r hP) (D_r hD) (D_x hD) hk hD1
  exact ⟨hP1.app h1, (hD1.weaken fun _ q _ h => hF q.1 h).app (D_r hD) h2⟩
theorem beside_r {D : va_G} {cl : List vw_C} {A0 : Nat → Prop} {w z u : va_W} {H H1 : Heap} (hP : va_P D cl (z ++ w) H) (hD : va_D A0 (z ++ w)) (hk : ∀ q : Nat, q < H.size → ¬ va_A w H.size q → H1[q]? = H[q]?) (hF : ∀ q, va_A w H.size q → A0 q)
    (hP1 : va_P D cl u H1) (hD1 : va_D (va_A w H.size) u) : va_P D cl (z ++ u) H1 ∧ va_D A0 (z ++ u) := by
  obtain ⟨h1, h2⟩ := beside (P_l hP) (D_l hD) (fun i j p q hi hj e => D_x hD j i q p hj hi e.symm) hk hD1
  exact ⟨h1.app hP1, (D_l hD).app (hD1.weaken fun _ q _ h => hF q.1 h) (fun i j p q hi hj e => h2 j i q p hj hi e.symm)⟩
abbrev exN : List String := [eIOB, eIAE, eISE]
/-- which of the three exceptions is which -/
def NC (U : State) : Prop := (∀ E ∈ exN, va_Nw (.castable E E) U) ∧ ∀ E ∈ exN, ∀ F ∈ exN, E ≠ F → va_Nc E F U
theorem NC.warm {s U : State} (hW : s.WarmedH U.vm) (h : NC s) : NC U := ⟨fun E hE => va_Nw.warmC hW (h.1 E hE), fun E hE F hF hn => (h.2 E hE F hF hn).moved hW.alike⟩
theorem NC.blind {u U : State} (hv : u.vm = U.vm) (h : NC u) : NC U := ⟨fun E hE => va_Nw.same rfl hv (h.1 E hE), fun E hE F hF hn => (h.2 E hE F hF hn).moved (by rw [← hv]; exact Vm.Alike.refl _)⟩
def Pre2 (D : va_G) (tys : List (ClassId × FieldType)) (w : va_W) (av : List Value) (sz : Nat) : Array Value → State → Prop := va_Pc av (fun U => (U.heap.size = sz ∧ At1 D tys (fun _ => True) w U) ∧ SE (va_A w sz) U ∧ NC U)
theorem pre2_blind {D : va_G} {tys : List (ClassId × FieldType)} {w : va_W} {av : List Value} {sz : Nat} : FrameBlind (Pre2 D tys w av sz) := fun a U g mk q => by
  obtain ⟨q0, ⟨q1, qP, qK, qD⟩, qS, qN⟩ := q
  exact ⟨q0, ⟨q1, qP, va_K.moved (u := U) (U := U.calling g mk a) (Vm.Alike.refl U.vm) qK, qD⟩, qS.blind rfl rfl, qN.blind rfl⟩
/-- a method of the law's, which catches what it calls -/
def Li (l : Launch) (y : MethodName) (wsy : List Cond) (rm : Room) (D : va_G) (tys : List (ClassId × FieldType)) (av : List Value) (w : va_W) {T : Type} (post : Int32 → T → Prop) (w' : T → va_W) : Prop :=
  ∀ sz, Met l y wsy rm (Pre2 D tys w av sz) (va_Qi post (fun u t => At1 D tys (va_A w sz) (w' u) t) (va_A w sz)) rm.cells rm.slots (va_A w sz)
/-- a frame in which a throw may be caught -/
def OkH (l : Launch) (R : Room) (G : Gt) (cc : ByteArray) (nL : Nat) (Ts : List Cond) (own : String) (D : va_G) (tys : List (ClassId × FieldType)) (hh : List (Nat × Nat × Nat × Nat)) : Prop :=
  ∃ (p : Program) (e : Env) (s : State) (m : MethodId) (args : Array Value) (below : List Frame) (meth : Method) (c : Code) (Q : State → Prop) (A : Nat → Prop),
    Fx p l e R s m args below meth c Q A s.heap G cc nL Ts own D tys ∧ SE A s ∧ NC s ∧ c.exceptionTable.toList = tableOf hh
/-- the law's own frame -/
def OkE (l : Launch) (R : Room) (G : Gt) (cc : ByteArray) (nL : Nat) (Ts : List Cond) (own : String) (D : va_G) (tys : List (ClassId × FieldType)) : Prop :=
  ∃ (p : Program) (e : Env) (s : State) (m : MethodId) (args : Array Value) (below : List Frame) (meth : Method) (c : Code) (Q : State → Prop) (A : Nat → Prop),
    Fx p l e R s m args below meth c Q A s.heap G cc nL Ts own D tys ∧ SE A s ∧ NC s
section S1
variable {l : Launch} {R : Room} {G : Gt} {cc : ByteArray} {nL : Nat} {Ts : List Cond} {own : String} {D : va_G} {tys : List (ClassId × FieldType)} {hh : List (Nat × Nat × Nat × Nat)}
theorem OkH.ok (K : OkH l R G cc nL Ts own D tys hh) : Ok l R G cc nL Ts own D tys := by
  obtain ⟨p, e, s, m, args, below, meth, c, Q, A, hF, -⟩ := K
  exact ⟨p, e, s, m, args, below, meth, c, Q, A, s.heap, hF⟩
theorem OkE.ok (K : OkE l R G cc nL Ts own D tys) : Ok l R G cc nL Ts own D tys := by
  obtain ⟨p, e, s, m, args, below, meth, c, Q, A, hF, -⟩ := K
  exact ⟨p, e, s, m, args, below, meth, c, Q, A, s.heap, hF⟩
end S1
def CatchAt (Ts : List Cond) (own : String) (hh : List (Nat × Nat × Nat × Nat)) (pc : Nat) (E : String) (tgt : Nat) : Prop :=
  ∃ (pre : List ExceptionTableEntry) (x : ExceptionTableEntry) (suf : List ExceptionTableEntry), tableOf hh = pre ++ x :: suf ∧ (∀ z ∈ pre, covers z pc = false ∨ (z.catchType ≠ 0 ∧ ∃ nm : String, Cond.classLink own z.catchType nm ∈ Ts ∧ nm ∈ exN ∧ E ≠ nm)) ∧ covers x pc = true ∧ x.catchType ≠ 0 ∧ Cond.classLink own x.catchType E ∈ Ts ∧ E ∈ exN ∧ x.handlerPc = tgt
theorem catch_here {Ts : List Cond} {own : String} {s e h t pc : Nat} {hh : List (Nat × Nat × Nat × Nat)} {E : String} (hc : covers ⟨s, e, h, t⟩ pc = true) (h0 : t ≠ 0) (hl : Cond.classLink own t E ∈ Ts) (hE : E ∈ exN) : CatchAt Ts own ((s, e, h, t) :: hh) pc E h :=
  ⟨[], ⟨s, e, h, t⟩, tableOf hh, rfl, (fun _ h => by cases h), hc, h0, hl, hE, rfl⟩
theorem catch_next {Ts : List Cond} {own : String} {s e h t pc tgt : Nat} {hh : List (Nat × Nat × Nat × Nat)} {E nm : String} (h0 : t ≠ 0) (hl : Cond.classLink own t nm ∈ Ts) (hnm : nm ∈ exN) (hne : E ≠ nm) (H : CatchAt Ts own hh pc E tgt) : CatchAt Ts own ((s, e, h, t) :: hh) pc E tgt := by
  obtain ⟨pre, x, suf, h1, h2, h3⟩ := H
  refine ⟨⟨s, e, h, t⟩ :: pre, x, suf, by rw [List.cons_append, ← h1]; rfl, fun z hz => ?_, h3⟩
  rcases List.mem_cons.mp hz with rfl | hz
  · exact Or.inr ⟨h0, nm, hl, hnm, hne⟩
  · exact h2 z hz
section OPENL
variable {l : Launch} {y : MethodName} {wsy wsy' : List Cond} {rm : Room} {D : va_G} {tys : List (ClassId × FieldType)} {av : List Value} {w : va_W} {T : Type} {cc : ByteArray} {maxL : Nat} {hh : List (Nat × Nat × Nat × Nat)}
set_option maxHeartbeats 4000000 in
theorem Li.of {post : Int32 → T → Prop} {w' : T → va_W} (hy : plainName y.cls = true) (hw : wsy = Cond.codeWith y cc maxL (some .int) hh :: wsy') (hlen : (lg_sl av).length ≤ maxL) {lv0 : List (Nat × Value)} (hlv : lv_args 0 av = lv0)
    (body : ∀ G : Gt, OkH l rm G cc maxL wsy y.cls D tys hh → (∀ k n ws lv pc v u, decode cc pc = .ok (.ireturn, 1) → post v u → ws = w' u → k ≤ rm.cells → n ≤ rm.slots → G k n ws lv pc [.int v]) → G 0 0 w lv0 0 []) : Li l y wsy rm D tys av w post w' := by
  intro sz
  refine va_MetW (cc := cc) (maxL := maxL) (ret := (some .int)) (hh := hh) hy hw ?_
  intro p e s m args below meth c s₁ B hml hv
  obtain ⟨rfl, ⟨hsz, hP, hK, hD0⟩, hSE, hNC⟩ := hv
  have hx := B.exec
  have hb := B.bytes
  have hr := B.returns
  have hts := atoms_spec (ws := wsy) B.pre
  have htab := vx_table (x := y) B (hts _ (by rw [hw]; exact List.mem_cons_self))
  have hown : s.vm.findClass y.cls = some m.cls := findClass_of_methodNamed B.named
  have hlocks := B.notSynchronized
  subst hsz
  have hD := hD0.self (sz := s.heap.size)
  have hA : ∀ q : Nat, s.heap.size ≤ q → va_A w s.heap.size q := fun q h => Or.inr h
  rw [lg_entry_eq]
  refine body _ ⟨p, e, s, m, av.toArray, below, meth, c, _, va_A w s.heap.size, ⟨rfl, hx, hb, hml, hown, hts, hK, hA⟩, hSE, hNC, htab⟩ ?_ s.heap [] _ hP hD va_S.rf (entry_has hlen hlv)
  intro k n ws lv pc v u hd hp hwu hk hn H locs ls hP hD hS hl
  refine W.widen hk hn ?_
  rw [hwu] at hP hD
  exact W.iret (v := v) hx hb hr (fun t ht hW => ⟨⟨v, u, rfl, hp, by rw [ht]; exact hP, va_K.moved hW.alike hK, hD⟩, hS.F ht⟩) hS.2.2 hd
end OPENL
section CALLL
variable {l : Launch} {R : Room} {G : Gt} {cc : ByteArray} {nL : Nat} {Ts : List Cond} {own : String} {D : va_G} {tys : List (ClassId × FieldType)} {k n : Nat} {lv : List (Nat × Value)} {pc : Nat} {st : List Value}
variable {y : MethodName} {wsy wsy' : List Cond} {rm : Room} {w z : va_W} {T : Type} {bytes : ByteArray} {maxL index : Nat} {ret : Option FieldType} {hh : List (Nat × Nat × Nat × Nat)}
set_option maxHeartbeats 4000000 in
theorem r_xcallL (K : OkH l R G cc nL Ts own D tys hh) {px : String → Prop} {post : Int32 → T → Prop} {w' : T → va_W} {C : String} {F : u_T} {N ci b : Nat} {fs As rest : List Value} (hC : Xi l y wsy rm D tys (.ref b :: As) w px post w') (j : Nat) (hG : GoodIn Ts (wsV own index C y wsy)) (hw : wsy = Cond.code y bytes maxL ret :: wsy') (hds : okDesc y C j) (hn : As.length = j) (hR : okRoom rm R maxL k n)
    (q0 : Nat) (he : w[q0]? = some (b, .inr (ci, fs))) (hc : vwCl[ci]? = some (C, F, N)) (hst : st = As.reverse ++ .ref b :: rest) (hcat : (rest.map fun v => v.category).sum ≤ 8) (hd : decode cc pc = .ok (.invokevirtual index, 3))
    (kx : ∀ E, px E → ∃ tgt, CatchAt Ts own hh pc E tgt ∧ ∀ q, G (k + rm.cells) (n + rm.slots) (w ++ z) lv tgt [.ref q])
    (kk : ∀ r u, post r u → G (k + rm.cells) (n + rm.slots) (w' u ++ z) lv (pc + 3) (.int r :: rest)) : G k n (w ++ z) lv pc st := by
  obtain ⟨p, e, s, m, args, below, meth, c, Q, A, ⟨rfl, hx, hb, hml, hown, hts, hK, hA⟩, hSE, hNC, htab⟩ := K
  intro H locs ls hP hD hS hl
  have hF := reach (D_l hD) hS hA
  refine vx_calli (vx_runV (As := As) (rest := rest) ⟨hx, hb, hml, hown, hts⟩ (hC H.size) (cwV j hts hG hw rfl rfl hds hR.1) ⟨prex_blind, va_recv hK (P_l hP) hc he, fun U hU hW => ⟨rfl, ⟨by rw [hU], by rw [hU]; exact P_l hP, va_K.moved hW.alike hK, (D_l hD).weaken (fun _ _ _ _ => trivial)⟩, hSE.move hW hU hS hF⟩⟩ rfl hn hl.1 hst (lv_room hcat) hd hR.2) hS (fun q _ h => hF q h) hF (fun q _ h => hF q h) (fun E ce q9 u t H1 locs1 ht hvm _ hB hz1 hk1 hS1 hce hcv hcl => ?_) (fun r u t H1 locs1 ht hvm hp hB hz1 hk1 hS1 => ?_)
  · obtain ⟨hE, hP1, hK1, hD1⟩ := hB
    rw [ht] at hP1
    obtain ⟨hP2, hD2⟩ := beside_l hP hD hk1 hF hP1 hD1
    obtain ⟨tgt, ⟨pre, x, suf, h1, h2, h3, h4, h5, h6, h7⟩, hgo⟩ := kx E hE
    refine vx_catch hown pre x suf (htab.trans h1) (fun q hq => ?_) h3 h4 (hts _ h5) (va_Nw.use rfl (hNC.1 E h6)) hce hcv hcl ?_
    · rcases h2 q hq with h | ⟨g1, nm, g2, g3, g4⟩
      · exact Or.inl h
      · exact Or.inr ⟨g1, nm, hts _ g2, hNC.2 E h6 nm g3 g4⟩
    · rw [h7]
      exact hgo q9 H1 locs1 ls hP2 hD2 hS1 hl
  · obtain ⟨hP1, hK1, hD1⟩ := hB
    rw [ht] at hP1
    obtain ⟨hP2, hD2⟩ := beside_l hP hD hk1 hF hP1 hD1
    exact kk r u hp H1 locs1 ls hP2 hD2 hS1 hl
set_option maxHeartbeats 4000000 in
theorem r_callVl (K : Ok l R G cc nL Ts own D tys) {post : Int32 → T → Prop} {w' : T → va_W} {C : String} {F : u_T} {N ci b : Nat} {fs As rest : List Value} (hC : Ci l y wsy rm D tys (.ref b :: As) w post w') (j : Nat) (hG : GoodIn Ts (wsV own index C y wsy)) (hw : wsy = Cond.code y bytes maxL ret :: wsy') (hds : okDesc y C j) (hn : As.length = j) (hR : okRoom rm R maxL k n)
    (q0 : Nat) (he : w[q0]? = some (b, .inr (ci, fs))) (hc : vwCl[ci]? = some (C, F, N)) (hst : st = As.reverse ++ .ref b :: rest) (hcat : (rest.map fun v => v.category).sum ≤ 8) (hd : decode cc pc = .ok (.invokevirtual index, 3))
    (kk : ∀ r u, post r u → G (k + rm.cells) (n + rm.slots) (w' u ++ z) lv (pc + 3) (.int r :: rest)) : G k n (w ++ z) lv pc st := by
  obtain ⟨p, e, s, m, args, below, meth, c, Q, A, H0, rfl, hx, hb, hml, hown, hts, hK, hA⟩ := K
  intro H locs ls hP hD hS hl
  have hF := reach (D_l hD) hS hA
  refine va_calli (va_runV (As := As) (rest := rest) ⟨hx, hb, hml, hown, hts⟩ (hC H.size) (cwV j hts hG hw rfl rfl hds hR.1) ⟨pre1_blind, va_recv hK (P_l hP) hc he, fun U hU hW => ⟨rfl, by rw [hU], by rw [hU]; exact P_l hP, va_K.moved hW.alike hK, (D_l hD).weaken (fun _ _ _ _ => trivial)⟩⟩ rfl hn hl.1 hst (lv_room hcat) hd hR.2) hS (fun q _ h => hF q h) hF (fun r u t H1 locs1 ht hvm hp hB hz1 hk1 hS1 => ?_)
  obtain ⟨hP1, hK1, hD1⟩ := hB
  rw [ht] at hP1
  obtain ⟨hP2, hD2⟩ := beside_l hP hD hk1 hF hP1 hD1
  exact kk r u hp H1 locs1 ls hP2 hD2 hS1 hl
set_option maxHeartbeats 4000000 in
theorem r_callVr (K : Ok l R G cc nL Ts own D tys) {post : Int32 → T → Prop} {w' : T → va_W} {C : String} {F : u_T} {N ci b : Nat} {fs As rest : List Value} (hC : Ci l y wsy rm D tys (.ref b :: As) w post w') (j : Nat) (hG : GoodIn Ts (wsV own index C y wsy)) (hw : wsy = Cond.code y bytes maxL ret :: wsy') (hds : okDesc y C j) (hn : As.length = j) (hR : okRoom rm R maxL k n)
    (q0 : Nat) (he : w[q0]? = some (b, .inr (ci, fs))) (hc : vwCl[ci]? = some (C, F, N)) (hst : st = As.reverse ++ .ref b :: rest) (hcat : (rest.map fun v => v.category).sum ≤ 8) (hd : decode cc pc = .ok (.invokevirtual index, 3))
    (kk : ∀ r u, post r u → G (k + rm.cells) (n + rm.slots) (z ++ w' u) lv (pc + 3) (.int r :: rest)) : G k n (z ++ w) lv pc st := by
  obtain ⟨p, e, s, m, args, below, meth, c, Q, A, H0, rfl, hx, hb, hml, hown, hts, hK, hA⟩ := K
  intro H locs ls hP hD hS hl
  have hF := reach (D_r hD) hS hA
  refine va_calli (va_runV (As := As) (rest := rest) ⟨hx, hb, hml, hown, hts⟩ (hC H.size) (cwV j hts hG hw rfl rfl hds hR.1) ⟨pre1_blind, va_recv hK (P_r hP) hc he, fun U hU hW => ⟨rfl, by rw [hU], by rw [hU]; exact P_r hP, va_K.moved hW.alike hK, (D_r hD).weaken (fun _ _ _ _ => trivial)⟩⟩ rfl hn hl.1 hst (lv_room hcat) hd hR.2) hS (fun q _ h => hF q h) hF (fun r u t H1 locs1 ht hvm hp hB hz1 hk1 hS1 => ?_)
  obtain ⟨hP1, hK1, hD1⟩ := hB
  rw [ht] at hP1
  obtain ⟨hP2, hD2⟩ := beside_r hP hD hk1 hF hP1 hD1
  exact kk r u hp H1 locs1 ls hP2 hD2 hS1 hl
set_option maxHeartbeats 4000000 in
theorem r_callW (K : OkE l R G cc nL Ts own D tys) {post : Int32 → T → Prop} {w' : T → va_W} {As rest : List Value} (hC : Li l y wsy rm D tys As w post w') (j : Nat) (hG : GoodIn Ts (va_wsS own index y wsy)) (hw : wsy = Cond.codeWith y bytes maxL ret hh :: wsy') (hds : okDescS y j) (hn : As.length = j) (hR : okRoom rm R maxL k n)
    (hst : st = As.reverse ++ rest) (hcat : (rest.map fun v => v.category).sum ≤ 8) (hd : decode cc pc = .ok (.invokestatic index, 3))
    (kk : ∀ r u, post r u → G (k + rm.cells) (n + rm.slots) (w' u ++ z) lv (pc + 3) (.int r :: rest)) : G k n (w ++ z) lv pc st := by
  obtain ⟨p, e, s, m, args, below, meth, c, Q, A, ⟨rfl, hx, hb, hml, hown, hts, hK, hA⟩, hSE, hNC⟩ := K
  intro H locs ls hP hD hS hl
  have hF := reach (D_l hD) hS hA
  refine va_calli (vx_runSW (As := As) (rest := rest) ⟨hx, hb, hml, hown, hts⟩ (hC H.size) (vx_cwSW j hts hG hw rfl rfl hds hR.1) ⟨pre2_blind, fun U hU hW => ⟨rfl, ⟨by rw [hU], by rw [hU]; exact P_l hP, va_K.moved hW.alike hK, (D_l hD).weaken (fun _ _ _ _ => trivial)⟩, hSE.move hW hU hS hF, hNC.warm hW⟩⟩ rfl hn hl.1 hst (lv_room hcat) hd hR.2) hS (fun q _ h => hF q h) hF (fun r u t H1 locs1 ht hvm hp hB hz1 hk1 hS1 => ?_)
  obtain ⟨hP1, hK1, hD1⟩ := hB
  rw [ht] at hP1
  obtain ⟨hP2, hD2⟩ := beside_l hP hD hk1 hF hP1 hD1
  exact kk r u hp H1 locs1 ls hP2 hD2 hS1 hl
theorem r_last0 (K : Ok l R G cc nL Ts own D tys) {ws ws' : va_W} {cA : ClassId} {a N : Nat} {x : Int64} {f : Nat → Int64} (q0 t0 : Nat) (ha : ws[q0]? = some (a, .inl (cA, N, .inr (.inl f)))) (ht : tys[t0]? = some (cA, .long)) (hN : 0 < N) (hd : decode cc pc = .ok (.lastore, 1)) (hset : ws.set q0 (a, .inl (cA, N, .inr (.inl (vp_updL f 0 x)))) = ws') (kk : G k n ws' lv (pc + 1) st) : G k n ws lv pc (.long x :: .int (nI 0) :: .ref a :: st) := by
  obtain ⟨p, e, s, m, args, below, meth, c, Q, A, H0, rfl, hx, hb, hml, hown, hts, hK, hA⟩ := K
  intro H locs ls hP hD hS hl
  refine va_last hx hb hK hP hD hS q0 t0 ha ht (fun q => q.elim (fun h => absurd h (by decide)) (fun h => absurd h (Nat.not_le.mpr hN))) hd (fun H1 locs1 hP1 hD1 hS1 => ?_)
  rw [show (nI 0).toNatClampNeg = 0 from rfl, hset] at hP1 hD1
  exact kk H1 locs1 ls hP1 hD1 hS1 hl
theorem r_lald0 (K : Ok l R G cc nL Ts own D tys) {ws : va_W} {cA : ClassId} {a N : Nat} {f : Nat → Int64} (q0 t0 : Nat) (ha : ws[q0]? = some (a, .inl (cA, N, .inr (.inl f)))) (ht : tys[t0]? = some (cA, .long)) (hN : 0 < N) (hd : decode cc pc = .ok (.laload, 1)) (kk : G k n ws lv (pc + 1) (.long (f 0) :: st)) : G k n ws lv pc (.int (nI 0) :: .ref a :: st) := by
  obtain ⟨p, e, s, m, args, below, meth, c, Q, A, H0, rfl, hx, hb, hml, hown, hts, hK, hA⟩ := K
  intro H locs ls hP hD hS hl
  refine va_lald hx hb hK hP q0 t0 ha ht (fun q => q.elim (fun h => absurd h (by decide)) (fun h => absurd h (Nat.not_le.mpr hN))) hd ?_
  rw [show (nI 0).toNatClampNeg = 0 from rfl]
  exact kk H locs ls hP hD hS hl
end CALLL
abbrev lo (o : Nat) (c : Nat → ClassId) (f : Nat → Int64) : va_W := [(o, .inl (c 3, 1, .inr (.inl f)))]
theorem updL0 {f : Nat → Int64} {x : Int64} : vp_updL f 0 x 0 = x := if_pos rfl
theorem thr_le1 (b : Bool) : thr b true true ≤ 1 := by cases b <;> decide
theorem thr_le2 (b b2 : Bool) : thr b b2 true ≤ 2 := by cases b <;> cases b2 <;> decide
theorem thr_le3 (b b2 b3 : Bool) : thr b b2 b3 ≤ 3 := by cases b <;> cases b2 <;> cases b3 <;> decide
end LAWF
