/-! Contracts over worlds: a method that returns (Ci, Cv), one that may throw (Xi, Xv); how they are opened and called. -/
section MYC
def At1 (D : va_G) (tys : List (ClassId × FieldType)) (A : Nat → Prop) (ws : va_W) (t : State) : Prop := va_P D vwCl ws t.heap ∧ va_K D vwCl tys t ∧ va_D A ws
def Pre1 (D : va_G) (tys : List (ClassId × FieldType)) (w : va_W) (av : List Value) (sz : Nat) : Array Value → State → Prop := va_Pc av (fun U => U.heap.size = sz ∧ At1 D tys (fun _ => True) w U)
theorem pre1_blind {D : va_G} {tys : List (ClassId × FieldType)} {w : va_W} {av : List Value} {sz : Nat} : FrameBlind (Pre1 D tys w av sz) := fun a U g mk q => by
  obtain ⟨q0, q1, qP, qK, qD⟩ := q
  exact ⟨q0, q1, qP, va_K.moved (u := U) (U := U.calling g mk a) (Vm.Alike.refl U.vm) qK, qD⟩
def Ci (l : Launch) (y : MethodName) (wsy : List Cond) (rm : Room) (D : va_G) (tys : List (ClassId × FieldType)) (av : List Value) (w : va_W) {T : Type} (post : Int32 → T → Prop) (w' : T → va_W) : Prop :=
  ∀ sz, Met l y wsy rm (Pre1 D tys w av sz) (va_Qi post (fun u t => At1 D tys (va_A w sz) (w' u) t) (va_A w sz)) rm.cells rm.slots (va_A w sz)
def Cv (l : Launch) (y : MethodName) (wsy : List Cond) (rm : Room) (D : va_G) (tys : List (ClassId × FieldType)) (av : List Value) (w : va_W) {T : Type} (post : T → Prop) (w' : T → va_W) : Prop :=
  ∀ sz, Met l y wsy rm (Pre1 D tys w av sz) (va_Qv post (fun u t => At1 D tys (va_A w sz) (w' u) t) (va_A w sz)) rm.cells rm.slots (va_A w sz)
section OPEN
variable {l : Launch} {y : MethodName} {wsy wsy' : List Cond} {rm : Room} {D : va_G} {tys : List (ClassId × FieldType)} {av : List Value} {w : va_W} {T : Type} {cc : ByteArray} {maxL : Nat}
theorem entry_has (hlen : (lg_sl av).length ≤ maxL) {lv0 : List (Nat × Value)} (hlv : lv_args 0 av = lv0) : lv_has ((lg_sl av ++ List.replicate (maxL - (lg_sl av).length) Slot.unset).toArray) maxL lv0 := by
  rw [← hlv]
  exact lv_entry av hlen
set_option maxHeartbeats 4000000 in
theorem Ci.of {post : Int32 → T → Prop} {w' : T → va_W} (hy : plainName y.cls = true) (hw : wsy = Cond.code y cc maxL (some .int) :: wsy') (hlen : (lg_sl av).length ≤ maxL) {lv0 : List (Nat × Value)} (hlv : lv_args 0 av = lv0)
    (body : ∀ G : Gt, Ok l rm G cc maxL wsy y.cls D tys → (∀ k n ws lv pc v u, decode cc pc = .ok (.ireturn, 1) → post v u → ws = w' u → k ≤ rm.cells → n ≤ rm.slots → G k n ws lv pc [.int v]) → G 0 0 w lv0 0 []) : Ci l y wsy rm D tys av w post w' := by
  intro sz
  refine Met.ofW (cc := cc) (maxL := maxL) (ret := (some .int)) hy hw ?_
  intro p e s m args below meth c s₁ B hml hv
  obtain ⟨rfl, hsz, hP, hK, hD0⟩ := hv
  have hx := B.exec
  have hb := B.bytes
  have hr := B.returns
  have hts := atoms_spec (ws := wsy) B.pre
  have hown : s.vm.findClass y.cls = some m.cls := findClass_of_methodNamed B.named
  have hlocks := B.notSynchronized
  subst hsz
  have hD := hD0.self (sz := s.heap.size)
  have hA : ∀ q : Nat, s.heap.size ≤ q → va_A w s.heap.size q := fun q h => Or.inr h
  rw [lg_entry_eq]
  refine body _ ⟨p, e, s, m, av.toArray, below, meth, c, _, va_A w s.heap.size, s.heap, rfl, hx, hb, hml, hown, hts, hK, hA⟩ ?_ s.heap [] _ hP hD va_S.rf (entry_has hlen hlv)
  intro k n ws lv pc v u hd hp hwu hk hn H locs ls hP hD hS hl
  refine W.widen hk hn ?_
  rw [hwu] at hP hD
  exact W.iret (v := v) hx hb hr (fun t ht hW => ⟨⟨v, u, rfl, hp, by rw [ht]; exact hP, va_K.moved hW.alike hK, hD⟩, hS.F ht⟩) hS.2.2 hd
set_option maxHeartbeats 4000000 in
theorem Ci.ofZ {post : Int32 → T → Prop} {w' : T → va_W} (hy : plainName y.cls = true) (hw : wsy = Cond.code y cc maxL (some .boolean) :: wsy') (hlen : (lg_sl av).length ≤ maxL) {lv0 : List (Nat × Value)} (hlv : lv_args 0 av = lv0)
    (body : ∀ G : Gt, Ok l rm G cc maxL wsy y.cls D tys → (∀ k n ws lv pc (b : Nat) u, decode cc pc = .ok (.ireturn, 1) → b < 2 → post (nI b) u → ws = w' u → k ≤ rm.cells → n ≤ rm.slots → G k n ws lv pc [.int (nI b)]) → G 0 0 w lv0 0 []) : Ci l y wsy rm D tys av w post w' := by
  intro sz
  refine Met.ofW (cc := cc) (maxL := maxL) (ret := (some .boolean)) hy hw ?_
  intro p e s m args below meth c s₁ B hml hv
  obtain ⟨rfl, hsz, hP, hK, hD0⟩ := hv
  have hx := B.exec
  have hb := B.bytes
  have hr := B.returns
  have hts := atoms_spec (ws := wsy) B.pre
  have hown : s.vm.findClass y.cls = some m.cls := findClass_of_methodNamed B.named
  have hlocks := B.notSynchronized
  subst hsz
  have hD := hD0.self (sz := s.heap.size)
  have hA : ∀ q : Nat, s.heap.size ≤ q → va_A w s.heap.size q := fun q h => Or.inr h
  rw [lg_entry_eq]
  refine body _ ⟨p, e, s, m, av.toArray, below, meth, c, _, va_A w s.heap.size, s.heap, rfl, hx, hb, hml, hown, hts, hK, hA⟩ ?_ s.heap [] _ hP hD va_S.rf (entry_has hlen hlv)
  intro k n ws lv pc b u hd hb2 hp hwu hk hn H locs ls hP hD hS hl
  refine W.widen hk hn ?_
  rw [hwu] at hP hD
  have hnar : narrow .boolean (.int (nI b)) = .int (nI b) := by
    rcases (show b = 0 ∨ b = 1 by omega) with rfl | rfl <;> rfl
  exact W.zret (v := nI b) hx hb hr hnar (fun t ht hW => ⟨⟨nI b, u, rfl, hp, by rw [ht]; exact hP, va_K.moved hW.alike hK, hD⟩, hS.F ht⟩) hS.2.2 hd
set_option maxHeartbeats 4000000 in
theorem Cv.of {post : T → Prop} {w' : T → va_W} (hy : plainName y.cls = true) (hw : wsy = Cond.code y cc maxL none :: wsy') (hlen : (lg_sl av).length ≤ maxL) {lv0 : List (Nat × Value)} (hlv : lv_args 0 av = lv0)
    (body : ∀ G : Gt, Ok l rm G cc maxL wsy y.cls D tys → (∀ k n ws lv pc u, decode cc pc = .ok (.return_, 1) → post u → ws = w' u → k ≤ rm.cells → n ≤ rm.slots → G k n ws lv pc []) → G 0 0 w lv0 0 []) : Cv l y wsy rm D tys av w post w' := by
  intro sz
  refine Met.ofW (cc := cc) (maxL := maxL) (ret := none) hy hw ?_
  intro p e s m args below meth c s₁ B hml hv
  obtain ⟨rfl, hsz, hP, hK, hD0⟩ := hv
  have hx := B.exec
  have hb := B.bytes
  have hr := B.returns
  have hts := atoms_spec (ws := wsy) B.pre
  have hown : s.vm.findClass y.cls = some m.cls := findClass_of_methodNamed B.named
  have hlocks := B.notSynchronized
  subst hsz
  have hD := hD0.self (sz := s.heap.size)
  have hA : ∀ q : Nat, s.heap.size ≤ q → va_A w s.heap.size q := fun q h => Or.inr h
  rw [lg_entry_eq]
  refine body _ ⟨p, e, s, m, av.toArray, below, meth, c, _, va_A w s.heap.size, s.heap, rfl, hx, hb, hml, hown, hts, hK, hA⟩ ?_ s.heap [] _ hP hD va_S.rf (entry_has hlen hlv)
  intro k n ws lv pc u hd hp hwu hk hn H locs ls hP hD hS hl
  refine W.widen hk hn ?_
  rw [hwu] at hP hD
  exact W.vret hx hb hr (fun t ht hW => ⟨⟨u, rfl, hp, by rw [ht]; exact hP, va_K.moved hW.alike hK, hD⟩, hS.F ht⟩) hS.2.2 hd
end OPEN
theorem reach {A : Nat → Prop} {w : va_W} {H0 H : Heap} {locs : List Loc} (hD : va_D A w) (hS : va_S A H0 H locs) (hA : ∀ q, H0.size ≤ q → A q) : ∀ q, va_A w H.size q → A q := by
  intro q hq
  rcases hq with ⟨k, e, h⟩ | h
  · exact hD.2 k _ h
  · exact hA q (Nat.le_trans hS.1 h)
section CALL
variable {l : Launch} {R : Room} {G : Gt} {cc : ByteArray} {nL : Nat} {Ts : List Cond} {own : String} {D : va_G} {tys : List (ClassId × FieldType)} {k n : Nat} {lv : List (Nat × Value)} {pc : Nat} {st : List Value}
variable {y : MethodName} {wsy wsy' : List Cond} {rm : Room} {w : va_W} {T : Type} {bytes : ByteArray} {maxL index : Nat} {ret : Option FieldType}
abbrev okDesc (y : MethodName) (C : String) (j : Nat) : Prop := y.cls = C ∧ y.cls ≠ "java/lang/invoke/MethodHandle" ∧ y.cls ≠ "java/lang/invoke/VarHandle" ∧ (parseMethodDescriptor y.desc).map (fun d => d.parameters.length) = some j
abbrev okDescS (y : MethodName) (j : Nat) : Prop := y.cls ≠ "java/lang/invoke/MethodHandle" ∧ y.cls ≠ "java/lang/invoke/VarHandle" ∧ (parseMethodDescriptor y.desc).map (fun d => d.parameters.length) = some j
abbrev okRoom (rm R : Room) (maxL k n : Nat) : Prop := (rm.frames + 1 ≤ R.frames ∧ 8 + (maxL + 11) + rm.locals ≤ R.locals) ∧ k + rm.cells ≤ R.cells ∧ n + rm.slots ≤ R.slots
set_option maxHeartbeats 4000000 in
theorem r_callV (K : Ok l R G cc nL Ts own D tys) {post : Int32 → T → Prop} {w' : T → va_W} {C : String} {F : u_T} {N ci b : Nat} {fs As rest : List Value} (hC : Ci l y wsy rm D tys (.ref b :: As) w post w') (j : Nat) (hG : GoodIn Ts (wsV own index C y wsy)) (hw : wsy = Cond.code y bytes maxL ret :: wsy') (hds : okDesc y C j) (hn : As.length = j) (hR : okRoom rm R maxL k n)
    (q0 : Nat) (he : w[q0]? = some (b, .inr (ci, fs))) (hc : vwCl[ci]? = some (C, F, N)) (hst : st = As.reverse ++ .ref b :: rest) (hcat : (rest.map fun v => v.category).sum ≤ 8) (hd : decode cc pc = .ok (.invokevirtual index, 3))
    (kk : ∀ r u, post r u → G (k + rm.cells) (n + rm.slots) (w' u) lv (pc + 3) (.int r :: rest)) : G k n w lv pc st := by
  obtain ⟨p, e, s, m, args, below, meth, c, Q, A, H0, rfl, hx, hb, hml, hown, hts, hK, hA⟩ := K
  intro H locs ls hP hD hS hl
  have hF := reach hD hS hA
  refine va_calli (va_runV (As := As) (rest := rest) ⟨hx, hb, hml, hown, hts⟩ (hC H.size) (cwV j hts hG hw rfl rfl hds hR.1) ⟨pre1_blind, va_recv hK hP hc he, fun U hU hW => ⟨rfl, by rw [hU], by rw [hU]; exact hP, va_K.moved hW.alike hK, hD.weaken (fun _ _ _ _ => trivial)⟩⟩ rfl hn hl.1 hst (lv_room hcat) hd hR.2) hS (fun q _ h => hF q h) hF (fun r u t H1 locs1 ht hvm hp hB hz1 hk1 hS1 => ?_)
  obtain ⟨hP1, hK1, hD1⟩ := hB
  rw [ht] at hP1
  exact kk r u hp H1 locs1 ls hP1 (hD1.weaken fun _ q _ h => hF q.1 h) hS1 hl
set_option maxHeartbeats 4000000 in
theorem r_callVv (K : Ok l R G cc nL Ts own D tys) {post : T → Prop} {w' : T → va_W} {C : String} {F : u_T} {N ci b : Nat} {fs As rest : List Value} (hC : Cv l y wsy rm D tys (.ref b :: As) w post w') (j : Nat) (hG : GoodIn Ts (wsV own index C y wsy)) (hw : wsy = Cond.code y bytes maxL ret :: wsy') (hds : okDesc y C j) (hn : As.length = j) (hR : okRoom rm R maxL k n)
    (q0 : Nat) (he : w[q0]? = some (b, .inr (ci, fs))) (hc : vwCl[ci]? = some (C, F, N)) (hst : st = As.reverse ++ .ref b :: rest) (hcat : (rest.map fun v => v.category).sum ≤ 8) (hd : decode cc pc = .ok (.invokevirtual index, 3))
    (kk : ∀ u, post u → G (k + rm.cells) (n + rm.slots) (w' u) lv (pc + 3) rest) : G k n w lv pc st := by
  obtain ⟨p, e, s, m, args, below, meth, c, Q, A, H0, rfl, hx, hb, hml, hown, hts, hK, hA⟩ := K
  intro H locs ls hP hD hS hl
  have hF := reach hD hS hA
  refine va_callv (va_runV (As := As) (rest := rest) ⟨hx, hb, hml, hown, hts⟩ (hC H.size) (cwV j hts hG hw rfl rfl hds hR.1) ⟨pre1_blind, va_recv hK hP hc he, fun U hU hW => ⟨rfl, by rw [hU], by rw [hU]; exact hP, va_K.moved hW.alike hK, hD.weaken (fun _ _ _ _ => trivial)⟩⟩ rfl hn hl.1 hst (lv_room hcat) hd hR.2) hS (fun q _ h => hF q h) hF (fun u t H1 locs1 ht hvm hp hB hz1 hk1 hS1 => ?_)
  obtain ⟨hP1, hK1, hD1⟩ := hB
  rw [ht] at hP1
  exact kk u hp H1 locs1 ls hP1 (hD1.weaken fun _ q _ h => hF q.1 h) hS1 hl
set_option maxHeartbeats 4000000 in
theorem r_callS (K : Ok l R G cc nL Ts own D tys) {post : Int32 → T → Prop} {w' : T → va_W} {As rest : List Value} (hC : Ci l y wsy rm D tys As w post w') (j : Nat) (hG : GoodIn Ts (va_wsS own index y wsy)) (hw : wsy = Cond.code y bytes maxL ret :: wsy') (hds : okDescS y j) (hn : As.length = j) (hR : okRoom rm R maxL k n)
    (hst : st = As.reverse ++ rest) (hcat : (rest.map fun v => v.category).sum ≤ 8) (hd : decode cc pc = .ok (.invokestatic index, 3))
    (kk : ∀ r u, post r u → G (k + rm.cells) (n + rm.slots) (w' u) lv (pc + 3) (.int r :: rest)) : G k n w lv pc st := by
  obtain ⟨p, e, s, m, args, below, meth, c, Q, A, H0, rfl, hx, hb, hml, hown, hts, hK, hA⟩ := K
  intro H locs ls hP hD hS hl
  have hF := reach hD hS hA
  refine va_calli (va_runS (As := As) (rest := rest) ⟨hx, hb, hml, hown, hts⟩ (hC H.size) (va_cwS j hts hG hw rfl rfl hds hR.1) ⟨pre1_blind, fun U hU hW => ⟨rfl, by rw [hU], by rw [hU]; exact hP, va_K.moved hW.alike hK, hD.weaken (fun _ _ _ _ => trivial)⟩⟩ rfl hn hl.1 hst (lv_room hcat) hd hR.2) hS (fun q _ h => hF q h) hF (fun r u t H1 locs1 ht hvm hp hB hz1 hk1 hS1 => ?_)
  obtain ⟨hP1, hK1, hD1⟩ := hB
  rw [ht] at hP1
  exact kk r u hp H1 locs1 ls hP1 (hD1.weaken fun _ q _ h => hF q.1 h) hS1 hl
end CALL
end MYC
