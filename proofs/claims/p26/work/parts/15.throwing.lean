/-! Methods that may throw: what they ask of the start, how they are opened, called, left by an exception. -/
section MYX
def hStrs : List (Nat × String) := [(92, "all cards were printed"), (105, "all decks were made"), (124, "the owner does not have the card"), (131, "the card is in the deck"), (136, "the deck is full"), (152, "both decks have the same owner"), (173, "the card is of the kind that is wanted"), (179, "an open offer has the card"), (182, "all offers were made"), (193, "the offer is not open"), (227, "too many orders to go through"), (238, "no such place"), (241, "no such kind"), (243, "no such collector"), (245, "no such card"), (247, "no such deck"), (249, "the deck has not so many cards"), (251, "no such offer"), (253, "out of range"), (255, "the seed is out of range"), (257, "the deck is not allowed")]
abbrev nmRE : List String := ["java/lang/RuntimeException", "java/lang/Exception"]
abbrev eIOB : String := "java/lang/IndexOutOfBoundsException"
abbrev eIAE : String := "java/lang/IllegalArgumentException"
abbrev eISE : String := "java/lang/IllegalStateException"
def isNg : Cond → Bool
  | .superclass .. => true
  | .declares .. => true
  | .castable .. => true
  | _ => false
def hNg : List Cond := ((vx_atS RX6 240 eIOB nmRE ++ vx_atS RX6 126 eIAE nmRE ++ vx_atS RX6 94 eISE nmRE).filter (fun w => !goodWord w))
theorem hNg_ng : ∀ w ∈ hNg, isNg w = true := by decide +kernel
theorem superclass_alike {a b : String} {s U : State} (hv : s.vm.Alike U.vm) (h : va_Nw (.superclass a b) s) : va_Nw (.superclass a b) U := by
  unfold va_Nw at h ⊢
  have h0 : (Cond.superclass a b).holds #[] s none s [] = true := h
  cases hc : s.vm.findClass a with
  | none => simp [Cond.holds, Cond.value, hc] at h0
  | some c =>
    obtain ⟨p, k, kp, hp, hk, hkp, h1, h2, h3, h4⟩ := Cond.superclass_spec hc h0
    obtain ⟨k', hk', ek⟩ := hv.2.2 _ _ hk
    obtain ⟨kp', hkp', ekp⟩ := hv.2.2 _ _ hkp
    have f1 : U.vm.findClass a = some c := by rw [hv.findClass]; exact hc
    have f2 : U.vm.findClass b = some p := by rw [hv.findClass]; exact hp
    have g1 : k'.super = some p := by rw [ek]; exact h1
    have g2 : k'.kind = .ordinary := by rw [ek]; exact h2
    have g3 : kp'.kind = .ordinary := by rw [ekp]; exact h3
    have g4 : k'.isInterface = false := by rw [ek]; exact h4
    show (Cond.superclass a b).holds #[] U none U [] = true
    simp [Cond.holds, Cond.value, f1, f2, hk', hkp', g1, g2, g3, g4]
theorem ng_warm {w : Cond} (hw : isNg w = true) {s U : State} (hW : s.WarmedH U.vm) (h : va_Nw w s) : va_Nw w U := by
  cases w <;> first | exact va_Nw.warmD hW h | exact va_Nw.warmC hW h | exact superclass_alike hW.alike h | exact absurd hw (by decide) | (simp [isNg] at hw)
theorem ng_tabs {w : Cond} (hw : isNg w = true) : w.onTables = true := by
  cases w <;> first | rfl | (simp [isNg] at hw)
/-- what a throw needs: the texts, the two statics of Throwable, words of the tables -/
def SE (A : Nat → Prop) (U : State) : Prop := (∀ q ∈ hStrs, ∃ sa, vk_R RX6 q.1 q.2 sa U) ∧ vx_Zq Bundle.tN "UNASSIGNED_STACK" Bundle.steD A U U.heap ∧ vx_Zq Bundle.tN "SUPPRESSED_SENTINEL" Bundle.listD A U U.heap ∧ ∀ w ∈ hNg, va_Nw w U
theorem SE.move {A A1 : Nat → Prop} {s U : State} {H : Heap} {locs : List Loc} (h : SE A s) (hW : s.WarmedH U.vm) (hU : U.heap = H) (hS : va_S A s.heap H locs) (hA : ∀ q, A1 q → A q) : SE A1 U := by
  obtain ⟨h1, h2, h3, h4⟩ := h
  have hk : ∀ a : Nat, a < s.heap.size → ¬ A a → U.heap[a]? = s.heap[a]? := fun a ha hn => by rw [hU]; exact hS.2.1 a ha hn
  refine ⟨fun q hq => ?_, ?_, ?_, fun w hw => ng_warm (hNg_ng w hw) hW (h4 w hw)⟩
  · obtain ⟨sa, hs⟩ := h1 q hq
    exact ⟨sa, hs.warm hW⟩
  · exact ((h2.moved hW.alike).kept hk).narrow hA
  · exact ((h3.moved hW.alike).kept hk).narrow hA
theorem SE.blind {A : Nat → Prop} {u U : State} (h : SE A u) (hv : u.vm = U.vm) (hh : U.heap = u.heap) : SE A U := by
  obtain ⟨h1, h2, h3, h4⟩ := h
  have hal : u.vm.Alike U.vm := by rw [← hv]; exact Vm.Alike.refl _
  refine ⟨fun q hq => ?_, ?_, ?_, fun w hw => va_Nw.same (ng_tabs (hNg_ng w hw)) hv (h4 w hw)⟩
  · obtain ⟨sa, hs⟩ := h1 q hq
    exact ⟨sa, hs.same hv.symm⟩
  · rw [hh]; exact h2.moved hal
  · rw [hh]; exact h3.moved hal
def PreX (D : va_G) (tys : List (ClassId × FieldType)) (w : va_W) (av : List Value) (sz : Nat) : Array Value → State → Prop := va_Pc av (fun U => (U.heap.size = sz ∧ At1 D tys (fun _ => True) w U) ∧ SE (va_A w sz) U)
theorem prex_blind {D : va_G} {tys : List (ClassId × FieldType)} {w : va_W} {av : List Value} {sz : Nat} : FrameBlind (PreX D tys w av sz) := fun a U g mk q => by
  obtain ⟨q0, ⟨q1, qP, qK, qD⟩, qS⟩ := q
  exact ⟨q0, ⟨q1, qP, va_K.moved (u := U) (U := U.calling g mk a) (Vm.Alike.refl U.vm) qK, qD⟩, qS.blind rfl rfl⟩
/-- the world that an exception leaves: the one at the start -/
abbrev xEnd (D : va_G) (tys : List (ClassId × FieldType)) (A : Nat → Prop) (w0 : va_W) (px : String → Prop) : String → State → State → Prop := vx_X (fun _ : Unit => True) (fun E _ t => px E ∧ At1 D tys A w0 t) A
def Xi (l : Launch) (y : MethodName) (wsy : List Cond) (rm : Room) (D : va_G) (tys : List (ClassId × FieldType)) (av : List Value) (w : va_W) (px : String → Prop) {T : Type} (post : Int32 → T → Prop) (w' : T → va_W) : Prop :=
  ∀ sz, vx_Met l y wsy rm (PreX D tys w av sz) (va_Qi post (fun u t => At1 D tys (va_A w sz) (w' u) t) (va_A w sz)) (xEnd D tys (va_A w sz) w px) rm.cells rm.slots (va_A w sz)
def Xv (l : Launch) (y : MethodName) (wsy : List Cond) (rm : Room) (D : va_G) (tys : List (ClassId × FieldType)) (av : List Value) (w : va_W) (px : String → Prop) {T : Type} (post : T → Prop) (w' : T → va_W) : Prop :=
  ∀ sz, vx_Met l y wsy rm (PreX D tys w av sz) (va_Qv post (fun u t => At1 D tys (va_A w sz) (w' u) t) (va_A w sz)) (xEnd D tys (va_A w sz) w px) rm.cells rm.slots (va_A w sz)
def OkX (l : Launch) (R : Room) (G : Gt) (cc : ByteArray) (nL : Nat) (Ts : List Cond) (own : String) (D : va_G) (tys : List (ClassId × FieldType)) (w0 : va_W) (px : String → Prop) (mc ms : Nat) : Prop :=
  ∃ (p : Program) (e : Env) (s : State) (m : MethodId) (args : Array Value) (below : List Frame) (meth : Method) (c : Code) (Qc : Array Value → State → Outcome → State → Prop) (A : Nat → Prop),
    Fx p l e R s m args below meth c (vx_MQ below Qc (xEnd D tys A w0 px) args s mc ms A) A s.heap G cc nL Ts own D tys ∧ l.stackTraces = false ∧ meth.locks = false ∧ (∀ x ∈ c.exceptionTable.toList, False) ∧ SE A s
theorem OkX.ok {l : Launch} {R : Room} {G : Gt} {cc : ByteArray} {nL : Nat} {Ts : List Cond} {own : String} {D : va_G} {tys : List (ClassId × FieldType)} {w0 : va_W} {px : String → Prop} {mc ms : Nat} (K : OkX l R G cc nL Ts own D tys w0 px mc ms) : Ok l R G cc nL Ts own D tys := by
  obtain ⟨p, e, s, m, args, below, meth, c, Qc, A, hF, -, -, -, -⟩ := K
  exact ⟨p, e, s, m, args, below, meth, c, _, A, s.heap, hF⟩
section OPENX
variable {l : Launch} {y : MethodName} {wsy wsy' : List Cond} {rm : Room} {D : va_G} {tys : List (ClassId × FieldType)} {av : List Value} {w : va_W} {T : Type} {cc : ByteArray} {maxL : Nat} {px : String → Prop}
set_option maxHeartbeats 4000000 in
theorem Xi.of {post : Int32 → T → Prop} {w' : T → va_W} (hl0 : l.stackTraces = false) (hy : plainName y.cls = true) (hw : wsy = Cond.code y cc maxL (some .int) :: wsy') (hlen : (lg_sl av).length ≤ maxL) {lv0 : List (Nat × Value)} (hlv : lv_args 0 av = lv0)
    (body : ∀ G : Gt, OkX l rm G cc maxL wsy y.cls D tys w px rm.cells rm.slots → (∀ k n ws lv pc v u, decode cc pc = .ok (.ireturn, 1) → post v u → ws = w' u → k ≤ rm.cells → n ≤ rm.slots → G k n ws lv pc [.int v]) → G 0 0 w lv0 0 []) : Xi l y wsy rm D tys av w px post w' := by
  intro sz
  refine vx_ofW (cc := cc) (maxL := maxL) (ret := (some .int)) hy hw ?_
  intro p e s m args below meth c s₁ B hml hnt hv
  obtain ⟨rfl, ⟨hsz, hP, hK, hD0⟩, hSE⟩ := hv
  have hx := B.exec
  have hb := B.bytes
  have hr := B.returns
  have hts := atoms_spec (ws := wsy) B.pre
  have hown : s.vm.findClass y.cls = some m.cls := findClass_of_methodNamed B.named
  have hlocks := B.notSynchronized
  subst hsz
  have hD := hD0.self (sz := s.heap.size)
  have hA : ∀ q : Nat, s.heap.size ≤ q → va_A w s.heap.size q := fun q h => Or.inr h
  rw [lg_entry_eq]
  refine body _ ⟨p, e, s, m, av.toArray, below, meth, c, _, va_A w s.heap.size, ⟨rfl, hx, hb, hml, hown, hts, hK, hA⟩, hl0, hlocks, hnt, hSE⟩ ?_ s.heap [] _ hP hD va_S.rf (entry_has hlen hlv)
  intro k n ws lv pc v u hd hp hwu hk hn H locs ls hP hD hS hl
  refine W.widen hk hn (vx_ret ?_)
  rw [hwu] at hP hD
  exact W.iret (v := v) hx hb hr (fun t ht hW => ⟨⟨v, u, rfl, hp, by rw [ht]; exact hP, va_K.moved hW.alike hK, hD⟩, hS.F ht⟩) hS.2.2 hd
set_option maxHeartbeats 4000000 in
theorem Xi.ofZ {post : Int32 → T → Prop} {w' : T → va_W} (hl0 : l.stackTraces = false) (hy : plainName y.cls = true) (hw : wsy = Cond.code y cc maxL (some .boolean) :: wsy') (hlen : (lg_sl av).length ≤ maxL) {lv0 : List (Nat × Value)} (hlv : lv_args 0 av = lv0)
    (body : ∀ G : Gt, OkX l rm G cc maxL wsy y.cls D tys w px rm.cells rm.slots → (∀ k n ws lv pc (b : Nat) u, decode cc pc = .ok (.ireturn, 1) → b < 2 → post (nI b) u → ws = w' u → k ≤ rm.cells → n ≤ rm.slots → G k n ws lv pc [.int (nI b)]) → G 0 0 w lv0 0 []) : Xi l y wsy rm D tys av w px post w' := by
  intro sz
  refine vx_ofW (cc := cc) (maxL := maxL) (ret := (some .boolean)) hy hw ?_
  intro p e s m args below meth c s₁ B hml hnt hv
  obtain ⟨rfl, ⟨hsz, hP, hK, hD0⟩, hSE⟩ := hv
  have hx := B.exec
  have hb := B.bytes
  have hr := B.returns
  have hts := atoms_spec (ws := wsy) B.pre
  have hown : s.vm.findClass y.cls = some m.cls := findClass_of_methodNamed B.named
  have hlocks := B.notSynchronized
  subst hsz
  have hD := hD0.self (sz := s.heap.size)
  have hA : ∀ q : Nat, s.heap.size ≤ q → va_A w s.heap.size q := fun q h => Or.inr h
  rw [lg_entry_eq]
  refine body _ ⟨p, e, s, m, av.toArray, below, meth, c, _, va_A w s.heap.size, ⟨rfl, hx, hb, hml, hown, hts, hK, hA⟩, hl0, hlocks, hnt, hSE⟩ ?_ s.heap [] _ hP hD va_S.rf (entry_has hlen hlv)
  intro k n ws lv pc b u hd hb2 hp hwu hk hn H locs ls hP hD hS hl
  refine W.widen hk hn (vx_ret ?_)
  rw [hwu] at hP hD
  have hnar : narrow .boolean (.int (nI b)) = .int (nI b) := by
    rcases (show b = 0 ∨ b = 1 by omega) with rfl | rfl <;> rfl
  exact W.zret (v := nI b) hx hb hr hnar (fun t ht hW => ⟨⟨nI b, u, rfl, hp, by rw [ht]; exact hP, va_K.moved hW.alike hK, hD⟩, hS.F ht⟩) hS.2.2 hd
set_option maxHeartbeats 4000000 in
theorem Xv.of {post : T → Prop} {w' : T → va_W} (hl0 : l.stackTraces = false) (hy : plainName y.cls = true) (hw : wsy = Cond.code y cc maxL none :: wsy') (hlen : (lg_sl av).length ≤ maxL) {lv0 : List (Nat × Value)} (hlv : lv_args 0 av = lv0)
    (body : ∀ G : Gt, OkX l rm G cc maxL wsy y.cls D tys w px rm.cells rm.slots → (∀ k n ws lv pc u, decode cc pc = .ok (.return_, 1) → post u → ws = w' u → k ≤ rm.cells → n ≤ rm.slots → G k n ws lv pc []) → G 0 0 w lv0 0 []) : Xv l y wsy rm D tys av w px post w' := by
  intro sz
  refine vx_ofW (cc := cc) (maxL := maxL) (ret := none) hy hw ?_
  intro p e s m args below meth c s₁ B hml hnt hv
  obtain ⟨rfl, ⟨hsz, hP, hK, hD0⟩, hSE⟩ := hv
  have hx := B.exec
  have hb := B.bytes
  have hr := B.returns
  have hts := atoms_spec (ws := wsy) B.pre
  have hown : s.vm.findClass y.cls = some m.cls := findClass_of_methodNamed B.named
  have hlocks := B.notSynchronized
  subst hsz
  have hD := hD0.self (sz := s.heap.size)
  have hA : ∀ q : Nat, s.heap.size ≤ q → va_A w s.heap.size q := fun q h => Or.inr h
  rw [lg_entry_eq]
  refine body _ ⟨p, e, s, m, av.toArray, below, meth, c, _, va_A w s.heap.size, ⟨rfl, hx, hb, hml, hown, hts, hK, hA⟩, hl0, hlocks, hnt, hSE⟩ ?_ s.heap [] _ hP hD va_S.rf (entry_has hlen hlv)
  intro k n ws lv pc u hd hp hwu hk hn H locs ls hP hD hS hl
  refine W.widen hk hn (vx_ret ?_)
  rw [hwu] at hP hD
  exact W.vret hx hb hr (fun t ht hW => ⟨⟨u, rfl, hp, by rw [ht]; exact hP, va_K.moved hW.alike hK, hD⟩, hS.F ht⟩) hS.2.2 hd
end OPENX
section RX
variable {l : Launch} {R : Room} {G : Gt} {cc : ByteArray} {nL : Nat} {Ts : List Cond} {own : String} {D : va_G} {tys : List (ClassId × FieldType)} {k n : Nat} {lv : List (Nat × Value)} {pc : Nat} {st : List Value} {w0 : va_W} {px : String → Prop} {mc ms : Nat}
set_option maxHeartbeats 4000000 in
theorem r_throw (K : OkX l R G cc nL Ts RX6 D tys w0 px mc ms) {cls text : String} {ik is ic : Nat} (hcls : Bundle.fit cls = true) (hk : Cond.classLink RX6 ik cls ∈ Ts) (hini : Cond.initialized cls ∈ Ts) (hstr : (is, text) ∈ hStrs)
    (hat : ∀ w ∈ (vx_atS RX6 ic cls nmRE).filter goodWord, w ∈ Ts) (hng : ∀ w ∈ (vx_atS RX6 ic cls nmRE).filter (fun w => !goodWord w), w ∈ hNg) (hgood : ∀ w ∈ Cond.classLink RX6 ik cls :: Cond.initialized cls :: vx_atS RX6 ic cls nmRE, vx_ot w = true)
    (d0 : decode cc pc = .ok (.new ik, 3)) (d3 : decode cc (pc + 3) = .ok (.dup, 1)) (d4 : decode cc (pc + 4) = .ok (.ldc is, 2)) (d6 : decode cc (pc + 6) = .ok (.invokespecial ic, 3)) (d9 : decode cc (pc + 9) = .ok (.athrow, 1))
    (hR : 5 < R.frames ∧ 82 ≤ R.locals ∧ k + 1 ≤ R.cells ∧ n + 6 ≤ R.slots ∧ k + 1 ≤ mc ∧ n + 6 ≤ ms) (hp : px cls) : G k n w0 lv pc [] := by
  obtain ⟨p, e, s, m, args, below, meth, c, Qc, A, ⟨rfl, hx, hb, hml, hown, hts, hK, hA⟩, hl0, hlocks, hnt, hSE⟩ := K
  obtain ⟨s1, s2, s3, s4⟩ := hSE
  obtain ⟨sa, hsa⟩ := s1 _ hstr
  intro H locs ls hP hD hS hl
  have hnames : ∀ n ∈ nmRE, Bundle.fit n = true := by decide +kernel
  refine vx_throwS (A := A) hx hb hl0 hown hcls hnames (hts _ hk) (hts _ hini) hsa (vx_hat (B := hNg) (fun w hw => hts w (hat w hw)) hng (fun w hw => va_Nw.use (ng_tabs (hNg_ng w hw)) (s4 w hw))) hgood s2 s3 hS (hl.1.trans hml.symm) d0 d3 d4 d6 d9 (fun x hx9 => (hnt x hx9).elim) (by show 2 + 3 < R.frames; omega) (by show (([] : List Value).map fun v => v.category).sum + (13 * (2 + 1) + 43) ≤ R.locals; simp; omega) hR.2.2.1 hR.2.2.2.1 hlocks ?_ hS.2.2 hR.2.2.2.2.1 hR.2.2.2.2.2
  intro t hal hsz hk9
  refine ⟨(), trivial, ⟨hp, hP.kept (fun j q hq => hk9 q.1 (hP j q hq).lt), va_K.moved hal hK, hD⟩, Nat.le_trans hS.1 hsz, fun q hq hnA => (hk9 q (Nat.lt_of_lt_of_le hq hS.1)).trans (hS.2.1 q hq hnA)⟩
variable {y : MethodName} {wsy wsy' : List Cond} {rm : Room} {T : Type} {bytes : ByteArray} {maxL index : Nat} {ret : Option FieldType} {px1 : String → Prop}
set_option maxHeartbeats 4000000 in
theorem x_left (K : OkX l R G cc nL Ts own D tys w0 px mc ms) : True := trivial
set_option maxHeartbeats 4000000 in
theorem r_xcallVv (K : OkX l R G cc nL Ts own D tys w0 px mc ms) {post : T → Prop} {w' : T → va_W} {C : String} {F : u_T} {N ci b : Nat} {fs As rest : List Value} (hC : Xv l y wsy rm D tys (.ref b :: As) w0 px1 post w') (hpx : ∀ E, px1 E → px E) (j : Nat) (hG : GoodIn Ts (wsV own index C y wsy)) (hw : wsy = Cond.code y bytes maxL ret :: wsy') (hds : okDesc y C j) (hn : As.length = j) (hR : okRoom rm R maxL k n) (hM : k + rm.cells ≤ mc ∧ n + rm.slots ≤ ms)
    (q0 : Nat) (he : w0[q0]? = some (b, .inr (ci, fs))) (hc : vwCl[ci]? = some (C, F, N)) (hst : st = As.reverse ++ .ref b :: rest) (hcat : (rest.map fun v => v.category).sum ≤ 8) (hd : decode cc pc = .ok (.invokevirtual index, 3))
    (kk : ∀ u, post u → G (k + rm.cells) (n + rm.slots) (w' u) lv (pc + 3) rest) : G k n w0 lv pc st := by
  obtain ⟨p, e, s, m, args, below, meth, c, Qc, A, ⟨rfl, hx, hb, hml, hown, hts, hK, hA⟩, hl0, hlocks, hnt, hSE⟩ := K
  intro H locs ls hP hD hS hl
  have hF := reach hD hS hA
  refine vx_callv (vx_runV (As := As) (rest := rest) ⟨hx, hb, hml, hown, hts⟩ (hC H.size) (cwV j hts hG hw rfl rfl hds hR.1) ⟨prex_blind, va_recv hK hP hc he, fun U hU hW => ⟨rfl, ⟨by rw [hU], by rw [hU]; exact hP, va_K.moved hW.alike hK, hD.weaken (fun _ _ _ _ => trivial)⟩, hSE.move hW hU hS hF⟩⟩ rfl hn hl.1 hst (lv_room hcat) hd hR.2) hS (fun q _ h => hF q h) hF (fun q _ h => hF q h) (fun E ce q9 u t H1 locs1 ht hvm _ hB hz1 hk1 hS1 hce hcv hcl => ?_) (fun u t H1 locs1 ht hvm hp hB hz1 hk1 hS1 => ?_)
  · obtain ⟨hE, hP1, hK1, hD1⟩ := hB
    rw [ht] at hP1
    exact vx_out (fun x hx9 => (hnt x hx9).elim) hlocks hce hcv hcl (fun t2 ht2 hal => ⟨(), trivial, ⟨hpx E hE, by rw [ht2]; exact hP1, va_K.moved hal hK, hD1.weaken fun _ q _ h => hF q.1 h⟩, hS1.F ht2⟩) hS1.2.2 hM.1 hM.2
  · obtain ⟨hP1, hK1, hD1⟩ := hB
    rw [ht] at hP1
    exact kk u hp H1 locs1 ls hP1 (hD1.weaken fun _ q _ h => hF q.1 h) hS1 hl
set_option maxHeartbeats 4000000 in
theorem r_xcallSv (K : OkX l R G cc nL Ts own D tys w0 px mc ms) {post : T → Prop} {w' : T → va_W} {As rest : List Value} (hC : Xv l y wsy rm D tys As w0 px1 post w') (hpx : ∀ E, px1 E → px E) (j : Nat) (hG : GoodIn Ts (va_wsS own index y wsy)) (hw : wsy = Cond.code y bytes maxL ret :: wsy') (hds : okDescS y j) (hn : As.length = j) (hR : okRoom rm R maxL k n) (hM : k + rm.cells ≤ mc ∧ n + rm.slots ≤ ms)
    (hst : st = As.reverse ++ rest) (hcat : (rest.map fun v => v.category).sum ≤ 8) (hd : decode cc pc = .ok (.invokestatic index, 3))
    (kk : ∀ u, post u → G (k + rm.cells) (n + rm.slots) (w' u) lv (pc + 3) rest) : G k n w0 lv pc st := by
  obtain ⟨p, e, s, m, args, below, meth, c, Qc, A, ⟨rfl, hx, hb, hml, hown, hts, hK, hA⟩, hl0, hlocks, hnt, hSE⟩ := K
  intro H locs ls hP hD hS hl
  have hF := reach hD hS hA
  refine vx_callv (vx_runS (As := As) (rest := rest) ⟨hx, hb, hml, hown, hts⟩ (hC H.size) (va_cwS j hts hG hw rfl rfl hds hR.1) ⟨prex_blind, fun U hU hW => ⟨rfl, ⟨by rw [hU], by rw [hU]; exact hP, va_K.moved hW.alike hK, hD.weaken (fun _ _ _ _ => trivial)⟩, hSE.move hW hU hS hF⟩⟩ rfl hn hl.1 hst (lv_room hcat) hd hR.2) hS (fun q _ h => hF q h) hF (fun q _ h => hF q h) (fun E ce q9 u t H1 locs1 ht hvm _ hB hz1 hk1 hS1 hce hcv hcl => ?_) (fun u t H1 locs1 ht hvm hp hB hz1 hk1 hS1 => ?_)
  · obtain ⟨hE, hP1, hK1, hD1⟩ := hB
    rw [ht] at hP1
    exact vx_out (fun x hx9 => (hnt x hx9).elim) hlocks hce hcv hcl (fun t2 ht2 hal => ⟨(), trivial, ⟨hpx E hE, by rw [ht2]; exact hP1, va_K.moved hal hK, hD1.weaken fun _ q _ h => hF q.1 h⟩, hS1.F ht2⟩) hS1.2.2 hM.1 hM.2
  · obtain ⟨hP1, hK1, hD1⟩ := hB
    rw [ht] at hP1
    exact kk u hp H1 locs1 ls hP1 (hD1.weaken fun _ q _ h => hF q.1 h) hS1 hl
end RX
end MYX
