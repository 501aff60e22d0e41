/-! Constructors: rows and objects are made. -/
section MYN
theorem nI_nneg {N : Nat} (h : N < 1000001) : ¬ nI N < 0 := fun q => vp_in_nI (Nat.lt_succ_self N) (by omega) (Or.inl q)
def hNest : List Cond := [.methodLinkNest RX6 9 yX1_init RX6, .methodLinkNest RX6 18 yX4_init RX6, .methodLinkNest RX6 25 yX0_init RX6, .methodLinkNest RX6 32 yX2_init RX6, .methodLinkNest RX6 39 yX3_init RX6, .methodLinkNest RX6 46 yX5_init RX6, .methodLinkNest RX5 11 yX3_init RX6]
def isNest : Cond → Bool
  | .methodLinkNest .. => true
  | _ => false
theorem hNest_f : ∀ w ∈ hNest, isNest w = true := by decide +kernel
theorem nest_warm {w : Cond} (hw : isNest w = true) {s U : State} (hW : s.WarmedH U.vm) (h : va_Nw w s) : va_Nw w U := by
  cases w <;> first | exact va_Nw.warmM hW h | (simp [isNest] at hw)
theorem nest_tabs {w : Cond} (hw : isNest w = true) : w.onTables = true := by
  cases w <;> first | rfl | (simp [isNest] at hw)
def NI (U : State) : Prop := (∀ w ∈ hNest, va_Nw w U) ∧ va_AOA .int U
theorem NI.warm {s U : State} (hW : s.WarmedH U.vm) (h : NI s) : NI U := ⟨fun w hw => nest_warm (hNest_f w hw) hW (h.1 w hw), h.2.moved hW.alike⟩
theorem NI.blind {u U : State} (hv : u.vm = U.vm) (h : NI u) : NI U := ⟨fun w hw => va_Nw.same (nest_tabs (hNest_f w hw)) hv (h.1 w hw), h.2.moved (by rw [← hv]; exact Vm.Alike.refl _)⟩
def PreN (D : va_G) (tys : List (ClassId × FieldType)) (w : va_W) (av : List Value) (sz : Nat) : Array Value → State → Prop := va_Pc av (fun U => (U.heap.size = sz ∧ At1 D tys (fun _ => True) w U) ∧ NI U)
theorem pren_blind {D : va_G} {tys : List (ClassId × FieldType)} {w : va_W} {av : List Value} {sz : Nat} : FrameBlind (PreN D tys w av sz) := fun a U g mk q => by
  obtain ⟨q0, ⟨q1, qP, qK, qD⟩, qN⟩ := q
  exact ⟨q0, ⟨q1, qP, va_K.moved (u := U) (U := U.calling g mk a) (Vm.Alike.refl U.vm) qK, qD⟩, NI.blind (u := U) rfl qN⟩
/-- a constructor -/
def Cn (l : Launch) (y : MethodName) (wsy : List Cond) (rm : Room) (D : va_G) (tys : List (ClassId × FieldType)) (av : List Value) (w : va_W) {T : Type} (post : T → Prop) (w' : T → va_W) : Prop :=
  ∀ sz, Met l y wsy rm (PreN D tys w av sz) (va_Qv post (fun u t => At1 D tys (va_A w sz) (w' u) t) (va_A w sz)) rm.cells rm.slots (va_A w sz)
def OkNI (l : Launch) (R : Room) (G : Gt) (cc : ByteArray) (nL : Nat) (Ts : List Cond) (own : String) (D : va_G) (tys : List (ClassId × FieldType)) : Prop :=
  ∃ (p : Program) (e : Env) (s : State) (m : MethodId) (args : Array Value) (below : List Frame) (meth : Method) (c : Code) (Q : State → Prop) (A : Nat → Prop) (H0 : Heap), Fx p l e R s m args below meth c Q A H0 G cc nL Ts own D tys ∧ NI s
def OkN (l : Launch) (R : Room) (G : Gt) (cc : ByteArray) (nL : Nat) (Ts : List Cond) (own : String) (D : va_G) (tys : List (ClassId × FieldType)) : Prop :=
  ∃ (p : Program) (e : Env) (s : State) (m : MethodId) (args : Array Value) (below : List Frame) (meth : Method) (c : Code) (Q : State → Prop) (A : Nat → Prop) (H0 : Heap), Fx p l e R s m args below meth c Q A H0 G cc nL Ts own D tys ∧ NI s ∧ meth.name = "<init>"
section S2
variable {l : Launch} {R : Room} {G : Gt} {cc : ByteArray} {nL : Nat} {Ts : List Cond} {own : String} {D : va_G} {tys : List (ClassId × FieldType)}
theorem OkN.ni (K : OkN l R G cc nL Ts own D tys) : OkNI l R G cc nL Ts own D tys := by
  obtain ⟨p, e, s, m, args, below, meth, c, Q, A, H0, hF, hN, -⟩ := K
  exact ⟨p, e, s, m, args, below, meth, c, Q, A, H0, hF, hN⟩
theorem OkNI.ok (K : OkNI l R G cc nL Ts own D tys) : Ok l R G cc nL Ts own D tys := by
  obtain ⟨p, e, s, m, args, below, meth, c, Q, A, H0, hF, -⟩ := K
  exact ⟨p, e, s, m, args, below, meth, c, Q, A, H0, hF⟩
theorem OkN.ok (K : OkN l R G cc nL Ts own D tys) : Ok l R G cc nL Ts own D tys := K.ni.ok
end S2
section OPENN
variable {l : Launch} {y : MethodName} {wsy wsy' : List Cond} {rm : Room} {D : va_G} {tys : List (ClassId × FieldType)} {av : List Value} {w : va_W} {T : Type} {cc : ByteArray} {maxL : Nat}
set_option maxHeartbeats 4000000 in
theorem Cn.of {post : T → Prop} {w' : T → va_W} (hy : plainName y.cls = true) (hyn : y.name = "<init>") (hw : wsy = Cond.code y cc maxL none :: wsy') (hlen : (lg_sl av).length ≤ maxL) {lv0 : List (Nat × Value)} (hlv : lv_args 0 av = lv0)
    (body : ∀ G : Gt, OkN l rm G cc maxL wsy y.cls D tys → (∀ k n ws lv pc u, decode cc pc = .ok (.return_, 1) → post u → ws = w' u → k ≤ rm.cells → n ≤ rm.slots → G k n ws lv pc []) → G 0 0 w lv0 0 []) : Cn l y wsy rm D tys av w post w' := by
  intro sz
  refine Met.ofW (cc := cc) (maxL := maxL) (ret := none) hy hw ?_
  intro p e s m args below meth c s₁ B hml hv
  obtain ⟨rfl, ⟨hsz, hP, hK, hD0⟩, hN⟩ := hv
  have hx := B.exec
  have hb := B.bytes
  have hr := B.returns
  have hts := atoms_spec (ws := wsy) B.pre
  have hown : s.vm.findClass y.cls = some m.cls := findClass_of_methodNamed B.named
  have hlocks := B.notSynchronized
  have hin : meth.name = "<init>" := ((name_of_methodNamed B.named B.method).1).trans hyn
  subst hsz
  have hD := hD0.self (sz := s.heap.size)
  have hA : ∀ q : Nat, s.heap.size ≤ q → va_A w s.heap.size q := fun q h => Or.inr h
  rw [lg_entry_eq]
  refine body _ ⟨p, e, s, m, av.toArray, below, meth, c, _, va_A w s.heap.size, s.heap, ⟨rfl, hx, hb, hml, hown, hts, hK, hA⟩, hN, hin⟩ ?_ s.heap [] _ hP hD va_S.rf (entry_has hlen hlv)
  intro k n ws lv pc u hd hp hwu hk hn H locs ls hP hD hS hl
  refine W.widen hk hn ?_
  rw [hwu] at hP hD
  exact W.vret hx hb hr (fun t ht hW => ⟨⟨u, rfl, hp, by rw [ht]; exact hP, va_K.moved hW.alike hK, hD⟩, hS.F ht⟩) hS.2.2 hd
end OPENN
theorem map_pick {is : List Nat} {ws ws' : va_W} (h : is.map (fun i => ws[i]?) = ws'.map some) : is.filterMap (fun i => ws[i]?) = ws' := by
  have h1 : (is.map (fun i => ws[i]?)).filterMap id = ws' := by rw [h, List.filterMap_map]; simp
  rw [List.filterMap_map] at h1
  exact h1
section RN
variable {l : Launch} {R : Room} {G : Gt} {cc : ByteArray} {nL : Nat} {Ts : List Cond} {own : String} {D : va_G} {tys : List (ClassId × FieldType)} {c0 : Nat → ClassId} {k n : Nat} {ws ws' z w : va_W} {lv : List (Nat × Value)} {pc : Nat} {st : List Value}
theorem r_perm (K : Ok l R G cc nL Ts own D tys) (is : List Nat) (hn : va_nd is = true) (hs : is.map (fun i => ws[i]?) = ws'.map some) (kk : G k n ws' lv pc st) : G k n ws lv pc st := by
  obtain ⟨p, e, s, m, args, below, meth, c, Q, A, H0, rfl, hx, hb, hml, hown, hts, hK, hA⟩ := K
  intro H locs ls hP hD hS hl
  exact kk H locs ls (hP.sub is (map_pick hs)) (hD.sub is hn hs) hS hl
theorem r_objI (K : Ok l R G cc nL Ts own D tys) {ix a : Nat} (h1 : Cond.methodLink own ix objectInit ∈ Ts) (h2 : Cond.instanceMethod objectInit ∈ Ts) (h3 : Cond.code objectInit ⟨#[0xb1]⟩ 1 none ∈ Ts) (hd : decode cc pc = .ok (.invokespecial ix, 3)) (hf : 1 ≤ R.frames) (hlo : 20 ≤ R.locals) (hcat : (st.map fun v => v.category).sum ≤ 8) (kk : G k n ws lv (pc + 3) st) : G k n ws lv pc (.ref a :: st) := by
  obtain ⟨p, e, s, m, args, below, meth, c, Q, A, H0, rfl, hx, hb, hml, hown, hts, hK, hA⟩ := K
  intro H locs ls hP hD hS hl
  exact W.objInit hx hb hown (hts _ h1) (hts _ h2) (hts _ h3) rfl (by rw [hml]; exact hl.1) rfl hd hf (Nat.le_trans (Nat.add_le_add_right (lv_room hcat) 12) hlo) (kk H locs ls hP hD hS hl)
theorem r_newo (K : Ok l R G cc nL Ts own D tys) {C : String} {T : u_T} {N ci ix : Nat} {fs : List Value} (hin : ∀ w ∈ u_ws C T N, w ∈ Ts) (ty0 : Nat → FieldType) (hty : ∀ k, k < N → parseFieldDescriptor (T k).2.2.1 = some (ty0 k)) (hc : vwCl[ci]? = some (C, T, N)) (hcl : Cond.classLink own ix C ∈ Ts) (hinst : Cond.instantiable C N ∈ Ts) (hini : Cond.initialized C ∈ Ts)
    (hfs : ∀ j, j < N → defaultValue (ty0 j) = vp_V fs j) (hR : k + 1 ≤ R.cells ∧ n + N ≤ R.slots) (hd : decode cc pc = .ok (.new ix, 3)) (kk : ∀ q, G (k + 1) (n + N) (ws ++ [(q, .inr (ci, fs))]) lv (pc + 3) (.ref q :: st)) : G k n ws lv pc st := by
  obtain ⟨p, e, s, m, args, below, meth, c, Q, A, H0, rfl, hx, hb, hml, hown, hts, hK, hA⟩ := K
  intro H locs ls hP hD hS hl
  exact va_new hx hb hts hin ty0 hty hown (hts _ hcl) (hts _ hinst) (hts _ hini) hK hP hD hS hA hc hfs hR.1 hR.2 hd (fun q H1 hP1 hD1 hS1 => kk q H1 locs ls hP1 hD1 hS1 hl)
theorem r_newaI (K : Ok l R G cc nL Ts own D (tyW c0)) {N : Nat} (harr : Cond.arrayClass .int ∈ Ts) (hN : N < 1000000) (hR : k + 1 ≤ R.cells ∧ n + N ≤ R.slots) (hd : decode cc pc = .ok (.newarray .int, 2)) (kk : ∀ q, G (k + 1) (n + N) (ws ++ [(q, .inl (c0 0, N, .inl (ar fun _ => 0)))]) lv (pc + 2) (.ref q :: st)) : G k n ws lv pc (.int (nI N) :: st) := by
  obtain ⟨p, e, s, m, args, below, meth, c, Q, A, H0, rfl, hx, hb, hml, hown, hts, hK, hA⟩ := K
  intro H locs ls hP hD hS hl
  refine va_newa (atype := .int) (ty := .int) (N' := N) (a0 := (N, .inl (ar fun _ => 0))) hx hb (hts _ harr) rfl hK hP hD hS hA (fun cA => rfl) (nI_nneg (by omega)) (nI_clamp (by omega)) (by show N * 4 ≤ _; omega) hR.1 hR.2 hd (fun q cA H1 hK1 hP1 hD1 hS1 => ?_)
  have e1 : s.vm.findClass ("[" ++ FieldType.int.toString) = some cA := (hK1.2 3 (cA, .int) rfl).2
  have e2 : s.vm.findClass ("[" ++ FieldType.int.toString) = some (c0 0) := (hK.2 0 (c0 0, .int) rfl).2
  obtain rfl : cA = c0 0 := Option.some.inj (e1.symm.trans e2)
  exact kk q H1 locs ls hP1 hD1 hS1 hl
theorem r_newaZ (K : Ok l R G cc nL Ts own D (tyW c0)) {N : Nat} (harr : Cond.arrayClass .boolean ∈ Ts) (hN : N < 1000000) (hR : k + 1 ≤ R.cells ∧ n + N ≤ R.slots) (hd : decode cc pc = .ok (.newarray .boolean, 2)) (kk : ∀ q, G (k + 1) (n + N) (ws ++ [(q, .inl (c0 1, N, .inl (ar fun _ => 0)))]) lv (pc + 2) (.ref q :: st)) : G k n ws lv pc (.int (nI N) :: st) := by
  obtain ⟨p, e, s, m, args, below, meth, c, Q, A, H0, rfl, hx, hb, hml, hown, hts, hK, hA⟩ := K
  intro H locs ls hP hD hS hl
  refine va_newa (atype := .boolean) (ty := .boolean) (N' := N) (a0 := (N, .inl (ar fun _ => 0))) hx hb (hts _ harr) rfl hK hP hD hS hA (fun cA => rfl) (nI_nneg (by omega)) (nI_clamp (by omega)) (by show N * 1 ≤ _; omega) hR.1 hR.2 hd (fun q cA H1 hK1 hP1 hD1 hS1 => ?_)
  have e1 : s.vm.findClass ("[" ++ FieldType.boolean.toString) = some cA := (hK1.2 3 (cA, .boolean) rfl).2
  have e2 : s.vm.findClass ("[" ++ FieldType.boolean.toString) = some (c0 1) := (hK.2 1 (c0 1, .boolean) rfl).2
  obtain rfl : cA = c0 1 := Option.some.inj (e1.symm.trans e2)
  exact kk q H1 locs ls hP1 hD1 hS1 hl
/-- twelve rows of ten -/
def rows12 (c0 : Nat → ClassId) (r : Nat → Nat) : va_W := [(r 0, .inl (c0 0, 10, .inl (ar fun _ => 0))), (r 1, .inl (c0 0, 10, .inl (ar fun _ => 0))), (r 2, .inl (c0 0, 10, .inl (ar fun _ => 0))), (r 3, .inl (c0 0, 10, .inl (ar fun _ => 0))), (r 4, .inl (c0 0, 10, .inl (ar fun _ => 0))), (r 5, .inl (c0 0, 10, .inl (ar fun _ => 0))), (r 6, .inl (c0 0, 10, .inl (ar fun _ => 0))), (r 7, .inl (c0 0, 10, .inl (ar fun _ => 0))), (r 8, .inl (c0 0, 10, .inl (ar fun _ => 0))), (r 9, .inl (c0 0, 10, .inl (ar fun _ => 0))), (r 10, .inl (c0 0, 10, .inl (ar fun _ => 0))), (r 11, .inl (c0 0, 10, .inl (ar fun _ => 0)))]
theorem r_mna12 (K : OkNI l R G cc nL Ts own D (tyW c0)) {ix : Nat} (harr : Cond.arrayClass .int ∈ Ts) (hcl : Cond.classLink own ix "[[I" ∈ Ts) (hR : k + 13 ≤ R.cells ∧ n + 132 ≤ R.slots) (hd : decode cc pc = .ok (.multianewarray ix 2, 4))
    (kk : ∀ (q : Nat) (r : Nat → Nat), G (k + 13) (n + 132) (ws ++ ((q, .inl (c0 2, 12, .inr (.inr (.inr (.inr fun i => if i < 12 then some (r i) else none))))) :: rows12 c0 r)) lv (pc + 4) (.ref q :: st)) : G k n ws lv pc (.int (nI 10) :: .int (nI 12) :: st) := by
  obtain ⟨p, e, s, m, args, below, meth, c, Q, A, H0, ⟨rfl, hx, hb, hml, hown, hts, hK, hA⟩, hN⟩ := K
  intro H locs ls hP hD hS hl
  have e0 : s.vm.findClass ("[" ++ FieldType.int.toString) = some (c0 0) := (hK.2 0 (c0 0, .int) rfl).2
  refine va_mna (X := ws) (L := []) (f := fun _ => .inl (c0 0, 10, .inl (ar fun _ => 0))) (ty := .int) (cy := c0 0) (N' := 12) (K' := 10) (z := (10, .inl (ar fun _ => 0))) hx hb hown (hts _ hcl) hN.2 (hts _ harr) e0 hK (by show va_P D vwCl (ws ++ []) H; rw [List.append_nil]; exact hP) (by show va_D A (ws ++ []); rw [List.append_nil]; exact hD) hS hA (by decide) (by decide) (by decide) (by decide) (by decide) (by decide) (by decide) (by decide) (by decide) (by show k + (1 + 12) ≤ _; omega) (by show n + (12 + 12 * 10) ≤ _; omega) (fun _ => rfl) hd (fun q r cA H1 _ _ hK1 hP1 hD1 hS1 => ?_)
  have e1 : s.vm.findClass ("[" ++ (FieldType.array .int).toString) = some cA := (hK1.2 3 (cA, .array .int) rfl).2
  have e2 : s.vm.findClass ("[" ++ (FieldType.array .int).toString) = some (c0 2) := (hK.2 2 (c0 2, .array .int) rfl).2
  obtain rfl : cA = c0 2 := Option.some.inj (e1.symm.trans e2)
  rw [← vr_rows (L := []) (fun a _ h => by cases h), List.append_assoc] at hP1 hD1
  exact kk q r H1 locs ls hP1 hD1 hS1 hl
theorem r_putF (K : OkN l R G cc nL Ts own D tys) {C : String} {T : u_T} {N ci ix a : Nat} {fs : List Value} {v : Value} (hin : ∀ w ∈ u_ws C T N, w ∈ Ts) (ty0 : Nat → FieldType) (hty : ∀ k, k < N → parseFieldDescriptor (T k).2.2.1 = some (ty0 k)) (hnm : ∀ a, a < N → ∀ b, b < N → a ≠ b → (T a).2.1 ≠ (T b).2.1) (q0 : Nat) (he : ws[q0]? = some (a, .inr (ci, fs))) (hc : vwCl[ci]? = some (C, T, N)) (f : Nat) (hf : f < N) (hlk : Cond.fieldLink own ix (T f).1 (T f).2.1 (T f).2.2.1 ∈ Ts) (hfin : (T f).2.2.2 = true) (hdecl : (T f).1 = own) (hn : narrow (ty0 f) v = v) (hfit : fits (ty0 f) v = true) (hle : f < fs.length) (hd : decode cc pc = .ok (.putfield ix, 3)) (hset : ws.set q0 (a, .inr (ci, fs.set f v)) = ws') (kk : G k n ws' lv (pc + 3) st) : G k n ws lv pc (v :: .ref a :: st) := by
  obtain ⟨p, e, s, m, args, below, meth, c, Q, A, H0, ⟨rfl, hx, hb, hml, hown, hts, hK, hA⟩, -, hname⟩ := K
  intro H locs ls hP hD hS hl
  refine va_putF (D := D) hx hb hts hin ty0 hty hnm hown hK hP hD hS q0 he hc f hf (hts _ hlk) (fun _ h9 => h9) hfin hname hdecl (hty f hf) hn hfit hle hd (fun H1 locs1 hP1 hD1 hS1 => ?_)
  rw [hset] at hP1 hD1
  exact kk H1 locs1 ls hP1 hD1 hS1 hl
variable {y : MethodName} {wsy wsy' : List Cond} {rm : Room} {T : Type} {bytes : ByteArray} {maxL index : Nat}
set_option maxHeartbeats 4000000 in
theorem r_callN (K : OkNI l R G cc nL Ts own D tys) {post : T → Prop} {w' : T → va_W} {host : String} {b : Nat} {rest : List Value} (hC : Cn l y wsy rm D tys [.ref b] w post w') (hG : GoodIn Ts wsy) (hw : wsy = Cond.code y bytes maxL none :: wsy') (hnest : Cond.methodLinkNest own index y host ∈ hNest) (hini : Cond.initialized y.cls ∈ Ts) (hinst : Cond.instanceMethod y ∈ Ts) (hy1 : y.name = "<init>") (hds : okDescS y 0) (hR : okRoom rm R maxL k n)
    (hst : st = .ref b :: rest) (hcat : (rest.map fun v => v.category).sum ≤ 8) (hd : decode cc pc = .ok (.invokespecial index, 3)) (kk : ∀ u, post u → G (k + rm.cells) (n + rm.slots) (z ++ w' u) lv (pc + 3) rest) : G k n (z ++ w) lv pc st := by
  obtain ⟨p, e, s, m, args, below, meth, c, Q, A, H0, ⟨rfl, hx, hb, hml, hown, hts, hK, hA⟩, hN⟩ := K
  intro H locs ls hP hD hS hl
  have hF := reach (D_r hD) hS hA
  refine va_callv (va_runIN (As := []) (rest := rest) ⟨hx, hb, hml, hown, hts⟩ (hC H.size) ⟨va_cnB 0 hts hG hw rfl rfl (hN.1 _ hnest) (hts _ hini) hds hR.1, hy1, hts _ hinst⟩ ⟨pren_blind, fun U hU hW => ⟨rfl, ⟨by rw [hU], by rw [hU]; exact P_r hP, va_K.moved hW.alike hK, (D_r hD).weaken (fun _ _ _ _ => trivial)⟩, hN.warm hW⟩⟩ rfl rfl hl.1 hst (lv_room hcat) hd hR.2) hS (fun q _ h => hF q h) hF (fun u t H1 locs1 ht hvm hp hB hz1 hk1 hS1 => ?_)
  obtain ⟨hP1, hK1, hD1⟩ := hB
  rw [ht] at hP1
  obtain ⟨hP2, hD2⟩ := beside_r hP hD hk1 hF hP1 hD1
  exact kk u hp H1 locs1 ls hP2 hD2 hS1 hl
set_option maxHeartbeats 4000000 in
theorem r_callIn (K : OkNI l R G cc nL Ts own D tys) {post : T → Prop} {w' : T → va_W} {b : Nat} {rest : List Value} (hC : Cn l y wsy rm D tys [.ref b] w post w') (hG : GoodIn Ts wsy) (hw : wsy = Cond.code y bytes maxL none :: wsy') (hlk : Cond.methodLink own index y ∈ Ts) (hini : Cond.initialized y.cls ∈ Ts) (hinst : Cond.instanceMethod y ∈ Ts) (hy1 : y.name = "<init>") (hds : okDescS y 0) (hR : okRoom rm R maxL k n)
    (hst : st = .ref b :: rest) (hcat : (rest.map fun v => v.category).sum ≤ 8) (hd : decode cc pc = .ok (.invokespecial index, 3)) (kk : ∀ u, post u → G (k + rm.cells) (n + rm.slots) (z ++ w' u) lv (pc + 3) rest) : G k n (z ++ w) lv pc st := by
  obtain ⟨p, e, s, m, args, below, meth, c, Q, A, H0, ⟨rfl, hx, hb, hml, hown, hts, hK, hA⟩, hN⟩ := K
  intro H locs ls hP hD hS hl
  have hF := reach (D_r hD) hS hA
  refine va_callv (va_runI (As := []) (rest := rest) ⟨hx, hb, hml, hown, hts⟩ (hC H.size) (cwI 0 hts hG hw rfl rfl (hts _ hini) (hts _ hlk) (hts _ hinst) hy1 hds hR.1) ⟨pren_blind, fun U hU hW => ⟨rfl, ⟨by rw [hU], by rw [hU]; exact P_r hP, va_K.moved hW.alike hK, (D_r hD).weaken (fun _ _ _ _ => trivial)⟩, hN.warm hW⟩⟩ rfl rfl hl.1 hst (lv_room hcat) hd hR.2) hS (fun q _ h => hF q h) hF (fun u t H1 locs1 ht hvm hp hB hz1 hk1 hS1 => ?_)
  obtain ⟨hP1, hK1, hD1⟩ := hB
  rw [ht] at hP1
  obtain ⟨hP2, hD2⟩ := beside_r hP hD hk1 hF hP1 hD1
  exact kk u hp H1 locs1 ls hP2 hD2 hS1 hl
end RN
end MYN
