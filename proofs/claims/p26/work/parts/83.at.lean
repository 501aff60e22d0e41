section LAWAT
def OkS (l : Launch) (R : Room) (G : Gt) (cc : ByteArray) (nL : Nat) (Ts : List Cond) (own : String) (D : va_G) (tys : List (ClassId × FieldType)) (sb L : Nat) (xs : Nat → Int32) : Prop :=
  ∃ (p : Program) (e : Env) (s : State) (m : MethodId) (args : Array Value) (below : List Frame) (meth : Method) (c : Code) (Q : State → Prop) (A : Nat → Prop) (H0 : Heap), Fx p l e R s m args below meth c Q A H0 G cc nL Ts own D tys ∧ va_X sb L xs s H0 ∧ sb < H0.size ∧ ¬ A sb
def PreT (D : va_G) (tys : List (ClassId × FieldType)) (sb L : Nat) (xs : Nat → Int32) (av : List Value) (sz : Nat) : Array Value → State → Prop := va_Pc av (fun U => (U.heap.size = sz ∧ At1 D tys (fun _ => True) [] U) ∧ va_X sb L xs U U.heap ∧ sb < U.heap.size)
theorem pret_blind {D : va_G} {tys : List (ClassId × FieldType)} {sb L : Nat} {xs : Nat → Int32} {av : List Value} {sz : Nat} : FrameBlind (PreT D tys sb L xs av sz) := fun a U g mk q => by
  obtain ⟨q0, ⟨q1, qP, qK, qD⟩, qX, ql⟩ := q
  exact ⟨q0, ⟨q1, qP, va_K.moved (u := U) (U := U.calling g mk a) (Vm.Alike.refl U.vm) qK, qD⟩, va_X.moved (u := U) (U := U.calling g mk a) (Vm.Alike.refl U.vm) qX, ql⟩
/-- a method that reads the script, and no other cell -/
def Ct (l : Launch) (y : MethodName) (wsy : List Cond) (rm : Room) (D : va_G) (tys : List (ClassId × FieldType)) (av : List Value) (sb L : Nat) (xs : Nat → Int32) (post : Int32 → Prop) : Prop :=
  ∀ sz, Met l y wsy rm (PreT D tys sb L xs av sz) (va_Qi (fun r (_ : Unit) => post r) (fun _ t => At1 D tys (va_A [] sz) [] t) (va_A [] sz)) rm.cells rm.slots (va_A [] sz)
section RS
variable {l : Launch} {R : Room} {G : Gt} {cc : ByteArray} {nL : Nat} {Ts : List Cond} {own : String} {D : va_G} {tys : List (ClassId × FieldType)} {sb L : Nat} {xs : Nat → Int32} {k n : Nat} {ws : va_W} {lv : List (Nat × Value)} {pc : Nat} {st : List Value}
theorem OkS.ok (K : OkS l R G cc nL Ts own D tys sb L xs) : Ok l R G cc nL Ts own D tys := by
  obtain ⟨p, e, s, m, args, below, meth, c, Q, A, H0, hF, -⟩ := K
  exact ⟨p, e, s, m, args, below, meth, c, Q, A, H0, hF⟩
theorem r_sld (K : OkS l R G cc nL Ts own D tys sb L xs) {i : Nat} (hi : i < L) (hL : L ≤ 260) (hd : decode cc pc = .ok (.iaload, 1)) (kk : G k n ws lv (pc + 1) (.int (xs i) :: st)) : G k n ws lv pc (.int (nI i) :: .ref sb :: st) := by
  obtain ⟨p, e, s, m, args, below, meth, c, Q, A, H0, ⟨rfl, hx, hb, hml, hown, hts, hK, hA⟩, hX, hbl, hbA⟩ := K
  intro H locs ls hP hD hS hl
  refine va_sld hx hb hX hbl hbA hS (vp_in_nI hi (by omega)) hd ?_
  rw [nI_clamp (by omega)]
  exact kk H locs ls hP hD hS hl
theorem r_slen (K : OkS l R G cc nL Ts own D tys sb L xs) (hd : decode cc pc = .ok (.arraylength, 1)) (kk : G k n ws lv (pc + 1) (.int (nI L) :: st)) : G k n ws lv pc (.ref sb :: st) := by
  obtain ⟨p, e, s, m, args, below, meth, c, Q, A, H0, ⟨rfl, hx, hb, hml, hown, hts, hK, hA⟩, hX, hbl, hbA⟩ := K
  intro H locs ls hP hD hS hl
  exact va_slen hx hb hX hbl hbA hS hd (kk H locs ls hP hD hS hl)
variable {y : MethodName} {wsy wsy' : List Cond} {rm : Room} {bytes : ByteArray} {maxL index : Nat} {ret : Option FieldType} {av : List Value}
set_option maxHeartbeats 4000000 in
theorem Ct.of {post : Int32 → Prop} (hy : plainName y.cls = true) (hw : wsy = Cond.code y cc maxL (some .int) :: wsy') (hlen : (lg_sl av).length ≤ maxL) {lv0 : List (Nat × Value)} (hlv : lv_args 0 av = lv0)
    (body : ∀ G : Gt, OkS l rm G cc maxL wsy y.cls D tys sb L xs → (∀ k n lv pc v, decode cc pc = .ok (.ireturn, 1) → post v → k ≤ rm.cells → n ≤ rm.slots → G k n [] lv pc [.int v]) → G 0 0 [] lv0 0 []) : Ct l y wsy rm D tys av sb L xs post := by
  intro sz
  refine Met.ofW (cc := cc) (maxL := maxL) (ret := (some .int)) hy hw ?_
  intro p e s m args below meth c s₁ B hml hv
  obtain ⟨rfl, ⟨hsz, hP, hK, hD0⟩, hX, hbl⟩ := hv
  have hx := B.exec
  have hb := B.bytes
  have hr := B.returns
  have hts := atoms_spec (ws := wsy) B.pre
  have hown : s.vm.findClass y.cls = some m.cls := findClass_of_methodNamed B.named
  subst hsz
  have hD := hD0.self (sz := s.heap.size)
  have hA : ∀ q : Nat, s.heap.size ≤ q → va_A [] s.heap.size q := fun q h => Or.inr h
  have hnA : ¬ va_A [] s.heap.size sb := fun h => by
    rcases h with ⟨k9, e9, h9⟩ | h9
    · simp at h9
    · exact absurd h9 (Nat.not_le.mpr hbl)
  rw [lg_entry_eq]
  refine body _ ⟨p, e, s, m, av.toArray, below, meth, c, _, va_A [] s.heap.size, s.heap, ⟨rfl, hx, hb, hml, hown, hts, hK, hA⟩, hX, hbl, hnA⟩ ?_ s.heap [] _ hP hD va_S.rf (entry_has hlen hlv)
  intro k n lv pc v hd hp hk hn H locs ls hP hD hS hl
  refine W.widen hk hn ?_
  exact W.iret (v := v) hx hb hr (fun t ht hW => ⟨⟨v, (), rfl, hp, by rw [ht]; exact hP, va_K.moved hW.alike hK, hD⟩, hS.F ht⟩) hS.2.2 hd
set_option maxHeartbeats 4000000 in
theorem r_callSt (K : OkS l R G cc nL Ts own D tys sb L xs) {post : Int32 → Prop} {As rest : List Value} (hC : Ct l y wsy rm D tys As sb L xs post) (j : Nat) (hG : GoodIn Ts (va_wsS own index y wsy)) (hw : wsy = Cond.code y bytes maxL ret :: wsy') (hds : okDescS y j) (hn : As.length = j) (hR : okRoom rm R maxL k n)
    (hst : st = As.reverse ++ rest) (hcat : (rest.map fun v => v.category).sum ≤ 8) (hd : decode cc pc = .ok (.invokestatic index, 3))
    (kk : ∀ r, post r → G (k + rm.cells) (n + rm.slots) ws lv (pc + 3) (.int r :: rest)) : G k n ws lv pc st := by
  obtain ⟨p, e, s, m, args, below, meth, c, Q, A, H0, ⟨rfl, hx, hb, hml, hown, hts, hK, hA⟩, hX, hbl, hbA⟩ := K
  intro H locs ls hP hD hS hl
  have hP0 : va_P D vwCl ([] ++ ws) H := hP
  have hD0 : va_D A ([] ++ ws) := hD
  have hF := reach (D_l hD0) hS hA
  have hXH : va_X sb L xs s H := hX.kept (hS.2.1 sb hbl hbA)
  have hbH : sb < H.size := Nat.lt_of_lt_of_le hbl hS.1
  refine va_calli (va_runS (As := As) (rest := rest) ⟨hx, hb, hml, hown, hts⟩ (hC H.size) (va_cwS j hts hG hw rfl rfl hds hR.1) ⟨pret_blind, fun U hU hW => ⟨rfl, ⟨by rw [hU], by rw [hU]; exact P_l hP0, va_K.moved hW.alike hK, (D_l hD0).weaken (fun _ _ _ _ => trivial)⟩, by rw [hU]; exact va_X.moved hW.alike hXH, by rw [hU]; exact hbH⟩⟩ rfl hn hl.1 hst (lv_room hcat) hd hR.2) hS (fun q _ h => hF q h) hF (fun r u t H1 locs1 ht hvm hp hB hz1 hk1 hS1 => ?_)
  obtain ⟨hP1, hK1, hD1⟩ := hB
  rw [ht] at hP1
  obtain ⟨hP2, hD2⟩ := beside_l hP0 hD0 hk1 hF hP1 hD1
  exact kk r hp H1 locs1 ls hP2 hD2 hS1 hl
end RS
end LAWAT
def rmL_at : Room := { frames := 0, cells := 0, slots := 0, locals := 0 }
set_option maxHeartbeats 4000000 in
set_option maxRecDepth 100000 in
theorem c_L_at (l : Launch) (D : va_G) (c : Nat → ClassId) (sb L : Nat) (xs : Nat → Int32) (hL : L ≤ 260) (i : Nat) (hi : i < 1000) : Ct l yL_at wsL_at rmL_at D (tyW c) [.ref sb, .int (nI i)] sb L xs (fun _ => True) := by
  refine Ct.of (lv0 := [(0, .ref sb), (1, .int (nI i))]) (by decide +kernel) rfl (Nat.le_of_ble_eq_true rfl) rfl (fun G KS hret => ?_)
  have K := KS.ok
  refine r_iload_n K dL_at_0 rfl ?_
  refine r_aload_n K dL_at_1 rfl ?_
  refine r_slen KS dL_at_2 ?_
  refine r_ic_ge K 12 dL_at_3 (by decide) (by omega) (by omega) (fun h => ?_) (fun h => ?_)
  ·
    refine r_ldc K (v := 1810219985) (List.mem_of_getElem? (i := 1) rfl) dL_at_12 ?_
    refine r_iload_n K dL_at_14 rfl ?_
    refine r_iconst K (nI 1) dL_at_15 (by decide) ?_
    refine r_iadd K dL_at_16 ?_
    refine r_imulR K dL_at_17 ?_
    refine r_ldc K (v := 491256467) (List.mem_of_getElem? (i := 2) rfl) dL_at_18 ?_
    refine r_iaddR K dL_at_20 ?_
    exact hret _ _ _ _ _ dL_at_21 trivial (Nat.le_of_ble_eq_true rfl) (Nat.le_of_ble_eq_true rfl)
  ·
    refine r_aload_n K dL_at_6 rfl ?_
    refine r_iload_n K dL_at_7 rfl ?_
    refine r_sld KS h hL dL_at_8 ?_
    refine r_goto K 21 dL_at_9 (by decide) ?_
    exact hret _ _ _ _ _ dL_at_21 trivial (Nat.le_of_ble_eq_true rfl) (Nat.le_of_ble_eq_true rfl)
