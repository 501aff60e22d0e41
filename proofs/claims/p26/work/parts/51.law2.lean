/-! The law's own methods: their world (both houses, the law's four rows, rows of a method's own), openers, calls, rows. -/
section LAWG
section OPENE
variable {l : Launch} {y : MethodName} {wsy wsy' : List Cond} {rm : Room} {D : va_G} {tys : List (ClassId × FieldType)} {av : List Value} {w : va_W} {T : Type} {cc : ByteArray} {maxL : Nat}
set_option maxHeartbeats 4000000 in
theorem Li.ofE {post : Int32 → T → Prop} {w' : T → va_W} (hy : plainName y.cls = true) (hw : wsy = Cond.code y cc maxL (some .int) :: wsy') (hlen : (lg_sl av).length ≤ maxL) {lv0 : List (Nat × Value)} (hlv : lv_args 0 av = lv0)
    (body : ∀ G : Gt, OkE l rm G cc maxL wsy y.cls D tys → (∀ k n ws lv pc v u x, decode cc pc = .ok (.ireturn, 1) → post v u → ws = w' u ++ x → k ≤ rm.cells → n ≤ rm.slots → G k n ws lv pc [.int v]) → G 0 0 w lv0 0 []) : Li l y wsy rm D tys av w post w' := by
  intro sz
  refine Met.ofW (cc := cc) (maxL := maxL) (ret := (some .int)) hy hw ?_
  intro p e s m args below meth c s₁ B hml hv
  obtain ⟨rfl, ⟨hsz, hP, hK, hD0⟩, hSE, hNC⟩ := hv
  have hx := B.exec
  have hb := B.bytes
  have hr := B.returns
  have hts := atoms_spec (ws := wsy) B.pre
  have hown : s.vm.findClass y.cls = some m.cls := findClass_of_methodNamed B.named
  have hlocks := B.notSynchronized
  subst hsz
  have hD := hD0.self (sz := s.heap.size)
  have hA : ∀ q : Nat, s.heap.size ≤ q → va_A w s.heap.size q := fun q h => Or.inr h
  rw [lg_entry_eq]
  refine body _ ⟨p, e, s, m, av.toArray, below, meth, c, _, va_A w s.heap.size, ⟨rfl, hx, hb, hml, hown, hts, hK, hA⟩, hSE, hNC⟩ ?_ s.heap [] _ hP hD va_S.rf (entry_has hlen hlv)
  intro k n ws lv pc v u x hd hp hwu hk hn H locs ls hP hD hS hl
  refine W.widen hk hn ?_
  rw [hwu] at hP hD
  exact W.iret (v := v) hx hb hr (fun t ht hW => ⟨⟨v, u, rfl, hp, by rw [ht]; exact P_l hP, va_K.moved hW.alike hK, D_l hD⟩, hS.F ht⟩) hS.2.2 hd
set_option maxHeartbeats 4000000 in
theorem Li.ofEZ {post : Int32 → T → Prop} {w' : T → va_W} (hy : plainName y.cls = true) (hw : wsy = Cond.code y cc maxL (some .boolean) :: wsy') (hlen : (lg_sl av).length ≤ maxL) {lv0 : List (Nat × Value)} (hlv : lv_args 0 av = lv0)
    (body : ∀ G : Gt, OkE l rm G cc maxL wsy y.cls D tys → (∀ k n ws lv pc (b : Nat) u x, decode cc pc = .ok (.ireturn, 1) → b < 2 → post (nI b) u → ws = w' u ++ x → k ≤ rm.cells → n ≤ rm.slots → G k n ws lv pc [.int (nI b)]) → G 0 0 w lv0 0 []) : Li l y wsy rm D tys av w post w' := by
  intro sz
  refine Met.ofW (cc := cc) (maxL := maxL) (ret := (some .boolean)) hy hw ?_
  intro p e s m args below meth c s₁ B hml hv
  obtain ⟨rfl, ⟨hsz, hP, hK, hD0⟩, hSE, hNC⟩ := hv
  have hx := B.exec
  have hb := B.bytes
  have hr := B.returns
  have hts := atoms_spec (ws := wsy) B.pre
  have hown : s.vm.findClass y.cls = some m.cls := findClass_of_methodNamed B.named
  have hlocks := B.notSynchronized
  subst hsz
  have hD := hD0.self (sz := s.heap.size)
  have hA : ∀ q : Nat, s.heap.size ≤ q → va_A w s.heap.size q := fun q h => Or.inr h
  rw [lg_entry_eq]
  refine body _ ⟨p, e, s, m, av.toArray, below, meth, c, _, va_A w s.heap.size, ⟨rfl, hx, hb, hml, hown, hts, hK, hA⟩, hSE, hNC⟩ ?_ s.heap [] _ hP hD va_S.rf (entry_has hlen hlv)
  intro k n ws lv pc b u x hd hb2 hp hwu hk hn H locs ls hP hD hS hl
  refine W.widen hk hn ?_
  rw [hwu] at hP hD
  have hnar : narrow .boolean (.int (nI b)) = .int (nI b) := by
    rcases (show b = 0 ∨ b = 1 by omega) with rfl | rfl <;> rfl
  exact W.zret (v := nI b) hx hb hr hnar (fun t ht hW => ⟨⟨nI b, u, rfl, hp, by rw [ht]; exact P_l hP, va_K.moved hW.alike hK, D_l hD⟩, hS.F ht⟩) hS.2.2 hd
end OPENE
/-- the law's four rows (cards printed and bans, decks, offers, counts), and rows of a method's own -/
def zX (e : Nat → Nat) (c : Nat → ClassId) (U : St) (x : va_W) : va_W := (e 0, .inl (c 0, 32, .inl (ar (U 0)))) :: (e 1, .inl (c 0, 24, .inl (ar (U 1)))) :: (e 2, .inl (c 0, 40, .inl (ar (U 2)))) :: (e 3, .inl (c 0, 5, .inl (ar (U 3)))) :: x
def wW (a b e : Nat → Nat) (c : Nat → ClassId) (S J T K U : St) (x : va_W) : va_W := wC a c S J ++ (wC b c T K ++ zX e c U x)
theorem wW_app (a b e : Nat → Nat) (c : Nat → ClassId) (S J T K U : St) (x : va_W) : wW a b e c S J T K U x = wW a b e c S J T K U [] ++ x := by
  unfold wW
  rw [List.append_assoc, List.append_assoc]; rfl
theorem wW_nil (a b e : Nat → Nat) (c : Nat → ClassId) (S J T K U : St) : wW a b e c S J T K U [] = wW a b e c S J T K U [] ++ [] := (List.append_nil _).symm
section ZX
variable (e : Nat → Nat) (c : Nat → ClassId) (U : St) (x : va_W)
theorem zX_g0 : (zX e c U x)[0]? = some (e 0, .inl (c 0, 32, .inl (ar (U 0)))) := rfl
theorem zX_g1 : (zX e c U x)[1]? = some (e 1, .inl (c 0, 24, .inl (ar (U 1)))) := rfl
theorem zX_g2 : (zX e c U x)[2]? = some (e 2, .inl (c 0, 40, .inl (ar (U 2)))) := rfl
theorem zX_g3 : (zX e c U x)[3]? = some (e 3, .inl (c 0, 5, .inl (ar (U 3)))) := rfl
theorem zX_s0 (k v : Nat) : (zX e c U x).set 0 (e 0, .inl (c 0, 32, .inl (ar (upf (U 0) k v)))) = zX e c (up U 0 k v) x := rfl
theorem zX_s1 (k v : Nat) : (zX e c U x).set 1 (e 1, .inl (c 0, 24, .inl (ar (upf (U 1) k v)))) = zX e c (up U 1 k v) x := rfl
theorem zX_s2 (k v : Nat) : (zX e c U x).set 2 (e 2, .inl (c 0, 40, .inl (ar (upf (U 2) k v)))) = zX e c (up U 2 k v) x := rfl
theorem zX_s3 (k v : Nat) : (zX e c U x).set 3 (e 3, .inl (c 0, 5, .inl (ar (upf (U 3) k v)))) = zX e c (up U 3 k v) x := rfl
end ZX
theorem set_r {α : Type} (e : α) : ∀ (x y : List α) (k : Nat), (x ++ y).set (x.length + k) e = x ++ y.set k e
  | [], y, k => by rw [List.length_nil, Nat.zero_add]; rfl
  | h :: t, y, k => by
    rw [List.length_cons, show t.length + 1 + k = (t.length + k) + 1 by omega, List.cons_append, List.set_cons_succ, set_r e t y k]; rfl
/-- a call of the law's, on one house, with one answer and one state behind it -/
def Lw (l : Launch) (y : MethodName) (wsy : List Cond) (rm : Room) (D : va_G) (c : Nat → ClassId) (a : Nat → Nat) (av : List Value) (S : St) (v : Int32) (S1 : St) : Prop := ∀ J : St, Li l y wsy rm D (tyW c) av (wC a c S J) (fun r (_ : St) => r = v) (fun J1 => wC a c S1 J1)
theorem Lw.to {l : Launch} {y : MethodName} {wsy : List Cond} {rm : Room} {D : va_G} {c : Nat → ClassId} {a : Nat → Nat} {av : List Value} {S S1 S2 : St} {v v2 : Int32} (h : Lw l y wsy rm D c a av S v S1) (hv : v = v2) (hS : S1 = S2) : Lw l y wsy rm D c a av S v2 S2 := hv ▸ hS ▸ h
/-- what a call answers: the exception's code, or the value -/
def wr (t : Nat) (e1 e2 e3 v : Int32) : Int32 := if t = 0 then v else if t = 1 then e1 else if t = 2 then e2 else e3
section WRS
variable {b1 b2 b3 : Bool} {e1 e2 e3 v : Int32} {α : Type} {x y : α}
theorem wr_0 (h1 : b1 = true) (h2 : b2 = true) (h3 : b3 = true) : wr (thr b1 b2 b3) e1 e2 e3 v = v := by rw [thr_0 h1 h2 h3]; rfl
theorem wr_1 (h1 : b1 = false) : wr (thr b1 b2 b3) e1 e2 e3 v = e1 := by rw [thr_1 h1]; rfl
theorem wr_2 (h1 : b1 = true) (h2 : b2 = false) : wr (thr b1 b2 b3) e1 e2 e3 v = e2 := by rw [thr_2 h1 h2]; rfl
theorem wr_3 (h1 : b1 = true) (h2 : b2 = true) (h3 : b3 = false) : wr (thr b1 b2 b3) e1 e2 e3 v = e3 := by rw [thr_3 h1 h2 h3]; rfl
theorem ws_0 (h1 : b1 = true) (h2 : b2 = true) (h3 : b3 = true) : (if thr b1 b2 b3 = 0 then x else y) = x := by rw [thr_0 h1 h2 h3]; rfl
theorem ws_1 (h1 : b1 = false) : (if thr b1 b2 b3 = 0 then x else y) = y := by rw [thr_1 h1]; rfl
theorem ws_2 (h1 : b1 = true) (h2 : b2 = false) : (if thr b1 b2 b3 = 0 then x else y) = y := by rw [thr_2 h1 h2]; rfl
theorem ws_3 (h1 : b1 = true) (h2 : b2 = true) (h3 : b3 = false) : (if thr b1 b2 b3 = 0 then x else y) = y := by rw [thr_3 h1 h2 h3]; rfl
theorem ws_same {t : Nat} : (if t = 0 then x else x) = x := by split <;> rfl
end WRS
section CALLG
variable {l : Launch} {R : Room} {G : Gt} {cc : ByteArray} {nL : Nat} {Ts : List Cond} {own : String} {D : va_G} {tys : List (ClassId × FieldType)} {k n : Nat} {lv lv' : List (Nat × Value)} {pc : Nat} {st : List Value}
variable {y : MethodName} {wsy wsy' : List Cond} {rm : Room} {w z : va_W} {T : Type} {bytes : ByteArray} {maxL index : Nat} {ret : Option FieldType} {hh : List (Nat × Nat × Nat × Nat)}
set_option maxHeartbeats 4000000 in
/-- a call of one of the law's methods over the whole world -/
theorem r_callE (K : OkE l R G cc nL Ts own D tys) {post : Int32 → T → Prop} {w' : T → va_W} {As rest : List Value} (hC : Li l y wsy rm D tys As w post w') (j : Nat) (hG : GoodIn Ts (va_wsS own index y wsy)) (hw : wsy = Cond.code y bytes maxL ret :: wsy') (hds : okDescS y j) (hn : As.length = j) (hR : okRoom rm R maxL k n)
    (hst : st = As.reverse ++ rest) (hcat : (rest.map fun v => v.category).sum ≤ 8) (hd : decode cc pc = .ok (.invokestatic index, 3))
    (kk : ∀ r u, post r u → G (k + rm.cells) (n + rm.slots) (w' u) lv (pc + 3) (.int r :: rest)) : G k n w lv pc st := by
  obtain ⟨p, e, s, m, args, below, meth, c, Q, A, ⟨rfl, hx, hb, hml, hown, hts, hK, hA⟩, hSE, hNC⟩ := K
  intro H locs ls hP hD hS hl
  have hF := reach hD hS hA
  refine va_calli (va_runS (As := As) (rest := rest) ⟨hx, hb, hml, hown, hts⟩ (hC H.size) (va_cwS j hts hG hw rfl rfl hds hR.1) ⟨pre2_blind, fun U hU hW => ⟨rfl, ⟨by rw [hU], by rw [hU]; exact hP, va_K.moved hW.alike hK, hD.weaken (fun _ _ _ _ => trivial)⟩, hSE.move hW hU hS hF, hNC.warm hW⟩⟩ rfl hn hl.1 hst (lv_room hcat) hd hR.2) hS (fun q _ h => hF q h) hF (fun r u t H1 locs1 ht hvm hp hB hz1 hk1 hS1 => ?_)
  obtain ⟨hP1, hK1, hD1⟩ := hB
  rw [ht] at hP1
  exact kk r u hp H1 locs1 ls hP1 (hD1.weaken fun _ q _ h => hF q.1 h) hS1 hl
set_option maxHeartbeats 4000000 in
/-- a call that touches no cell -/
theorem r_callS0 (K : Ok l R G cc nL Ts own D tys) {post : Int32 → T → Prop} {As rest : List Value} (hC : Ci l y wsy rm D tys As [] post (fun _ : T => [])) (j : Nat) (hG : GoodIn Ts (va_wsS own index y wsy)) (hw : wsy = Cond.code y bytes maxL ret :: wsy') (hds : okDescS y j) (hn : As.length = j) (hR : okRoom rm R maxL k n)
    (hst : st = As.reverse ++ rest) (hcat : (rest.map fun v => v.category).sum ≤ 8) (hd : decode cc pc = .ok (.invokestatic index, 3))
    (kk : ∀ r u, post r u → G (k + rm.cells) (n + rm.slots) z lv (pc + 3) (.int r :: rest)) : G k n z lv pc st := by
  obtain ⟨p, e, s, m, args, below, meth, c, Q, A, H0, rfl, hx, hb, hml, hown, hts, hK, hA⟩ := K
  intro H locs ls hP hD hS hl
  have hP0 : va_P D vwCl ([] ++ z) H := hP
  have hD0 : va_D A ([] ++ z) := hD
  have hF := reach (D_l hD0) hS hA
  refine va_calli (va_runS (As := As) (rest := rest) ⟨hx, hb, hml, hown, hts⟩ (hC H.size) (va_cwS j hts hG hw rfl rfl hds hR.1) ⟨pre1_blind, fun U hU hW => ⟨rfl, by rw [hU], by rw [hU]; exact P_l hP0, va_K.moved hW.alike hK, (D_l hD0).weaken (fun _ _ _ _ => trivial)⟩⟩ rfl hn hl.1 hst (lv_room hcat) hd hR.2) hS (fun q _ h => hF q h) hF (fun r u t H1 locs1 ht hvm hp hB hz1 hk1 hS1 => ?_)
  obtain ⟨hP1, hK1, hD1⟩ := hB
  rw [ht] at hP1
  obtain ⟨hP2, hD2⟩ := beside_l hP0 hD0 hk1 hF hP1 hD1
  exact kk r u hp H1 locs1 ls hP2 hD2 hS1 hl
theorem beside_m {D : va_G} {cl : List vw_C} {A0 : Nat → Prop} {w z1 z2 u : va_W} {H H1 : Heap} (hP : va_P D cl (z1 ++ (w ++ z2)) H) (hD : va_D A0 (z1 ++ (w ++ z2))) (hk : ∀ q : Nat, q < H.size → ¬ va_A w H.size q → H1[q]? = H[q]?) (hF : ∀ q, va_A w H.size q → A0 q)
    (hP1 : va_P D cl u H1) (hD1 : va_D (va_A w H.size) u) : va_P D cl (z1 ++ (u ++ z2)) H1 ∧ va_D A0 (z1 ++ (u ++ z2)) := by
  obtain ⟨h1, h2⟩ := beside_l (P_r hP) (D_r hD) hk hF hP1 hD1
  have hx1 : ∀ (i j : Nat) (p q : Nat × va_E), w[i]? = some p → z1[j]? = some q → p.1 ≠ q.1 := fun i j p q hi hj e => D_x hD j i q p hj (in_l hi) e.symm
  obtain ⟨g1, g2⟩ := beside (P_l hP) (D_l hD) hx1 hk hD1
  refine ⟨g1.app h1, (D_l hD).app h2 (fun i j p q hi hj e => ?_)⟩
  by_cases hlt : j < u.length
  · rw [List.getElem?_append_left hlt] at hj
    exact g2 j i q p hj hi e.symm
  · rw [List.getElem?_append_right (by omega)] at hj
    exact D_x hD i (w.length + (j - u.length)) p q hi (in_r hj) e
set_option maxHeartbeats 4000000 in
theorem r_callWm (K : OkE l R G cc nL Ts own D tys) {post : Int32 → T → Prop} {w' : T → va_W} {z1 z2 : va_W} {As rest : List Value} (hC : Li l y wsy rm D tys As w post w') (j : Nat) (hG : GoodIn Ts (va_wsS own index y wsy)) (hw : wsy = Cond.codeWith y bytes maxL ret hh :: wsy') (hds : okDescS y j) (hn : As.length = j) (hR : okRoom rm R maxL k n)
    (hst : st = As.reverse ++ rest) (hcat : (rest.map fun v => v.category).sum ≤ 8) (hd : decode cc pc = .ok (.invokestatic index, 3))
    (kk : ∀ r u, post r u → G (k + rm.cells) (n + rm.slots) (z1 ++ (w' u ++ z2)) lv (pc + 3) (.int r :: rest)) : G k n (z1 ++ (w ++ z2)) lv pc st := by
  obtain ⟨p, e, s, m, args, below, meth, c, Q, A, ⟨rfl, hx, hb, hml, hown, hts, hK, hA⟩, hSE, hNC⟩ := K
  intro H locs ls hP hD hS hl
  have hF := reach (D_l (D_r hD)) hS hA
  refine va_calli (vx_runSW (As := As) (rest := rest) ⟨hx, hb, hml, hown, hts⟩ (hC H.size) (vx_cwSW j hts hG hw rfl rfl hds hR.1) ⟨pre2_blind, fun U hU hW => ⟨rfl, ⟨by rw [hU], by rw [hU]; exact P_l (P_r hP), va_K.moved hW.alike hK, (D_l (D_r hD)).weaken (fun _ _ _ _ => trivial)⟩, hSE.move hW hU hS hF, hNC.warm hW⟩⟩ rfl hn hl.1 hst (lv_room hcat) hd hR.2) hS (fun q _ h => hF q h) hF (fun r u t H1 locs1 ht hvm hp hB hz1 hk1 hS1 => ?_)
  obtain ⟨hP1, hK1, hD1⟩ := hB
  rw [ht] at hP1
  obtain ⟨hP2, hD2⟩ := beside_m hP hD hk1 hF hP1 hD1
  exact kk r u hp H1 locs1 ls hP2 hD2 hS1 hl
set_option maxHeartbeats 4000000 in
theorem r_callVm (K : Ok l R G cc nL Ts own D tys) {post : Int32 → T → Prop} {w' : T → va_W} {z1 z2 : va_W} {C : String} {F : u_T} {N ci b : Nat} {fs As rest : List Value} (hC : Ci l y wsy rm D tys (.ref b :: As) w post w') (j : Nat) (hG : GoodIn Ts (wsV own index C y wsy)) (hw : wsy = Cond.code y bytes maxL ret :: wsy') (hds : okDesc y C j) (hn : As.length = j) (hR : okRoom rm R maxL k n)
    (q0 : Nat) (he : w[q0]? = some (b, .inr (ci, fs))) (hc : vwCl[ci]? = some (C, F, N)) (hst : st = As.reverse ++ .ref b :: rest) (hcat : (rest.map fun v => v.category).sum ≤ 8) (hd : decode cc pc = .ok (.invokevirtual index, 3))
    (kk : ∀ r u, post r u → G (k + rm.cells) (n + rm.slots) (z1 ++ (w' u ++ z2)) lv (pc + 3) (.int r :: rest)) : G k n (z1 ++ (w ++ z2)) lv pc st := by
  obtain ⟨p, e, s, m, args, below, meth, c, Q, A, H0, rfl, hx, hb, hml, hown, hts, hK, hA⟩ := K
  intro H locs ls hP hD hS hl
  have hF := reach (D_l (D_r hD)) hS hA
  refine va_calli (va_runV (As := As) (rest := rest) ⟨hx, hb, hml, hown, hts⟩ (hC H.size) (cwV j hts hG hw rfl rfl hds hR.1) ⟨pre1_blind, va_recv hK (P_l (P_r hP)) hc he, fun U hU hW => ⟨rfl, by rw [hU], by rw [hU]; exact P_l (P_r hP), va_K.moved hW.alike hK, (D_l (D_r hD)).weaken (fun _ _ _ _ => trivial)⟩⟩ rfl hn hl.1 hst (lv_room hcat) hd hR.2) hS (fun q _ h => hF q h) hF (fun r u t H1 locs1 ht hvm hp hB hz1 hk1 hS1 => ?_)
  obtain ⟨hP1, hK1, hD1⟩ := hB
  rw [ht] at hP1
  obtain ⟨hP2, hD2⟩ := beside_m hP hD hk1 hF hP1 hD1
  exact kk r u hp H1 locs1 ls hP2 hD2 hS1 hl
variable {a b e : Nat → Nat} {c : Nat → ClassId} {S J S1 Tt K2 T1 U U' : St} {x x' : va_W} {v : Int32}
/-- a call on the first house -/
theorem r_callO (K : OkE l R G cc nL Ts own D (tyW c)) {As rest : List Value} (hC : Lw l y wsy rm D c a As S v S1) (j : Nat) (hG : GoodIn Ts (va_wsS own index y wsy)) (hw : wsy = Cond.codeWith y bytes maxL ret hh :: wsy') (hds : okDescS y j) (hn : As.length = j) (hR : okRoom rm R maxL k n)
    (hst : st = As.reverse ++ rest) (hcat : (rest.map fun v => v.category).sum ≤ 8) (hd : decode cc pc = .ok (.invokestatic index, 3))
    (kk : ∀ J1, G (k + rm.cells) (n + rm.slots) (wW a b e c S1 J1 Tt K2 U x) lv (pc + 3) (.int v :: rest)) : G k n (wW a b e c S J Tt K2 U x) lv pc st :=
  r_callW (z := wC b c Tt K2 ++ zX e c U x) K (hC J) j hG hw hds hn hR hst hcat hd (fun r u hr => by rw [hr]; exact kk u)
/-- a call on the second house -/
theorem r_callT (K : OkE l R G cc nL Ts own D (tyW c)) {As rest : List Value} (hC : Lw l y wsy rm D c b As Tt v T1) (j : Nat) (hG : GoodIn Ts (va_wsS own index y wsy)) (hw : wsy = Cond.codeWith y bytes maxL ret hh :: wsy') (hds : okDescS y j) (hn : As.length = j) (hR : okRoom rm R maxL k n)
    (hst : st = As.reverse ++ rest) (hcat : (rest.map fun v => v.category).sum ≤ 8) (hd : decode cc pc = .ok (.invokestatic index, 3))
    (kk : ∀ J1, G (k + rm.cells) (n + rm.slots) (wW a b e c S J T1 J1 U x) lv (pc + 3) (.int v :: rest)) : G k n (wW a b e c S J Tt K2 U x) lv pc st :=
  r_callWm (z1 := wC a c S J) (z2 := zX e c U x) K (hC K2) j hG hw hds hn hR hst hcat hd (fun r u hr => by rw [hr]; exact kk u)
theorem r_callVO (K : Ok l R G cc nL Ts own D (tyW c)) {As rest : List Value} {f : T → St} {C : String} {F : u_T} {N : Nat} (hC : Ci l y wsy rm D (tyW c) (.ref (a 0) :: As) (wC a c S J) (fun r (_ : T) => r = v) (fun u => wC a c S1 (f u))) (j : Nat) (hG : GoodIn Ts (wsV own index C y wsy)) (hw : wsy = Cond.code y bytes maxL ret :: wsy') (hds : okDesc y C j) (hn : As.length = j) (hR : okRoom rm R maxL k n)
    (hc : vwCl[6]? = some (C, F, N)) (hst : st = As.reverse ++ .ref (a 0) :: rest) (hcat : (rest.map fun v => v.category).sum ≤ 8) (hd : decode cc pc = .ok (.invokevirtual index, 3))
    (kk : ∀ J1, G (k + rm.cells) (n + rm.slots) (wW a b e c S1 J1 Tt K2 U x) lv (pc + 3) (.int v :: rest)) : G k n (wW a b e c S J Tt K2 U x) lv pc st :=
  r_callVl (z := wC b c Tt K2 ++ zX e c U x) K hC j hG hw hds hn hR 0 (wC_g0 _ _ _ _) hc hst hcat hd (fun r u hr => by rw [hr]; exact kk (f u))
theorem r_callVT (K : Ok l R G cc nL Ts own D (tyW c)) {As rest : List Value} {f : T → St} {C : String} {F : u_T} {N : Nat} (hC : Ci l y wsy rm D (tyW c) (.ref (b 0) :: As) (wC b c Tt K2) (fun r (_ : T) => r = v) (fun u => wC b c T1 (f u))) (j : Nat) (hG : GoodIn Ts (wsV own index C y wsy)) (hw : wsy = Cond.code y bytes maxL ret :: wsy') (hds : okDesc y C j) (hn : As.length = j) (hR : okRoom rm R maxL k n)
    (hc : vwCl[6]? = some (C, F, N)) (hst : st = As.reverse ++ .ref (b 0) :: rest) (hcat : (rest.map fun v => v.category).sum ≤ 8) (hd : decode cc pc = .ok (.invokevirtual index, 3))
    (kk : ∀ J1, G (k + rm.cells) (n + rm.slots) (wW a b e c S J T1 J1 U x) lv (pc + 3) (.int v :: rest)) : G k n (wW a b e c S J Tt K2 U x) lv pc st :=
  r_callVm (z1 := wC a c S J) (z2 := zX e c U x) K hC j hG hw hds hn hR 0 (wC_g0 _ _ _ _) hc hst hcat hd (fun r u hr => by rw [hr]; exact kk (f u))
/-- the law's rows -/
theorem r_ldZ (K : Ok l R G cc nL Ts own D (tyW c)) {ad N i : Nat} {g : Nat → Nat} (q0 : Nat) (ha : (zX e c U x)[q0]? = some (ad, .inl (c 0, N, .inl (ar g)))) (hi : i < N) (hN : N < 2147483648) (hd : decode cc pc = .ok (.iaload, 1)) (kk : G k n (wW a b e c S J Tt K2 U x) lv (pc + 1) (.int (nI (g i)) :: st)) : G k n (wW a b e c S J Tt K2 U x) lv pc (.int (nI i) :: .ref ad :: st) :=
  r_iald K ((wC a c S J).length + ((wC b c Tt K2).length + q0)) 0 (in_r (in_r ha)) rfl hi hN hd kk
theorem r_stZ (K : Ok l R G cc nL Ts own D (tyW c)) {ad N i v : Nat} {g : Nat → Nat} (q0 : Nat) (ha : (zX e c U x)[q0]? = some (ad, .inl (c 0, N, .inl (ar g)))) (hi : i < N) (hN : N < 2147483648) (hd : decode cc pc = .ok (.iastore, 1)) (hset : (zX e c U x).set q0 (ad, .inl (c 0, N, .inl (ar (upf g i v)))) = zX e c U' x') (kk : G k n (wW a b e c S J Tt K2 U' x') lv (pc + 1) st) : G k n (wW a b e c S J Tt K2 U x) lv pc (.int (nI v) :: .int (nI i) :: .ref ad :: st) :=
  r_iast K ((wC a c S J).length + ((wC b c Tt K2).length + q0)) 0 (in_r (in_r ha)) rfl hi hN hd (by unfold wW; rw [set_r, set_r, hset]) kk
theorem r_newZ (K : Ok l R G cc nL Ts own D (tyW c)) {N : Nat} (harr : Cond.arrayClass .int ∈ Ts) (hN : N < 1000000) (hR : k + 1 ≤ R.cells ∧ n + N ≤ R.slots) (hd : decode cc pc = .ok (.newarray .int, 2)) (kk : ∀ q, G (k + 1) (n + N) (wW a b e c S J Tt K2 U (x ++ [(q, .inl (c 0, N, .inl (ar fun _ => 0)))])) lv (pc + 2) (.ref q :: st)) : G k n (wW a b e c S J Tt K2 U x) lv pc (.int (nI N) :: st) := by
  obtain ⟨p, e', s, m, args, below, meth, c', Q, A, H0, rfl, hx, hb, hml, hown, hts, hK, hA⟩ := K
  intro H locs ls hP hD hS hl
  refine va_newa (atype := .int) (ty := .int) (N' := N) (a0 := (N, .inl (ar fun _ => 0))) hx hb (hts _ harr) rfl hK hP hD hS hA (fun cA => rfl) (show ¬ nI N < 0 from fun q => vp_in_nI (Nat.lt_succ_self N) (by omega) (Or.inl q)) (nI_clamp (by omega)) (by show N * 4 ≤ _; omega) hR.1 hR.2 hd (fun q cA H1 hK1 hP1 hD1 hS1 => ?_)
  have e1 : s.vm.findClass ("[" ++ FieldType.int.toString) = some cA := (hK1.2 3 (cA, .int) rfl).2
  have e2 : s.vm.findClass ("[" ++ FieldType.int.toString) = some (c 0) := (hK.2 0 (c 0, .int) rfl).2
  obtain rfl : cA = c 0 := Option.some.inj (e1.symm.trans e2)
  have ew : wW a b e c S J Tt K2 U x ++ [(q, .inl (c 0, N, .inl (ar fun _ => 0)))] = wW a b e c S J Tt K2 U (x ++ [(q, .inl (c 0, N, .inl (ar fun _ => 0)))]) := by
    rw [wW_app a b e c S J Tt K2 U x, wW_app a b e c S J Tt K2 U (x ++ _), List.append_assoc]
  rw [ew] at hP1 hD1
  exact kk q H1 locs ls hP1 hD1 hS1 hl
theorem r_ldc (K : Ok l R G cc nL Ts own D tys) {ws : va_W} {ix : Nat} {v : Int32} (hc : Cond.constant own ix v ∈ Ts) (hd : decode cc pc = .ok (.ldc ix, 2)) (kk : G k n ws lv (pc + 2) (.int v :: st)) : G k n ws lv pc st := by
  obtain ⟨p, e, s, m, args, below, meth, c, Q, A, H0, rfl, hx, hb, hml, hown, hts, hK, hA⟩ := K
  intro H locs ls hP hD hS hl
  exact lv_ldc hx hb hown (hts _ hc) hd (kk H locs ls hP hD hS hl)
theorem r_sipush (K : Ok l R G cc nL Ts own D tys) {ws : va_W} {z : Int} (v : Int32) (hd : decode cc pc = .ok (.sipush z, 3)) (hv : (Int16.ofInt z).toInt32 = v) (kk : G k n ws lv (pc + 3) (.int v :: st)) : G k n ws lv pc st := by
  obtain ⟨p, e, s, m, args, below, meth, c, Q, A, H0, rfl, hx, hb, hml, hown, hts, hK, hA⟩ := K
  intro H locs ls hP hD hS hl
  exact lv_sipush hx hb hd hv (kk H locs ls hP hD hS hl)
theorem r_irem (K : Ok l R G cc nL Ts own D tys) {ws : va_W} {x y : Nat} (hd : decode cc pc = .ok (.irem, 1)) (hx0 : x < 2147483648) (h0 : 0 < y) (hy : y < 2147483648) (kk : G k n ws lv (pc + 1) (.int (nI (x % y)) :: st)) : G k n ws lv pc (.int (nI y) :: .int (nI x) :: st) := by
  obtain ⟨p, e, s, m, args, below, meth, c, Q, A, H0, rfl, hx, hb, hml, hown, hts, hK, hA⟩ := K
  intro H locs ls hP hD hS hl
  refine lv_irem hx hb hd (nI_ne0 h0 hy) ?_
  rw [pk_rem hx0 h0 hy]
  exact kk H locs ls hP hD hS hl
theorem r_ishrR (K : Ok l R G cc nL Ts own D tys) {ws : va_W} {x y : Int32} (hd : decode cc pc = .ok (.ishr, 1)) (kk : G k n ws lv (pc + 1) (.int (x >>> (y &&& 31)) :: st)) : G k n ws lv pc (.int y :: .int x :: st) := by
  obtain ⟨p, e, s, m, args, below, meth, c, Q, A, H0, rfl, hx, hb, hml, hown, hts, hK, hA⟩ := K
  intro H locs ls hP hD hS hl
  exact lv_ishr hx hb hd (kk H locs ls hP hD hS hl)
theorem r_inegR (K : Ok l R G cc nL Ts own D tys) {ws : va_W} {x : Int32} (hd : decode cc pc = .ok (.ineg, 1)) (kk : G k n ws lv (pc + 1) (.int (-x) :: st)) : G k n ws lv pc (.int x :: st) := by
  obtain ⟨p, e, s, m, args, below, meth, c, Q, A, H0, rfl, hx, hb, hml, hown, hts, hK, hA⟩ := K
  intro H locs ls hP hD hS hl
  exact lv_ineg hx hb hd (kk H locs ls hP hD hS hl)
theorem r_lshl (K : Ok l R G cc nL Ts own D tys) {ws : va_W} {x v : Int64} {y : Int32} (hd : decode cc pc = .ok (.lshl, 1)) (hv : x <<< (y.toInt64 &&& 63) = v) (kk : G k n ws lv (pc + 1) (.long v :: st)) : G k n ws lv pc (.int y :: .long x :: st) := by
  obtain ⟨p, e, s, m, args, below, meth, c, Q, A, H0, rfl, hx, hb, hml, hown, hts, hK, hA⟩ := K
  intro H locs ls hP hD hS hl
  exact lv_lshl hx hb hd hv (kk H locs ls hP hD hS hl)
theorem r_lshr (K : Ok l R G cc nL Ts own D tys) {ws : va_W} {x v : Int64} {y : Int32} (hd : decode cc pc = .ok (.lshr, 1)) (hv : x >>> (y.toInt64 &&& 63) = v) (kk : G k n ws lv (pc + 1) (.long v :: st)) : G k n ws lv pc (.int y :: .long x :: st) := by
  obtain ⟨p, e, s, m, args, below, meth, c, Q, A, H0, rfl, hx, hb, hml, hown, hts, hK, hA⟩ := K
  intro H locs ls hP hD hS hl
  exact lv_lshr hx hb hd hv (kk H locs ls hP hD hS hl)
theorem r_land (K : Ok l R G cc nL Ts own D tys) {ws : va_W} {x y v : Int64} (hd : decode cc pc = .ok (.land, 1)) (hv : x &&& y = v) (kk : G k n ws lv (pc + 1) (.long v :: st)) : G k n ws lv pc (.long y :: .long x :: st) := by
  obtain ⟨p, e, s, m, args, below, meth, c, Q, A, H0, rfl, hx, hb, hml, hown, hts, hK, hA⟩ := K
  intro H locs ls hP hD hS hl
  refine lv_land hx hb hd ?_
  rw [hv]
  exact kk H locs ls hP hD hS hl
theorem r_lor (K : Ok l R G cc nL Ts own D tys) {ws : va_W} {x y v : Int64} (hd : decode cc pc = .ok (.lor, 1)) (hv : x ||| y = v) (kk : G k n ws lv (pc + 1) (.long v :: st)) : G k n ws lv pc (.long y :: .long x :: st) := by
  obtain ⟨p, e, s, m, args, below, meth, c, Q, A, H0, rfl, hx, hb, hml, hown, hts, hK, hA⟩ := K
  intro H locs ls hP hD hS hl
  refine lv_lor hx hb hd ?_
  rw [hv]
  exact kk H locs ls hP hD hS hl
theorem r_lsub (K : Ok l R G cc nL Ts own D tys) {ws : va_W} {x y : Nat} (hd : decode cc pc = .ok (.lsub, 1)) (h : y ≤ x) (kk : G k n ws lv (pc + 1) (.long (lN (x - y)) :: st)) : G k n ws lv pc (.long (lN y) :: .long (lN x) :: st) := by
  obtain ⟨p, e, s, m, args, below, meth, c, Q, A, H0, rfl, hx, hb, hml, hown, hts, hK, hA⟩ := K
  intro H locs ls hP hD hS hl
  refine lv_lsub hx hb hd ?_
  rw [lN_sub h]
  exact kk H locs ls hP hD hS hl
theorem r_lstore_n (K : Ok l R G cc nL Ts own D tys) {ws : va_W} {f : Fin 4} {x : Int64} (hd : decode cc pc = .ok (.lstore_n f, 1)) (hn : (f : Nat) + 1 < nL) (hq : lputL (f : Nat) (.long x) lv = lv') (kk : G k n ws lv' (pc + 1) st) : G k n ws lv pc (.long x :: st) := by
  obtain ⟨p, e, s, m, args, below, meth, c, Q, A, H0, rfl, hx, hb, hml, hown, hts, hK, hA⟩ := K
  intro H locs ls hP hD hS hl
  refine lv_lstore_n (lv' := _) hx hb hd rfl hl hn rfl (fun ls' hl' => kk H locs ls' hP hD hS (lv_mono hl' fun q hq' => ?_))
  rw [← hq] at hq'
  exact lins_mem hq'
end CALLG
/-- 31 bits of a number -/
theorem low31 (x : Int32) : ∃ j : Nat, j < 2147483648 ∧ x &&& nI 2147483647 = nI j := pk_andE x 31 (by decide)
end LAWG
