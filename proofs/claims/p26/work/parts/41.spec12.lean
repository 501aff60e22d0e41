section SPEC12
variable {l : Launch} {R : Room} {G : Gt} {cc : ByteArray} {nL : Nat} {Ts : List Cond} {own : String} {D : va_G} {tys : List (ClassId × FieldType)} {k n : Nat} {ws ws' : va_W} {lv lv' : List (Nat × Value)} {pc : Nat} {st : List Value}
theorem r_iincR (K : Ok l R G cc nL Ts own D tys) {i : Nat} {x v : Int32} {z : Int} (hd : decode cc pc = .ok (.iinc i z, 3)) (hg : lget lv i = some (.int x)) (hv : x + Int32.ofInt z = v) (hn : i < nL) (hq : lput i (.int v) lv = lv') (kk : G k n ws lv' (pc + 3) st) : G k n ws lv pc st := by
  obtain ⟨p, e, s, m, args, below, meth, c, Q, A, H0, rfl, hx, hb, hml, hown, hts, hK, hA⟩ := K
  intro H locs ls hP hD hS hl
  have hm := lget_mem hg
  obtain ⟨j, hj⟩ := List.getElem?_of_mem hm
  refine lv_iinc (lv' := _) hx hb hd hl hj hv hn rfl (fun ls' hl' => kk H locs ls' hP hD hS (lv_mono hl' fun q hq' => ?_))
  rw [← hq] at hq'
  exact lins_mem hq'
theorem agr_keep {J : St} {Q x : Nat} {pre : List Nat} (h : agr (J Q) pre) : agr (up J Q pre.length x Q) pre := fun q hq => by
  rw [up_nk (by omega)]
  exact h q hq
theorem agr_keep2 {J : St} {Q x k : Nat} {pre : List Nat} (h : agr (J Q) pre) (hk : pre.length ≤ k) : agr (up J Q k x Q) pre := fun q hq => by
  rw [up_nk (by omega)]
  exact h q hq
theorem app_len {pre : List Nat} {x : Nat} : (pre ++ [x]).length = pre.length + 1 := by rw [List.length_append, List.length_singleton]
theorem app_bd {pre : List Nat} {x N : Nat} (h : ∀ q, q < pre.length → g0 pre q < N) (hx : x < N) : ∀ q, q < (pre ++ [x]).length → g0 (pre ++ [x]) q < N := by
  intro q hq
  rw [app_len] at hq
  by_cases e : q = pre.length
  · rw [e, g0_last]; exact hx
  · rw [g0_app (by omega)]; exact h q (by omega)
theorem neg1 : nI (4294967295 + 1) = nI 0 := by decide
theorem m1_lt : (nI 0 + Int32.ofInt (-1)) < 0 := by decide
end SPEC12
