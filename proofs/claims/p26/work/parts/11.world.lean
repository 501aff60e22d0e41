
/-! The two worlds: the house's cells (wC) and the reference's (wM), over numbers S (field, place) and working rows J. -/
abbrev St : Type := Nat → Nat → Nat
def up (S : St) (f k v : Nat) : St := fun g => if g = f then upf (S g) k v else S g
theorem upf_same {g : Nat → Nat} {k v : Nat} : upf g k v k = v := if_pos rfl
theorem upf_ne {g : Nat → Nat} {k v j : Nat} (h : j ≠ k) : upf g k v j = g j := if_neg h
theorem up_same {S : St} {f k v : Nat} : up S f k v f k = v := by unfold up; rw [if_pos rfl]; exact upf_same
theorem up_f {S : St} {f k v : Nat} : up S f k v f = upf (S f) k v := by unfold up; exact if_pos rfl
theorem up_ne {S : St} {f k v g : Nat} (h : g ≠ f) : up S f k v g = S g := by unfold up; exact if_neg h
theorem up_nk {S : St} {f k v j : Nat} (h : j ≠ k) : up S f k v f j = S f j := by rw [up_f]; exact upf_ne h
def flat (S : St) : Nat → Nat := fun k => S (30 + k / 10) (k % 10)
theorem flat_at (S : St) {d p : Nat} (hp : p < 10) : flat S (10 * d + p) = S (30 + d) p := by
  unfold flat
  rw [show (10 * d + p) / 10 = d by omega, show (10 * d + p) % 10 = p by omega]
theorem flat_up (S : St) {d p v : Nat} (hp : p < 10) : upf (flat S) (10 * d + p) v = flat (up S (30 + d) p v) := by
  funext k
  unfold upf flat up
  by_cases e : k = 10 * d + p
  · subst e
    rw [if_pos rfl, if_pos (by omega)]
    unfold upf
    rw [if_pos (by omega)]
  · rw [if_neg e]
    by_cases e2 : 30 + k / 10 = 30 + d
    · rw [if_pos e2]
      unfold upf
      rw [if_neg (by omega)]
    · rw [if_neg e2]
theorem flat_ne {S : St} {f k v : Nat} (h : f < 30) : flat (up S f k v) = flat S := by
  funext j
  unfold flat
  rw [up_ne (by omega)]
def tyW (c : Nat → ClassId) : List (ClassId × FieldType) := [(c 0, .int), (c 1, .boolean), (c 2, .array .int)]
def rowsOf (a : Nat → Nat) : Nat → Option Nat := fun d => if d < 12 then some (a (30 + d)) else none

def wC (a : Nat → Nat) (c : Nat → ClassId) (S J : St) : va_W := [(a 0, .inr (6, [.ref (a 1), .ref (a 2), .ref (a 3), .ref (a 4), .ref (a 5), .ref (a 6), .ref (a 7)])),
  (a 1, .inr (1, [.ref (a 10), .ref (a 11), .ref (a 12), .ref (a 13), .ref (a 14)])),
  (a 2, .inr (4, [.ref (a 15), .ref (a 16), .ref (a 17), .int (nI (S 2 0))])),
  (a 3, .inr (0, [.ref (a 18), .ref (a 19), .ref (a 20), .int (nI (S 3 0)), .int (nI (S 3 1)), .int (nI (S 3 2))])),
  (a 4, .inr (2, [.ref (a 21), .ref (a 22), .ref (a 23), .ref (a 24), .ref (a 25), .ref (a 26), .int (nI (S 4 0))])),
  (a 5, .inr (3, [.ref (a 27)])),
  (a 6, .inr (5, [.ref (a 8), .int (nI (J 6 0)), .int (nI (J 6 1))])),
  (a 7, .inr (5, [.ref (a 9), .int (nI (J 7 0)), .int (nI (J 7 1))])),
  (a 8, .inr (3, [.ref (a 28)])),
  (a 9, .inr (3, [.ref (a 29)])),
  (a 10, .inl (c 0, 16, .inl (ar (S 10)))),
  (a 11, .inl (c 0, 16, .inl (ar (S 11)))),
  (a 12, .inl (c 1, 16, .inl (ar (S 12)))),
  (a 13, .inl (c 0, 16, .inl (ar (S 13)))),
  (a 14, .inl (c 0, 16, .inl (ar (S 14)))),
  (a 15, .inl (c 0, 80, .inl (ar (S 15)))),
  (a 16, .inl (c 0, 80, .inl (ar (S 16)))),
  (a 17, .inl (c 0, 80, .inl (ar (S 17)))),
  (a 18, .inl (c 0, 12, .inl (ar (S 18)))),
  (a 19, .inl (c 0, 12, .inl (ar (S 19)))),
  (a 20, .inl (c 2, 12, .inr (.inr (.inr (.inr (rowsOf a)))))),
  (a 21, .inl (c 0, 40, .inl (ar (S 21)))),
  (a 22, .inl (c 0, 40, .inl (ar (S 22)))),
  (a 23, .inl (c 0, 40, .inl (ar (S 23)))),
  (a 24, .inl (c 0, 40, .inl (ar (S 24)))),
  (a 25, .inl (c 1, 40, .inl (ar (S 25)))),
  (a 26, .inl (c 0, 4, .inl (ar (J 26)))),
  (a 27, .inl (c 0, 10, .inl (ar (J 27)))),
  (a 28, .inl (c 0, 10, .inl (ar (J 28)))),
  (a 29, .inl (c 0, 10, .inl (ar (J 29)))),
  (a 30, .inl (c 0, 10, .inl (ar (S 30)))),
  (a 31, .inl (c 0, 10, .inl (ar (S 31)))),
  (a 32, .inl (c 0, 10, .inl (ar (S 32)))),
  (a 33, .inl (c 0, 10, .inl (ar (S 33)))),
  (a 34, .inl (c 0, 10, .inl (ar (S 34)))),
  (a 35, .inl (c 0, 10, .inl (ar (S 35)))),
  (a 36, .inl (c 0, 10, .inl (ar (S 36)))),
  (a 37, .inl (c 0, 10, .inl (ar (S 37)))),
  (a 38, .inl (c 0, 10, .inl (ar (S 38)))),
  (a 39, .inl (c 0, 10, .inl (ar (S 39)))),
  (a 40, .inl (c 0, 10, .inl (ar (S 40)))),
  (a 41, .inl (c 0, 10, .inl (ar (S 41))))]

section WC
variable (a : Nat → Nat) (c : Nat → ClassId) (S J : St)
theorem wC_g0 : (wC a c S J)[0]? = some (a 0, .inr (6, [.ref (a 1), .ref (a 2), .ref (a 3), .ref (a 4), .ref (a 5), .ref (a 6), .ref (a 7)])) := rfl
theorem wC_g1 : (wC a c S J)[1]? = some (a 1, .inr (1, [.ref (a 10), .ref (a 11), .ref (a 12), .ref (a 13), .ref (a 14)])) := rfl
theorem wC_g2 : (wC a c S J)[2]? = some (a 2, .inr (4, [.ref (a 15), .ref (a 16), .ref (a 17), .int (nI (S 2 0))])) := rfl
theorem wC_g3 : (wC a c S J)[3]? = some (a 3, .inr (0, [.ref (a 18), .ref (a 19), .ref (a 20), .int (nI (S 3 0)), .int (nI (S 3 1)), .int (nI (S 3 2))])) := rfl
theorem wC_g4 : (wC a c S J)[4]? = some (a 4, .inr (2, [.ref (a 21), .ref (a 22), .ref (a 23), .ref (a 24), .ref (a 25), .ref (a 26), .int (nI (S 4 0))])) := rfl
theorem wC_g5 : (wC a c S J)[5]? = some (a 5, .inr (3, [.ref (a 27)])) := rfl
theorem wC_g6 : (wC a c S J)[6]? = some (a 6, .inr (5, [.ref (a 8), .int (nI (J 6 0)), .int (nI (J 6 1))])) := rfl
theorem wC_g7 : (wC a c S J)[7]? = some (a 7, .inr (5, [.ref (a 9), .int (nI (J 7 0)), .int (nI (J 7 1))])) := rfl
theorem wC_g8 : (wC a c S J)[8]? = some (a 8, .inr (3, [.ref (a 28)])) := rfl
theorem wC_g9 : (wC a c S J)[9]? = some (a 9, .inr (3, [.ref (a 29)])) := rfl
theorem wC_g10 : (wC a c S J)[10]? = some (a 10, .inl (c 0, 16, .inl (ar (S 10)))) := rfl
theorem wC_g11 : (wC a c S J)[11]? = some (a 11, .inl (c 0, 16, .inl (ar (S 11)))) := rfl
theorem wC_g12 : (wC a c S J)[12]? = some (a 12, .inl (c 1, 16, .inl (ar (S 12)))) := rfl
theorem wC_g13 : (wC a c S J)[13]? = some (a 13, .inl (c 0, 16, .inl (ar (S 13)))) := rfl
theorem wC_g14 : (wC a c S J)[14]? = some (a 14, .inl (c 0, 16, .inl (ar (S 14)))) := rfl
theorem wC_g15 : (wC a c S J)[15]? = some (a 15, .inl (c 0, 80, .inl (ar (S 15)))) := rfl
theorem wC_g16 : (wC a c S J)[16]? = some (a 16, .inl (c 0, 80, .inl (ar (S 16)))) := rfl
theorem wC_g17 : (wC a c S J)[17]? = some (a 17, .inl (c 0, 80, .inl (ar (S 17)))) := rfl
theorem wC_g18 : (wC a c S J)[18]? = some (a 18, .inl (c 0, 12, .inl (ar (S 18)))) := rfl
theorem wC_g19 : (wC a c S J)[19]? = some (a 19, .inl (c 0, 12, .inl (ar (S 19)))) := rfl
theorem wC_g20 : (wC a c S J)[20]? = some (a 20, .inl (c 2, 12, .inr (.inr (.inr (.inr (rowsOf a)))))) := rfl
theorem wC_g21 : (wC a c S J)[21]? = some (a 21, .inl (c 0, 40, .inl (ar (S 21)))) := rfl
theorem wC_g22 : (wC a c S J)[22]? = some (a 22, .inl (c 0, 40, .inl (ar (S 22)))) := rfl
theorem wC_g23 : (wC a c S J)[23]? = some (a 23, .inl (c 0, 40, .inl (ar (S 23)))) := rfl
theorem wC_g24 : (wC a c S J)[24]? = some (a 24, .inl (c 0, 40, .inl (ar (S 24)))) := rfl
theorem wC_g25 : (wC a c S J)[25]? = some (a 25, .inl (c 1, 40, .inl (ar (S 25)))) := rfl
theorem wC_g26 : (wC a c S J)[26]? = some (a 26, .inl (c 0, 4, .inl (ar (J 26)))) := rfl
theorem wC_g27 : (wC a c S J)[27]? = some (a 27, .inl (c 0, 10, .inl (ar (J 27)))) := rfl
theorem wC_g28 : (wC a c S J)[28]? = some (a 28, .inl (c 0, 10, .inl (ar (J 28)))) := rfl
theorem wC_g29 : (wC a c S J)[29]? = some (a 29, .inl (c 0, 10, .inl (ar (J 29)))) := rfl
theorem wC_g30 : (wC a c S J)[30]? = some (a 30, .inl (c 0, 10, .inl (ar (S 30)))) := rfl
theorem wC_g31 : (wC a c S J)[31]? = some (a 31, .inl (c 0, 10, .inl (ar (S 31)))) := rfl
theorem wC_g32 : (wC a c S J)[32]? = some (a 32, .inl (c 0, 10, .inl (ar (S 32)))) := rfl
theorem wC_g33 : (wC a c S J)[33]? = some (a 33, .inl (c 0, 10, .inl (ar (S 33)))) := rfl
theorem wC_g34 : (wC a c S J)[34]? = some (a 34, .inl (c 0, 10, .inl (ar (S 34)))) := rfl
theorem wC_g35 : (wC a c S J)[35]? = some (a 35, .inl (c 0, 10, .inl (ar (S 35)))) := rfl
theorem wC_g36 : (wC a c S J)[36]? = some (a 36, .inl (c 0, 10, .inl (ar (S 36)))) := rfl
theorem wC_g37 : (wC a c S J)[37]? = some (a 37, .inl (c 0, 10, .inl (ar (S 37)))) := rfl
theorem wC_g38 : (wC a c S J)[38]? = some (a 38, .inl (c 0, 10, .inl (ar (S 38)))) := rfl
theorem wC_g39 : (wC a c S J)[39]? = some (a 39, .inl (c 0, 10, .inl (ar (S 39)))) := rfl
theorem wC_g40 : (wC a c S J)[40]? = some (a 40, .inl (c 0, 10, .inl (ar (S 40)))) := rfl
theorem wC_g41 : (wC a c S J)[41]? = some (a 41, .inl (c 0, 10, .inl (ar (S 41)))) := rfl
theorem wC_s2_3 (v : Nat) : (wC a c S J).set 2 (a 2, .inr (4, ([.ref (a 15), .ref (a 16), .ref (a 17), .int (nI (S 2 0))] : List Value).set 3 (.int (nI v)))) = wC a c (up S 2 0 v) J := rfl
theorem wC_s3_3 (v : Nat) : (wC a c S J).set 3 (a 3, .inr (0, ([.ref (a 18), .ref (a 19), .ref (a 20), .int (nI (S 3 0)), .int (nI (S 3 1)), .int (nI (S 3 2))] : List Value).set 3 (.int (nI v)))) = wC a c (up S 3 0 v) J := rfl
theorem wC_s3_4 (v : Nat) : (wC a c S J).set 3 (a 3, .inr (0, ([.ref (a 18), .ref (a 19), .ref (a 20), .int (nI (S 3 0)), .int (nI (S 3 1)), .int (nI (S 3 2))] : List Value).set 4 (.int (nI v)))) = wC a c (up S 3 1 v) J := rfl
theorem wC_s3_5 (v : Nat) : (wC a c S J).set 3 (a 3, .inr (0, ([.ref (a 18), .ref (a 19), .ref (a 20), .int (nI (S 3 0)), .int (nI (S 3 1)), .int (nI (S 3 2))] : List Value).set 5 (.int (nI v)))) = wC a c (up S 3 2 v) J := rfl
theorem wC_s4_6 (v : Nat) : (wC a c S J).set 4 (a 4, .inr (2, ([.ref (a 21), .ref (a 22), .ref (a 23), .ref (a 24), .ref (a 25), .ref (a 26), .int (nI (S 4 0))] : List Value).set 6 (.int (nI v)))) = wC a c (up S 4 0 v) J := rfl
theorem wC_s6_1 (v : Nat) : (wC a c S J).set 6 (a 6, .inr (5, ([.ref (a 8), .int (nI (J 6 0)), .int (nI (J 6 1))] : List Value).set 1 (.int (nI v)))) = wC a c S (up J 6 0 v) := rfl
theorem wC_s6_2 (v : Nat) : (wC a c S J).set 6 (a 6, .inr (5, ([.ref (a 8), .int (nI (J 6 0)), .int (nI (J 6 1))] : List Value).set 2 (.int (nI v)))) = wC a c S (up J 6 1 v) := rfl
theorem wC_s7_1 (v : Nat) : (wC a c S J).set 7 (a 7, .inr (5, ([.ref (a 9), .int (nI (J 7 0)), .int (nI (J 7 1))] : List Value).set 1 (.int (nI v)))) = wC a c S (up J 7 0 v) := rfl
theorem wC_s7_2 (v : Nat) : (wC a c S J).set 7 (a 7, .inr (5, ([.ref (a 9), .int (nI (J 7 0)), .int (nI (J 7 1))] : List Value).set 2 (.int (nI v)))) = wC a c S (up J 7 1 v) := rfl
theorem wC_s10 (k v : Nat) : (wC a c S J).set 10 (a 10, .inl (c 0, 16, .inl (ar (upf (S 10) k v)))) = wC a c (up S 10 k v) J := rfl
theorem wC_s11 (k v : Nat) : (wC a c S J).set 11 (a 11, .inl (c 0, 16, .inl (ar (upf (S 11) k v)))) = wC a c (up S 11 k v) J := rfl
theorem wC_s12 (k v : Nat) : (wC a c S J).set 12 (a 12, .inl (c 1, 16, .inl (ar (upf (S 12) k v)))) = wC a c (up S 12 k v) J := rfl
theorem wC_s13 (k v : Nat) : (wC a c S J).set 13 (a 13, .inl (c 0, 16, .inl (ar (upf (S 13) k v)))) = wC a c (up S 13 k v) J := rfl
theorem wC_s14 (k v : Nat) : (wC a c S J).set 14 (a 14, .inl (c 0, 16, .inl (ar (upf (S 14) k v)))) = wC a c (up S 14 k v) J := rfl
theorem wC_s15 (k v : Nat) : (wC a c S J).set 15 (a 15, .inl (c 0, 80, .inl (ar (upf (S 15) k v)))) = wC a c (up S 15 k v) J := rfl
theorem wC_s16 (k v : Nat) : (wC a c S J).set 16 (a 16, .inl (c 0, 80, .inl (ar (upf (S 16) k v)))) = wC a c (up S 16 k v) J := rfl
theorem wC_s17 (k v : Nat) : (wC a c S J).set 17 (a 17, .inl (c 0, 80, .inl (ar (upf (S 17) k v)))) = wC a c (up S 17 k v) J := rfl
theorem wC_s18 (k v : Nat) : (wC a c S J).set 18 (a 18, .inl (c 0, 12, .inl (ar (upf (S 18) k v)))) = wC a c (up S 18 k v) J := rfl
theorem wC_s19 (k v : Nat) : (wC a c S J).set 19 (a 19, .inl (c 0, 12, .inl (ar (upf (S 19) k v)))) = wC a c (up S 19 k v) J := rfl
theorem wC_s21 (k v : Nat) : (wC a c S J).set 21 (a 21, .inl (c 0, 40, .inl (ar (upf (S 21) k v)))) = wC a c (up S 21 k v) J := rfl
theorem wC_s22 (k v : Nat) : (wC a c S J).set 22 (a 22, .inl (c 0, 40, .inl (ar (upf (S 22) k v)))) = wC a c (up S 22 k v) J := rfl
theorem wC_s23 (k v : Nat) : (wC a c S J).set 23 (a 23, .inl (c 0, 40, .inl (ar (upf (S 23) k v)))) = wC a c (up S 23 k v) J := rfl
theorem wC_s24 (k v : Nat) : (wC a c S J).set 24 (a 24, .inl (c 0, 40, .inl (ar (upf (S 24) k v)))) = wC a c (up S 24 k v) J := rfl
theorem wC_s25 (k v : Nat) : (wC a c S J).set 25 (a 25, .inl (c 1, 40, .inl (ar (upf (S 25) k v)))) = wC a c (up S 25 k v) J := rfl
theorem wC_s26 (k v : Nat) : (wC a c S J).set 26 (a 26, .inl (c 0, 4, .inl (ar (upf (J 26) k v)))) = wC a c S (up J 26 k v) := rfl
theorem wC_s27 (k v : Nat) : (wC a c S J).set 27 (a 27, .inl (c 0, 10, .inl (ar (upf (J 27) k v)))) = wC a c S (up J 27 k v) := rfl
theorem wC_s28 (k v : Nat) : (wC a c S J).set 28 (a 28, .inl (c 0, 10, .inl (ar (upf (J 28) k v)))) = wC a c S (up J 28 k v) := rfl
theorem wC_s29 (k v : Nat) : (wC a c S J).set 29 (a 29, .inl (c 0, 10, .inl (ar (upf (J 29) k v)))) = wC a c S (up J 29 k v) := rfl
theorem wC_s30 (k v : Nat) : (wC a c S J).set 30 (a 30, .inl (c 0, 10, .inl (ar (upf (S 30) k v)))) = wC a c (up S 30 k v) J := rfl
theorem wC_s31 (k v : Nat) : (wC a c S J).set 31 (a 31, .inl (c 0, 10, .inl (ar (upf (S 31) k v)))) = wC a c (up S 31 k v) J := rfl
theorem wC_s32 (k v : Nat) : (wC a c S J).set 32 (a 32, .inl (c 0, 10, .inl (ar (upf (S 32) k v)))) = wC a c (up S 32 k v) J := rfl
theorem wC_s33 (k v : Nat) : (wC a c S J).set 33 (a 33, .inl (c 0, 10, .inl (ar (upf (S 33) k v)))) = wC a c (up S 33 k v) J := rfl
theorem wC_s34 (k v : Nat) : (wC a c S J).set 34 (a 34, .inl (c 0, 10, .inl (ar (upf (S 34) k v)))) = wC a c (up S 34 k v) J := rfl
theorem wC_s35 (k v : Nat) : (wC a c S J).set 35 (a 35, .inl (c 0, 10, .inl (ar (upf (S 35) k v)))) = wC a c (up S 35 k v) J := rfl
theorem wC_s36 (k v : Nat) : (wC a c S J).set 36 (a 36, .inl (c 0, 10, .inl (ar (upf (S 36) k v)))) = wC a c (up S 36 k v) J := rfl
theorem wC_s37 (k v : Nat) : (wC a c S J).set 37 (a 37, .inl (c 0, 10, .inl (ar (upf (S 37) k v)))) = wC a c (up S 37 k v) J := rfl
theorem wC_s38 (k v : Nat) : (wC a c S J).set 38 (a 38, .inl (c 0, 10, .inl (ar (upf (S 38) k v)))) = wC a c (up S 38 k v) J := rfl
theorem wC_s39 (k v : Nat) : (wC a c S J).set 39 (a 39, .inl (c 0, 10, .inl (ar (upf (S 39) k v)))) = wC a c (up S 39 k v) J := rfl
theorem wC_s40 (k v : Nat) : (wC a c S J).set 40 (a 40, .inl (c 0, 10, .inl (ar (upf (S 40) k v)))) = wC a c (up S 40 k v) J := rfl
theorem wC_s41 (k v : Nat) : (wC a c S J).set 41 (a 41, .inl (c 0, 10, .inl (ar (upf (S 41) k v)))) = wC a c (up S 41 k v) J := rfl
theorem wC_row {d : Nat} (h : d < 12) : (wC a c S J)[30 + d]? = some (a (30 + d), .inl (c 0, 10, .inl (ar (S (30 + d))))) := by
  rcases (show d = 0 ∨ d = 1 ∨ d = 2 ∨ d = 3 ∨ d = 4 ∨ d = 5 ∨ d = 6 ∨ d = 7 ∨ d = 8 ∨ d = 9 ∨ d = 10 ∨ d = 11 by omega) with rfl | rfl | rfl | rfl | rfl | rfl | rfl | rfl | rfl | rfl | rfl | rfl <;> rfl
theorem wC_srow {d : Nat} (h : d < 12) (k v : Nat) : (wC a c S J).set (30 + d) (a (30 + d), .inl (c 0, 10, .inl (ar (upf (S (30 + d)) k v)))) = wC a c (up S (30 + d) k v) J := by
  rcases (show d = 0 ∨ d = 1 ∨ d = 2 ∨ d = 3 ∨ d = 4 ∨ d = 5 ∨ d = 6 ∨ d = 7 ∨ d = 8 ∨ d = 9 ∨ d = 10 ∨ d = 11 by omega) with rfl | rfl | rfl | rfl | rfl | rfl | rfl | rfl | rfl | rfl | rfl | rfl <;> rfl
theorem rowsOf_at {d : Nat} (h : d < 12) : rowsOf a d = some (a (30 + d)) := if_pos h
end WC
