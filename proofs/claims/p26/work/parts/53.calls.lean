section CALLS53
theorem sdB_nI {k : Nat} (h : k < 2147483648) : sdB (nI k) = true := sdB_t (nI_pos h)
theorem w_setKind_0 (l : Launch) (D : va_G) (a : Nat → Nat) (c : Nat → ClassId) (S : St) (hl0 : l.stackTraces = false) (hV : V S)  (xk : Nat) (yk : Nat) (zk : Nat)  (h10 : 0 ≤ xk ∧ xk ≤ 15) (h20 : 0 ≤ yk ∧ yk ≤ 9) (h21 : 0 ≤ zk ∧ zk ≤ 3) : Lw l yL_setKind wsL_setKind rmL_setKind D c a [.ref (a 0), .int (nI xk), .int (nI yk), .int (nI zk)] S (nI (S 10 xk)) ((up (up S 10 xk yk) 11 xk zk)) := by
  have h := c_L_setKind l D a c S hl0 hV (nI xk) (nI yk) (nI zk)
  simp only [tn_nI (show xk < 2147483648 by omega), tn_nI (show yk < 2147483648 by omega), tn_nI (show zk < 2147483648 by omega)] at h
  exact h.to (wr_0 (inB_nI (by omega) (by omega) (by omega)) (and_t (inB_nI (by omega) (by omega) (by omega)) (inB_nI (by omega) (by omega) (by omega))) rfl) (ws_0 (inB_nI (by omega) (by omega) (by omega)) (and_t (inB_nI (by omega) (by omega) (by omega)) (inB_nI (by omega) (by omega) (by omega))) rfl)

theorem w_setKind_2 (l : Launch) (D : va_G) (a : Nat → Nat) (c : Nat → ClassId) (S : St) (hl0 : l.stackTraces = false) (hV : V S)  (xk : Nat) (yk : Nat) (zk : Nat)  (h10 : 0 ≤ xk ∧ xk ≤ 15) (hqy : yk < 2147483648) (hqz : zk < 2147483648) (hf : (inB (nI yk) 0 9 && inB (nI zk) 0 3) = false) : Lw l yL_setKind wsL_setKind rmL_setKind D c a [.ref (a 0), .int (nI xk), .int (nI yk), .int (nI zk)] S (-1000002) (S) := by
  have h := c_L_setKind l D a c S hl0 hV (nI xk) (nI yk) (nI zk)
  simp only [tn_nI (show xk < 2147483648 by omega), tn_nI (show yk < 2147483648 by omega), tn_nI (show zk < 2147483648 by omega)] at h
  exact h.to (wr_2 (inB_nI (by omega) (by omega) (by omega)) hf) (ws_2 (inB_nI (by omega) (by omega) (by omega)) hf)

theorem x_setKind_1 (l : Launch) (D : va_G) (a : Nat → Nat) (c : Nat → ClassId) (S : St) (hl0 : l.stackTraces = false) (hV : V S)  (x : Int32) (y : Int32) (z : Int32)  (h1 : (inB x 0 15) = false) : Lw l yL_setKind wsL_setKind rmL_setKind D c a [.ref (a 0), .int x, .int y, .int z] S (-1000001) S := (c_L_setKind l D a c S hl0 hV x y z).to (wr_1 h1) (ws_1 h1)

theorem x_setKind_2 (l : Launch) (D : va_G) (a : Nat → Nat) (c : Nat → ClassId) (S : St) (hl0 : l.stackTraces = false) (hV : V S)  (x : Int32) (y : Int32) (z : Int32)  (h1 : (inB x 0 15) = true) (h2 : (inB y 0 9 && inB z 0 3) = false) : Lw l yL_setKind wsL_setKind rmL_setKind D c a [.ref (a 0), .int x, .int y, .int z] S (-1000002) S := (c_L_setKind l D a c S hl0 hV x y z).to (wr_2 h1 h2) (ws_2 h1 h2)

theorem w_setFormat_0 (l : Launch) (D : va_G) (a : Nat → Nat) (c : Nat → ClassId) (S : St) (hl0 : l.stackTraces = false) (hV : V S)  (xk : Nat) (yk : Nat)  (h10 : 4 ≤ xk ∧ xk ≤ 10) (h11 : 1 ≤ yk ∧ yk ≤ 4) : Lw l yL_setFormat wsL_setFormat rmL_setFormat D c a [.ref (a 0), .int (nI xk), .int (nI yk)] S (nI (nAlw (up (up S 3 1 xk) 3 2 yk))) ((up (up S 3 1 xk) 3 2 yk)) := by
  have h := c_L_setFormat l D a c S hl0 hV (nI xk) (nI yk)
  simp only [tn_nI (show xk < 2147483648 by omega), tn_nI (show yk < 2147483648 by omega)] at h
  exact h.to (wr_0 (and_t (inB_nI (by omega) (by omega) (by omega)) (inB_nI (by omega) (by omega) (by omega))) rfl rfl) (ws_0 (and_t (inB_nI (by omega) (by omega) (by omega)) (inB_nI (by omega) (by omega) (by omega))) rfl rfl)

theorem x_setFormat_1 (l : Launch) (D : va_G) (a : Nat → Nat) (c : Nat → ClassId) (S : St) (hl0 : l.stackTraces = false) (hV : V S)  (x : Int32) (y : Int32)  (h1 : (inB x 4 10 && inB y 1 4) = false) : Lw l yL_setFormat wsL_setFormat rmL_setFormat D c a [.ref (a 0), .int x, .int y] S (-1000002) S := (c_L_setFormat l D a c S hl0 hV x y).to (wr_1 h1) (ws_1 h1)

theorem w_ban_0 (l : Launch) (D : va_G) (a : Nat → Nat) (c : Nat → ClassId) (S : St) (hl0 : l.stackTraces = false) (hV : V S)  (xk : Nat) (z : Bool) (h10 : 0 ≤ xk ∧ xk ≤ 15) : Lw l yL_ban wsL_ban rmL_ban D c a [.ref (a 0), .int (nI xk), .int (nI ((z).toNat))] S (nI (nAlw (up S 12 xk z.toNat))) ((up S 12 xk z.toNat)) := by
  have h := c_L_ban l D a c S hl0 hV (nI xk) z
  simp only [tn_nI (show xk < 2147483648 by omega)] at h
  exact h.to (wr_0 (inB_nI (by omega) (by omega) (by omega)) rfl rfl) (ws_0 (inB_nI (by omega) (by omega) (by omega)) rfl rfl)

theorem x_ban_1 (l : Launch) (D : va_G) (a : Nat → Nat) (c : Nat → ClassId) (S : St) (hl0 : l.stackTraces = false) (hV : V S)  (x : Int32) (z : Bool) (h1 : (inB x 0 15) = false) : Lw l yL_ban wsL_ban rmL_ban D c a [.ref (a 0), .int x, .int (nI ((z).toNat))] S (-1000001) S := (c_L_ban l D a c S hl0 hV x z).to (wr_1 h1) (ws_1 h1)

theorem w_print_0 (l : Launch) (D : va_G) (a : Nat → Nat) (c : Nat → ClassId) (S : St) (hl0 : l.stackTraces = false) (hV : V S) (h13 : ∀ k, S 13 k < 999999) (xk : Nat) (yk : Nat)  (h10 : 0 ≤ xk ∧ xk ≤ 15) (h11 : 0 ≤ yk ∧ yk ≤ 5) (h20 : S 2 0 < 80) : Lw l yL_print wsL_print rmL_print D c a [.ref (a 0), .int (nI xk), .int (nI yk)] S (nI (S 2 0)) ((up (up (up (up (up S 13 xk (S 13 xk + 1)) 15 (S 2 0) xk) 16 (S 2 0) (S 13 xk + 1)) 17 (S 2 0) yk) 2 0 (S 2 0 + 1))) := by
  have hb2 := V_cards hV
  have h := c_L_print l D a c S hl0 hV h13 (nI xk) (nI yk)
  simp only [tn_nI (show xk < 2147483648 by omega), tn_nI (show yk < 2147483648 by omega)] at h
  exact h.to (wr_0 (and_t (inB_nI (by omega) (by omega) (by omega)) (inB_nI (by omega) (by omega) (by omega))) (decide_eq_true h20) rfl) (ws_0 (and_t (inB_nI (by omega) (by omega) (by omega)) (inB_nI (by omega) (by omega) (by omega))) (decide_eq_true h20) rfl)

theorem w_print_2 (l : Launch) (D : va_G) (a : Nat → Nat) (c : Nat → ClassId) (S : St) (hl0 : l.stackTraces = false) (hV : V S) (h13 : ∀ k, S 13 k < 999999) (xk : Nat) (yk : Nat)  (h10 : 0 ≤ xk ∧ xk ≤ 15) (h11 : 0 ≤ yk ∧ yk ≤ 5) (hf : (decide (S 2 0 < 80)) = false) : Lw l yL_print wsL_print rmL_print D c a [.ref (a 0), .int (nI xk), .int (nI yk)] S (-1000003) (S) := by
  have hb2 := V_cards hV
  have h := c_L_print l D a c S hl0 hV h13 (nI xk) (nI yk)
  simp only [tn_nI (show xk < 2147483648 by omega), tn_nI (show yk < 2147483648 by omega)] at h
  exact h.to (wr_2 (and_t (inB_nI (by omega) (by omega) (by omega)) (inB_nI (by omega) (by omega) (by omega))) hf) (ws_2 (and_t (inB_nI (by omega) (by omega) (by omega)) (inB_nI (by omega) (by omega) (by omega))) hf)

theorem x_print_1 (l : Launch) (D : va_G) (a : Nat → Nat) (c : Nat → ClassId) (S : St) (hl0 : l.stackTraces = false) (hV : V S) (h13 : ∀ k, S 13 k < 999999) (x : Int32) (y : Int32)  (h1 : (inB x 0 15 && inB y 0 5) = false) : Lw l yL_print wsL_print rmL_print D c a [.ref (a 0), .int x, .int y] S (-1000001) S := (c_L_print l D a c S hl0 hV h13 x y).to (wr_1 h1) (ws_1 h1)

theorem x_print_2 (l : Launch) (D : va_G) (a : Nat → Nat) (c : Nat → ClassId) (S : St) (hl0 : l.stackTraces = false) (hV : V S) (h13 : ∀ k, S 13 k < 999999) (x : Int32) (y : Int32)  (h1 : (inB x 0 15 && inB y 0 5) = true) (h2 : (decide (S 2 0 < 80)) = false) : Lw l yL_print wsL_print rmL_print D c a [.ref (a 0), .int x, .int y] S (-1000003) S := (c_L_print l D a c S hl0 hV h13 x y).to (wr_2 h1 h2) (ws_2 h1 h2)

theorem w_deck_0 (l : Launch) (D : va_G) (a : Nat → Nat) (c : Nat → ClassId) (S : St) (hl0 : l.stackTraces = false) (hV : V S)  (xk : Nat)  (h10 : 0 ≤ xk ∧ xk ≤ 5) (h20 : S 3 0 < 12) : Lw l yL_deck wsL_deck rmL_deck D c a [.ref (a 0), .int (nI xk)] S (nI (S 3 0)) ((up (up S 18 (S 3 0) xk) 3 0 (S 3 0 + 1))) := by
  have hb3 := V_decks hV
  have h := c_L_deck l D a c S hl0 hV (nI xk)
  simp only [tn_nI (show xk < 2147483648 by omega)] at h
  exact h.to (wr_0 (inB_nI (by omega) (by omega) (by omega)) (decide_eq_true h20) rfl) (ws_0 (inB_nI (by omega) (by omega) (by omega)) (decide_eq_true h20) rfl)

theorem w_deck_2 (l : Launch) (D : va_G) (a : Nat → Nat) (c : Nat → ClassId) (S : St) (hl0 : l.stackTraces = false) (hV : V S)  (xk : Nat)  (h10 : 0 ≤ xk ∧ xk ≤ 5) (hf : (decide (S 3 0 < 12)) = false) : Lw l yL_deck wsL_deck rmL_deck D c a [.ref (a 0), .int (nI xk)] S (-1000003) (S) := by
  have hb3 := V_decks hV
  have h := c_L_deck l D a c S hl0 hV (nI xk)
  simp only [tn_nI (show xk < 2147483648 by omega)] at h
  exact h.to (wr_2 (inB_nI (by omega) (by omega) (by omega)) hf) (ws_2 (inB_nI (by omega) (by omega) (by omega)) hf)

theorem x_deck_1 (l : Launch) (D : va_G) (a : Nat → Nat) (c : Nat → ClassId) (S : St) (hl0 : l.stackTraces = false) (hV : V S)  (x : Int32)  (h1 : (inB x 0 5) = false) : Lw l yL_deck wsL_deck rmL_deck D c a [.ref (a 0), .int x] S (-1000001) S := (c_L_deck l D a c S hl0 hV x).to (wr_1 h1) (ws_1 h1)

theorem x_deck_2 (l : Launch) (D : va_G) (a : Nat → Nat) (c : Nat → ClassId) (S : St) (hl0 : l.stackTraces = false) (hV : V S)  (x : Int32)  (h1 : (inB x 0 5) = true) (h2 : (decide (S 3 0 < 12)) = false) : Lw l yL_deck wsL_deck rmL_deck D c a [.ref (a 0), .int x] S (-1000003) S := (c_L_deck l D a c S hl0 hV x).to (wr_2 h1 h2) (ws_2 h1 h2)

theorem w_add_0 (l : Launch) (D : va_G) (a : Nat → Nat) (c : Nat → ClassId) (S : St) (hl0 : l.stackTraces = false) (hV : V S)  (xk : Nat) (yk : Nat)  (h10 : xk < S 3 0) (h11 : yk < S 2 0) (h20 : S 17 yk = S 18 xk) (h21 : holdB S xk yk = false) (h30 : S 19 xk < 10) : Lw l yL_add wsL_add rmL_add D c a [.ref (a 0), .int (nI xk), .int (nI yk)] S (nI (S 19 xk + 1)) ((up (up S (30 + xk) (S 19 xk) yk) 19 xk (S 19 xk + 1))) := by
  have hb3 := V_decks hV
  have hb2 := V_cards hV
  have hb19x := V_size hV xk
  have h := c_L_add l D a c S hl0 hV (nI xk) (nI yk)
  simp only [tn_nI (show xk < 2147483648 by omega), tn_nI (show yk < 2147483648 by omega)] at h
  exact h.to (wr_0 (and_t (inB_nI (by omega) (by omega) (by omega)) (inB_nI (by omega) (by omega) (by omega))) (and_t (decide_eq_true h20) (by rw [h21]; rfl)) (decide_eq_true h30)) (ws_0 (and_t (inB_nI (by omega) (by omega) (by omega)) (inB_nI (by omega) (by omega) (by omega))) (and_t (decide_eq_true h20) (by rw [h21]; rfl)) (decide_eq_true h30))

theorem w_add_2 (l : Launch) (D : va_G) (a : Nat → Nat) (c : Nat → ClassId) (S : St) (hl0 : l.stackTraces = false) (hV : V S)  (xk : Nat) (yk : Nat)  (h10 : xk < S 3 0) (h11 : yk < S 2 0) (hf : (decide (S 17 yk = S 18 xk) && !holdB S xk yk) = false) : Lw l yL_add wsL_add rmL_add D c a [.ref (a 0), .int (nI xk), .int (nI yk)] S (-1000002) (S) := by
  have hb3 := V_decks hV
  have hb2 := V_cards hV
  have hb19x := V_size hV xk
  have h := c_L_add l D a c S hl0 hV (nI xk) (nI yk)
  simp only [tn_nI (show xk < 2147483648 by omega), tn_nI (show yk < 2147483648 by omega)] at h
  exact h.to (wr_2 (and_t (inB_nI (by omega) (by omega) (by omega)) (inB_nI (by omega) (by omega) (by omega))) hf) (ws_2 (and_t (inB_nI (by omega) (by omega) (by omega)) (inB_nI (by omega) (by omega) (by omega))) hf)

theorem w_add_3 (l : Launch) (D : va_G) (a : Nat → Nat) (c : Nat → ClassId) (S : St) (hl0 : l.stackTraces = false) (hV : V S)  (xk : Nat) (yk : Nat)  (h10 : xk < S 3 0) (h11 : yk < S 2 0) (h20 : S 17 yk = S 18 xk) (h21 : holdB S xk yk = false) (hf : (decide (S 19 xk < 10)) = false) : Lw l yL_add wsL_add rmL_add D c a [.ref (a 0), .int (nI xk), .int (nI yk)] S (-1000003) (S) := by
  have hb3 := V_decks hV
  have hb2 := V_cards hV
  have hb19x := V_size hV xk
  have h := c_L_add l D a c S hl0 hV (nI xk) (nI yk)
  simp only [tn_nI (show xk < 2147483648 by omega), tn_nI (show yk < 2147483648 by omega)] at h
  exact h.to (wr_3 (and_t (inB_nI (by omega) (by omega) (by omega)) (inB_nI (by omega) (by omega) (by omega))) (and_t (decide_eq_true h20) (by rw [h21]; rfl)) hf) (ws_3 (and_t (inB_nI (by omega) (by omega) (by omega)) (inB_nI (by omega) (by omega) (by omega))) (and_t (decide_eq_true h20) (by rw [h21]; rfl)) hf)

theorem x_add_1 (l : Launch) (D : va_G) (a : Nat → Nat) (c : Nat → ClassId) (S : St) (hl0 : l.stackTraces = false) (hV : V S)  (x : Int32) (y : Int32)  (h1 : (inB x 0 ((S 3 0 : Nat) - 1) && inB y 0 ((S 2 0 : Nat) - 1)) = false) : Lw l yL_add wsL_add rmL_add D c a [.ref (a 0), .int x, .int y] S (-1000001) S := (c_L_add l D a c S hl0 hV x y).to (wr_1 h1) (ws_1 h1)

theorem x_add_2 (l : Launch) (D : va_G) (a : Nat → Nat) (c : Nat → ClassId) (S : St) (hl0 : l.stackTraces = false) (hV : V S)  (x : Int32) (y : Int32)  (h1 : (inB x 0 ((S 3 0 : Nat) - 1) && inB y 0 ((S 2 0 : Nat) - 1)) = true) (h2 : (decide (S 17 (tn y) = S 18 (tn x)) && !holdB S (tn x) (tn y)) = false) : Lw l yL_add wsL_add rmL_add D c a [.ref (a 0), .int x, .int y] S (-1000002) S := (c_L_add l D a c S hl0 hV x y).to (wr_2 h1 h2) (ws_2 h1 h2)

theorem w_cut_0 (l : Launch) (D : va_G) (a : Nat → Nat) (c : Nat → ClassId) (S : St) (hl0 : l.stackTraces = false) (hV : V S)  (xk : Nat) (yk : Nat)  (h10 : xk < S 3 0) (h11 : yk < S 19 xk) : Lw l yL_cut wsL_cut rmL_cut D c a [.ref (a 0), .int (nI xk), .int (nI yk)] S (nI (S (30 + xk) yk)) ((shl (up S 19 xk (S 19 xk - 1)) xk yk (S 19 xk - 1 - yk))) := by
  have hb3 := V_decks hV
  have hb19x := V_size hV xk
  have h := c_L_cut l D a c S hl0 hV (nI xk) (nI yk)
  simp only [tn_nI (show xk < 2147483648 by omega), tn_nI (show yk < 2147483648 by omega)] at h
  exact h.to (wr_0 (and_t (inB_nI (by omega) (by omega) (by omega)) (inB_nI (by omega) (by omega) (by omega))) rfl rfl) (ws_0 (and_t (inB_nI (by omega) (by omega) (by omega)) (inB_nI (by omega) (by omega) (by omega))) rfl rfl)

theorem x_cut_1 (l : Launch) (D : va_G) (a : Nat → Nat) (c : Nat → ClassId) (S : St) (hl0 : l.stackTraces = false) (hV : V S)  (x : Int32) (y : Int32)  (h1 : (inB x 0 ((S 3 0 : Nat) - 1) && inB y 0 ((S 19 (tn x) : Nat) - 1)) = false) : Lw l yL_cut wsL_cut rmL_cut D c a [.ref (a 0), .int x, .int y] S (-1000001) S := (c_L_cut l D a c S hl0 hV x y).to (wr_1 h1) (ws_1 h1)

theorem w_play_0 (l : Launch) (D : va_G) (a : Nat → Nat) (c : Nat → ClassId) (S : St) (hl0 : l.stackTraces = false) (hV : V S) (hw14 : ∀ k, S 14 k < 999999) (xk : Nat) (yk : Nat) (pk : Nat) (qk : Nat)  (h10 : xk < S 3 0) (h11 : yk < S 3 0) (h20 : pk < 2147483648) (h21 : qk < 2147483648) (h22 : S 18 xk ≠ S 18 yk) (h30 : alw S xk = true) (h31 : alw S yk = true) : Lw l yL_play wsL_play rmL_play D c a [.ref (a 0), .int (nI xk), .int (nI yk), .int (nI pk), .int (nI qk)] S (nI (gmF S xk yk pk qk).1 - nI (gmF S xk yk pk qk).2.2.1) ((wonS S xk yk (gmF S xk yk pk qk).1 (gmF S xk yk pk qk).2.2.1)) := by
  have hb3 := V_decks hV
  have h := c_L_play l D a c S hl0 hV hw14 (nI xk) (nI yk) (nI pk) (nI qk)
  simp only [tn_nI (show xk < 2147483648 by omega), tn_nI (show yk < 2147483648 by omega), tn_nI (show pk < 2147483648 by omega), tn_nI (show qk < 2147483648 by omega)] at h
  exact h.to (wr_0 (and_t (inB_nI (by omega) (by omega) (by omega)) (inB_nI (by omega) (by omega) (by omega))) (and_t (sdB_nI h20) (and_t (sdB_nI h21) (decide_eq_true h22))) (and_t h30 h31)) (ws_0 (and_t (inB_nI (by omega) (by omega) (by omega)) (inB_nI (by omega) (by omega) (by omega))) (and_t (sdB_nI h20) (and_t (sdB_nI h21) (decide_eq_true h22))) (and_t h30 h31))

theorem w_play_2 (l : Launch) (D : va_G) (a : Nat → Nat) (c : Nat → ClassId) (S : St) (hl0 : l.stackTraces = false) (hV : V S) (hw14 : ∀ k, S 14 k < 999999) (xk : Nat) (yk : Nat) (pk : Nat) (qk : Nat)  (h10 : xk < S 3 0) (h11 : yk < S 3 0) (hqp : pk < 2147483648) (hqq : qk < 2147483648) (hf : (sdB (nI pk) && (sdB (nI qk) && decide (S 18 xk ≠ S 18 yk))) = false) : Lw l yL_play wsL_play rmL_play D c a [.ref (a 0), .int (nI xk), .int (nI yk), .int (nI pk), .int (nI qk)] S (-1000002) (S) := by
  have hb3 := V_decks hV
  have h := c_L_play l D a c S hl0 hV hw14 (nI xk) (nI yk) (nI pk) (nI qk)
  simp only [tn_nI (show xk < 2147483648 by omega), tn_nI (show yk < 2147483648 by omega), tn_nI (show pk < 2147483648 by omega), tn_nI (show qk < 2147483648 by omega)] at h
  exact h.to (wr_2 (and_t (inB_nI (by omega) (by omega) (by omega)) (inB_nI (by omega) (by omega) (by omega))) hf) (ws_2 (and_t (inB_nI (by omega) (by omega) (by omega)) (inB_nI (by omega) (by omega) (by omega))) hf)

theorem w_play_3 (l : Launch) (D : va_G) (a : Nat → Nat) (c : Nat → ClassId) (S : St) (hl0 : l.stackTraces = false) (hV : V S) (hw14 : ∀ k, S 14 k < 999999) (xk : Nat) (yk : Nat) (pk : Nat) (qk : Nat)  (h10 : xk < S 3 0) (h11 : yk < S 3 0) (h20 : pk < 2147483648) (h21 : qk < 2147483648) (h22 : S 18 xk ≠ S 18 yk) (hf : (alw S xk && alw S yk) = false) : Lw l yL_play wsL_play rmL_play D c a [.ref (a 0), .int (nI xk), .int (nI yk), .int (nI pk), .int (nI qk)] S (-1000003) (S) := by
  have hb3 := V_decks hV
  have h := c_L_play l D a c S hl0 hV hw14 (nI xk) (nI yk) (nI pk) (nI qk)
  simp only [tn_nI (show xk < 2147483648 by omega), tn_nI (show yk < 2147483648 by omega), tn_nI (show pk < 2147483648 by omega), tn_nI (show qk < 2147483648 by omega)] at h
  exact h.to (wr_3 (and_t (inB_nI (by omega) (by omega) (by omega)) (inB_nI (by omega) (by omega) (by omega))) (and_t (sdB_nI h20) (and_t (sdB_nI h21) (decide_eq_true h22))) hf) (ws_3 (and_t (inB_nI (by omega) (by omega) (by omega)) (inB_nI (by omega) (by omega) (by omega))) (and_t (sdB_nI h20) (and_t (sdB_nI h21) (decide_eq_true h22))) hf)

theorem x_play_1 (l : Launch) (D : va_G) (a : Nat → Nat) (c : Nat → ClassId) (S : St) (hl0 : l.stackTraces = false) (hV : V S) (hw14 : ∀ k, S 14 k < 999999) (x : Int32) (y : Int32) (p : Int32) (q : Int32)  (h1 : (inB x 0 ((S 3 0 : Nat) - 1) && inB y 0 ((S 3 0 : Nat) - 1)) = false) : Lw l yL_play wsL_play rmL_play D c a [.ref (a 0), .int x, .int y, .int p, .int q] S (-1000001) S := (c_L_play l D a c S hl0 hV hw14 x y p q).to (wr_1 h1) (ws_1 h1)

theorem x_play_2 (l : Launch) (D : va_G) (a : Nat → Nat) (c : Nat → ClassId) (S : St) (hl0 : l.stackTraces = false) (hV : V S) (hw14 : ∀ k, S 14 k < 999999) (x : Int32) (y : Int32) (p : Int32) (q : Int32)  (h1 : (inB x 0 ((S 3 0 : Nat) - 1) && inB y 0 ((S 3 0 : Nat) - 1)) = true) (h2 : (sdB p && (sdB q && decide (S 18 (tn x) ≠ S 18 (tn y)))) = false) : Lw l yL_play wsL_play rmL_play D c a [.ref (a 0), .int x, .int y, .int p, .int q] S (-1000002) S := (c_L_play l D a c S hl0 hV hw14 x y p q).to (wr_2 h1 h2) (ws_2 h1 h2)

theorem w_offer_0 (l : Launch) (D : va_G) (a : Nat → Nat) (c : Nat → ClassId) (S : St) (hl0 : l.stackTraces = false) (hV : V S)  (xk : Nat) (yk : Nat)  (h10 : xk < S 2 0) (h11 : 0 ≤ yk ∧ yk ≤ 15) (h20 : S 15 xk ≠ yk) (h30 : liveB S xk = false) (h31 : S 4 0 < 40) : Lw l yL_offer wsL_offer rmL_offer D c a [.ref (a 0), .int (nI xk), .int (nI yk)] S (nI (S 4 0)) ((up (up (up (up (up (up S 21 (S 4 0) xk) 22 (S 4 0) (S 15 xk)) 23 (S 4 0) yk) 24 (S 4 0) (S 17 xk)) 25 (S 4 0) 1) 4 0 (S 4 0 + 1))) := by
  have hb2 := V_cards hV
  have hb4 := V_offers hV
  have h := c_L_offer l D a c S hl0 hV (nI xk) (nI yk)
  simp only [tn_nI (show xk < 2147483648 by omega), tn_nI (show yk < 2147483648 by omega)] at h
  exact h.to (wr_0 (and_t (inB_nI (by omega) (by omega) (by omega)) (inB_nI (by omega) (by omega) (by omega))) (decide_eq_true h20) (and_t (by rw [h30]; rfl) (decide_eq_true h31))) (ws_0 (and_t (inB_nI (by omega) (by omega) (by omega)) (inB_nI (by omega) (by omega) (by omega))) (decide_eq_true h20) (and_t (by rw [h30]; rfl) (decide_eq_true h31)))

theorem w_offer_2 (l : Launch) (D : va_G) (a : Nat → Nat) (c : Nat → ClassId) (S : St) (hl0 : l.stackTraces = false) (hV : V S)  (xk : Nat) (yk : Nat)  (h10 : xk < S 2 0) (h11 : 0 ≤ yk ∧ yk ≤ 15) (hf : (decide (S 15 xk ≠ yk)) = false) : Lw l yL_offer wsL_offer rmL_offer D c a [.ref (a 0), .int (nI xk), .int (nI yk)] S (-1000002) (S) := by
  have hb2 := V_cards hV
  have hb4 := V_offers hV
  have h := c_L_offer l D a c S hl0 hV (nI xk) (nI yk)
  simp only [tn_nI (show xk < 2147483648 by omega), tn_nI (show yk < 2147483648 by omega)] at h
  exact h.to (wr_2 (and_t (inB_nI (by omega) (by omega) (by omega)) (inB_nI (by omega) (by omega) (by omega))) hf) (ws_2 (and_t (inB_nI (by omega) (by omega) (by omega)) (inB_nI (by omega) (by omega) (by omega))) hf)

theorem w_offer_3 (l : Launch) (D : va_G) (a : Nat → Nat) (c : Nat → ClassId) (S : St) (hl0 : l.stackTraces = false) (hV : V S)  (xk : Nat) (yk : Nat)  (h10 : xk < S 2 0) (h11 : 0 ≤ yk ∧ yk ≤ 15) (h20 : S 15 xk ≠ yk) (hf : (!liveB S xk && decide (S 4 0 < 40)) = false) : Lw l yL_offer wsL_offer rmL_offer D c a [.ref (a 0), .int (nI xk), .int (nI yk)] S (-1000003) (S) := by
  have hb2 := V_cards hV
  have hb4 := V_offers hV
  have h := c_L_offer l D a c S hl0 hV (nI xk) (nI yk)
  simp only [tn_nI (show xk < 2147483648 by omega), tn_nI (show yk < 2147483648 by omega)] at h
  exact h.to (wr_3 (and_t (inB_nI (by omega) (by omega) (by omega)) (inB_nI (by omega) (by omega) (by omega))) (decide_eq_true h20) hf) (ws_3 (and_t (inB_nI (by omega) (by omega) (by omega)) (inB_nI (by omega) (by omega) (by omega))) (decide_eq_true h20) hf)

theorem x_offer_1 (l : Launch) (D : va_G) (a : Nat → Nat) (c : Nat → ClassId) (S : St) (hl0 : l.stackTraces = false) (hV : V S)  (x : Int32) (y : Int32)  (h1 : (inB x 0 ((S 2 0 : Nat) - 1) && inB y 0 15) = false) : Lw l yL_offer wsL_offer rmL_offer D c a [.ref (a 0), .int x, .int y] S (-1000001) S := (c_L_offer l D a c S hl0 hV x y).to (wr_1 h1) (ws_1 h1)

theorem x_offer_2 (l : Launch) (D : va_G) (a : Nat → Nat) (c : Nat → ClassId) (S : St) (hl0 : l.stackTraces = false) (hV : V S)  (x : Int32) (y : Int32)  (h1 : (inB x 0 ((S 2 0 : Nat) - 1) && inB y 0 15) = true) (h2 : (decide (S 15 (tn x) ≠ tn y)) = false) : Lw l yL_offer wsL_offer rmL_offer D c a [.ref (a 0), .int x, .int y] S (-1000002) S := (c_L_offer l D a c S hl0 hV x y).to (wr_2 h1 h2) (ws_2 h1 h2)

theorem w_takeBack_0 (l : Launch) (D : va_G) (a : Nat → Nat) (c : Nat → ClassId) (S : St) (hl0 : l.stackTraces = false) (hV : V S)  (xk : Nat)  (h10 : xk < S 4 0) (h20 : S 25 xk ≠ 0) : Lw l yL_takeBack wsL_takeBack rmL_takeBack D c a [.ref (a 0), .int (nI xk)] S (nI (S 21 xk)) ((up S 25 xk 0)) := by
  have hb4 := V_offers hV
  have h := c_L_takeBack l D a c S hl0 hV (nI xk)
  simp only [tn_nI (show xk < 2147483648 by omega)] at h
  exact h.to (wr_0 (inB_nI (by omega) (by omega) (by omega)) (decide_eq_true h20) rfl) (ws_0 (inB_nI (by omega) (by omega) (by omega)) (decide_eq_true h20) rfl)

theorem w_takeBack_2 (l : Launch) (D : va_G) (a : Nat → Nat) (c : Nat → ClassId) (S : St) (hl0 : l.stackTraces = false) (hV : V S)  (xk : Nat)  (h10 : xk < S 4 0) (hf : (decide (S 25 xk ≠ 0)) = false) : Lw l yL_takeBack wsL_takeBack rmL_takeBack D c a [.ref (a 0), .int (nI xk)] S (-1000003) (S) := by
  have hb4 := V_offers hV
  have h := c_L_takeBack l D a c S hl0 hV (nI xk)
  simp only [tn_nI (show xk < 2147483648 by omega)] at h
  exact h.to (wr_2 (inB_nI (by omega) (by omega) (by omega)) hf) (ws_2 (inB_nI (by omega) (by omega) (by omega)) hf)

theorem x_takeBack_1 (l : Launch) (D : va_G) (a : Nat → Nat) (c : Nat → ClassId) (S : St) (hl0 : l.stackTraces = false) (hV : V S)  (x : Int32)  (h1 : (inB x 0 ((S 4 0 : Nat) - 1)) = false) : Lw l yL_takeBack wsL_takeBack rmL_takeBack D c a [.ref (a 0), .int x] S (-1000001) S := (c_L_takeBack l D a c S hl0 hV x).to (wr_1 h1) (ws_1 h1)

theorem x_takeBack_2 (l : Launch) (D : va_G) (a : Nat → Nat) (c : Nat → ClassId) (S : St) (hl0 : l.stackTraces = false) (hV : V S)  (x : Int32)  (h1 : (inB x 0 ((S 4 0 : Nat) - 1)) = true) (h2 : (decide (S 25 (tn x) ≠ 0)) = false) : Lw l yL_takeBack wsL_takeBack rmL_takeBack D c a [.ref (a 0), .int x] S (-1000003) S := (c_L_takeBack l D a c S hl0 hV x).to (wr_2 h1 h2) (ws_2 h1 h2)

theorem w_printOf_0 (l : Launch) (D : va_G) (a : Nat → Nat) (c : Nat → ClassId) (S : St) (hl0 : l.stackTraces = false) (hV : V S)  (xk : Nat)  (h10 : xk < S 2 0) : Lw l yL_printOf wsL_printOf rmL_printOf D c a [.ref (a 0), .int (nI xk)] S (nI (100 * S 15 xk + S 16 xk)) (S) := by
  have hb2 := V_cards hV
  have h := c_L_printOf l D a c S hl0 hV (nI xk)
  simp only [tn_nI (show xk < 2147483648 by omega)] at h
  exact h.to (wr_0 (inB_nI (by omega) (by omega) (by omega)) rfl rfl) rfl

theorem x_printOf_1 (l : Launch) (D : va_G) (a : Nat → Nat) (c : Nat → ClassId) (S : St) (hl0 : l.stackTraces = false) (hV : V S)  (x : Int32)  (h1 : (inB x 0 ((S 2 0 : Nat) - 1)) = false) : Lw l yL_printOf wsL_printOf rmL_printOf D c a [.ref (a 0), .int x] S (-1000001) S := (c_L_printOf l D a c S hl0 hV x).to (wr_1 h1) rfl

theorem w_collectorOf_0 (l : Launch) (D : va_G) (a : Nat → Nat) (c : Nat → ClassId) (S : St) (hl0 : l.stackTraces = false) (hV : V S)  (xk : Nat)  (h10 : xk < S 2 0) : Lw l yL_collectorOf wsL_collectorOf rmL_collectorOf D c a [.ref (a 0), .int (nI xk)] S (nI (S 17 xk)) (S) := by
  have hb2 := V_cards hV
  have h := c_L_collectorOf l D a c S hl0 hV (nI xk)
  simp only [tn_nI (show xk < 2147483648 by omega)] at h
  exact h.to (wr_0 (inB_nI (by omega) (by omega) (by omega)) rfl rfl) rfl

theorem x_collectorOf_1 (l : Launch) (D : va_G) (a : Nat → Nat) (c : Nat → ClassId) (S : St) (hl0 : l.stackTraces = false) (hV : V S)  (x : Int32)  (h1 : (inB x 0 ((S 2 0 : Nat) - 1)) = false) : Lw l yL_collectorOf wsL_collectorOf rmL_collectorOf D c a [.ref (a 0), .int x] S (-1000001) S := (c_L_collectorOf l D a c S hl0 hV x).to (wr_1 h1) rfl

theorem w_has_0 (l : Launch) (D : va_G) (a : Nat → Nat) (c : Nat → ClassId) (S : St) (hl0 : l.stackTraces = false) (hV : V S)  (xk : Nat) (yk : Nat)  (h10 : 0 ≤ xk ∧ xk ≤ 5) (h11 : 0 ≤ yk ∧ yk ≤ 15) : Lw l yL_has wsL_has rmL_has D c a [.ref (a 0), .int (nI xk), .int (nI yk)] S (nI (hasN S xk yk)) (S) := by
  have h := c_L_has l D a c S hl0 hV (nI xk) (nI yk)
  simp only [tn_nI (show xk < 2147483648 by omega), tn_nI (show yk < 2147483648 by omega)] at h
  exact h.to (wr_0 (and_t (inB_nI (by omega) (by omega) (by omega)) (inB_nI (by omega) (by omega) (by omega))) rfl rfl) rfl

theorem x_has_1 (l : Launch) (D : va_G) (a : Nat → Nat) (c : Nat → ClassId) (S : St) (hl0 : l.stackTraces = false) (hV : V S)  (x : Int32) (y : Int32)  (h1 : (inB x 0 5 && inB y 0 15) = false) : Lw l yL_has wsL_has rmL_has D c a [.ref (a 0), .int x, .int y] S (-1000001) S := (c_L_has l D a c S hl0 hV x y).to (wr_1 h1) rfl

theorem w_wins_0 (l : Launch) (D : va_G) (a : Nat → Nat) (c : Nat → ClassId) (S : St) (hl0 : l.stackTraces = false) (hV : V S)  (xk : Nat)  (h10 : 0 ≤ xk ∧ xk ≤ 15) : Lw l yL_wins wsL_wins rmL_wins D c a [.ref (a 0), .int (nI xk)] S (nI (S 14 xk)) (S) := by
  have h := c_L_wins l D a c S hl0 hV (nI xk)
  simp only [tn_nI (show xk < 2147483648 by omega)] at h
  exact h.to (wr_0 (inB_nI (by omega) (by omega) (by omega)) rfl rfl) rfl

theorem x_wins_1 (l : Launch) (D : va_G) (a : Nat → Nat) (c : Nat → ClassId) (S : St) (hl0 : l.stackTraces = false) (hV : V S)  (x : Int32)  (h1 : (inB x 0 15) = false) : Lw l yL_wins wsL_wins rmL_wins D c a [.ref (a 0), .int x] S (-1000001) S := (c_L_wins l D a c S hl0 hV x).to (wr_1 h1) rfl

theorem w_price_0 (l : Launch) (D : va_G) (a : Nat → Nat) (c : Nat → ClassId) (S : St) (hl0 : l.stackTraces = false) (hV : V S)  (xk : Nat)  (h10 : 0 ≤ xk ∧ xk ≤ 15) : Lw l yL_price wsL_price rmL_price D c a [.ref (a 0), .int (nI xk)] S (nI (prc S xk)) (S) := by
  have h := c_L_price l D a c S hl0 hV (nI xk)
  simp only [tn_nI (show xk < 2147483648 by omega)] at h
  exact h.to (wr_0 (inB_nI (by omega) (by omega) (by omega)) rfl rfl) rfl

theorem x_price_1 (l : Launch) (D : va_G) (a : Nat → Nat) (c : Nat → ClassId) (S : St) (hl0 : l.stackTraces = false) (hV : V S)  (x : Int32)  (h1 : (inB x 0 15) = false) : Lw l yL_price wsL_price rmL_price D c a [.ref (a 0), .int x] S (-1000001) S := (c_L_price l D a c S hl0 hV x).to (wr_1 h1) rfl

theorem w_isAllowed_0 (l : Launch) (D : va_G) (a : Nat → Nat) (c : Nat → ClassId) (S : St) (hl0 : l.stackTraces = false) (hV : V S)  (xk : Nat)  (h10 : xk < S 3 0) : Lw l yL_isAllowed wsL_isAllowed rmL_isAllowed D c a [.ref (a 0), .int (nI xk)] S (nI (alw S xk).toNat) (S) := by
  have hb3 := V_decks hV
  have h := c_L_isAllowed l D a c S hl0 hV (nI xk)
  simp only [tn_nI (show xk < 2147483648 by omega)] at h
  exact h.to (wr_0 (inB_nI (by omega) (by omega) (by omega)) rfl rfl) rfl

theorem x_isAllowed_1 (l : Launch) (D : va_G) (a : Nat → Nat) (c : Nat → ClassId) (S : St) (hl0 : l.stackTraces = false) (hV : V S)  (x : Int32)  (h1 : (inB x 0 ((S 3 0 : Nat) - 1)) = false) : Lw l yL_isAllowed wsL_isAllowed rmL_isAllowed D c a [.ref (a 0), .int x] S (-1000001) S := (c_L_isAllowed l D a c S hl0 hV x).to (wr_1 h1) rfl

theorem w_shuffled_0 (l : Launch) (D : va_G) (a : Nat → Nat) (c : Nat → ClassId) (S : St) (hl0 : l.stackTraces = false) (hV : V S)  (xk : Nat) (yk : Nat) (zk : Nat)  (h10 : xk < S 3 0) (h11 : zk < S 19 xk) (h20 : yk < 2147483648) : Lw l yL_shuffled wsL_shuffled rmL_shuffled D c a [.ref (a 0), .int (nI xk), .int (nI yk), .int (nI zk)] S (nI (shuf S xk yk zk)) (S) := by
  have hb3 := V_decks hV
  have hb19x := V_size hV xk
  have h := c_L_shuffled l D a c S hl0 hV (nI xk) (nI yk) (nI zk)
  simp only [tn_nI (show xk < 2147483648 by omega), tn_nI (show yk < 2147483648 by omega), tn_nI (show zk < 2147483648 by omega)] at h
  exact h.to (wr_0 (and_t (inB_nI (by omega) (by omega) (by omega)) (inB_nI (by omega) (by omega) (by omega))) (sdB_nI h20) rfl) rfl

theorem w_shuffled_2 (l : Launch) (D : va_G) (a : Nat → Nat) (c : Nat → ClassId) (S : St) (hl0 : l.stackTraces = false) (hV : V S)  (xk : Nat) (yk : Nat) (zk : Nat)  (h10 : xk < S 3 0) (h11 : zk < S 19 xk) (hqy : yk < 2147483648) (hf : (sdB (nI yk)) = false) : Lw l yL_shuffled wsL_shuffled rmL_shuffled D c a [.ref (a 0), .int (nI xk), .int (nI yk), .int (nI zk)] S (-1000002) (S) := by
  have hb3 := V_decks hV
  have hb19x := V_size hV xk
  have h := c_L_shuffled l D a c S hl0 hV (nI xk) (nI yk) (nI zk)
  simp only [tn_nI (show xk < 2147483648 by omega), tn_nI (show yk < 2147483648 by omega), tn_nI (show zk < 2147483648 by omega)] at h
  exact h.to (wr_2 (and_t (inB_nI (by omega) (by omega) (by omega)) (inB_nI (by omega) (by omega) (by omega))) hf) rfl

theorem x_shuffled_1 (l : Launch) (D : va_G) (a : Nat → Nat) (c : Nat → ClassId) (S : St) (hl0 : l.stackTraces = false) (hV : V S)  (x : Int32) (y : Int32) (z : Int32)  (h1 : (inB x 0 ((S 3 0 : Nat) - 1) && inB z 0 ((S 19 (tn x) : Nat) - 1)) = false) : Lw l yL_shuffled wsL_shuffled rmL_shuffled D c a [.ref (a 0), .int x, .int y, .int z] S (-1000001) S := (c_L_shuffled l D a c S hl0 hV x y z).to (wr_1 h1) rfl

theorem x_shuffled_2 (l : Launch) (D : va_G) (a : Nat → Nat) (c : Nat → ClassId) (S : St) (hl0 : l.stackTraces = false) (hV : V S)  (x : Int32) (y : Int32) (z : Int32)  (h1 : (inB x 0 ((S 3 0 : Nat) - 1) && inB z 0 ((S 19 (tn x) : Nat) - 1)) = true) (h2 : (sdB y) = false) : Lw l yL_shuffled wsL_shuffled rmL_shuffled D c a [.ref (a 0), .int x, .int y, .int z] S (-1000002) S := (c_L_shuffled l D a c S hl0 hV x y z).to (wr_2 h1 h2) rfl

theorem w_orders_0 (l : Launch) (D : va_G) (a : Nat → Nat) (c : Nat → ClassId) (S : St) (hl0 : l.stackTraces = false) (hV : V S)  (xk : Nat) (yk : Nat) (zk : Nat)  (h10 : xk < S 3 0) (h11 : 0 ≤ yk ∧ yk ≤ 15) (h20 : 1 ≤ zk ∧ zk ≤ 10) : Lw l yL_orders wsL_orders rmL_orders D c a [.ref (a 0), .int (nI xk), .int (nI yk), .int (nI zk)] S (nI (ordN S xk yk zk)) (S) := by
  have hb3 := V_decks hV
  have h := c_L_orders l D a c S hl0 hV (nI xk) (nI yk) (nI zk)
  simp only [tn_nI (show xk < 2147483648 by omega), tn_nI (show yk < 2147483648 by omega), tn_nI (show zk < 2147483648 by omega)] at h
  exact h.to (wr_0 (and_t (inB_nI (by omega) (by omega) (by omega)) (inB_nI (by omega) (by omega) (by omega))) (inB_nI (by omega) (by omega) (by omega)) rfl) rfl

theorem w_orders_2 (l : Launch) (D : va_G) (a : Nat → Nat) (c : Nat → ClassId) (S : St) (hl0 : l.stackTraces = false) (hV : V S)  (xk : Nat) (yk : Nat) (zk : Nat)  (h10 : xk < S 3 0) (h11 : 0 ≤ yk ∧ yk ≤ 15) (hqz : zk < 2147483648) (hf : (inB (nI zk) 1 10) = false) : Lw l yL_orders wsL_orders rmL_orders D c a [.ref (a 0), .int (nI xk), .int (nI yk), .int (nI zk)] S (-1000002) (S) := by
  have hb3 := V_decks hV
  have h := c_L_orders l D a c S hl0 hV (nI xk) (nI yk) (nI zk)
  simp only [tn_nI (show xk < 2147483648 by omega), tn_nI (show yk < 2147483648 by omega), tn_nI (show zk < 2147483648 by omega)] at h
  exact h.to (wr_2 (and_t (inB_nI (by omega) (by omega) (by omega)) (inB_nI (by omega) (by omega) (by omega))) hf) rfl

theorem x_orders_1 (l : Launch) (D : va_G) (a : Nat → Nat) (c : Nat → ClassId) (S : St) (hl0 : l.stackTraces = false) (hV : V S)  (x : Int32) (y : Int32) (z : Int32)  (h1 : (inB x 0 ((S 3 0 : Nat) - 1) && inB y 0 15) = false) : Lw l yL_orders wsL_orders rmL_orders D c a [.ref (a 0), .int x, .int y, .int z] S (-1000001) S := (c_L_orders l D a c S hl0 hV x y z).to (wr_1 h1) rfl

theorem x_orders_2 (l : Launch) (D : va_G) (a : Nat → Nat) (c : Nat → ClassId) (S : St) (hl0 : l.stackTraces = false) (hV : V S)  (x : Int32) (y : Int32) (z : Int32)  (h1 : (inB x 0 ((S 3 0 : Nat) - 1) && inB y 0 15) = true) (h2 : (inB z 1 10) = false) : Lw l yL_orders wsL_orders rmL_orders D c a [.ref (a 0), .int x, .int y, .int z] S (-1000002) S := (c_L_orders l D a c S hl0 hV x y z).to (wr_2 h1 h2) rfl

theorem w_ordersByAll_0 (l : Launch) (D : va_G) (a : Nat → Nat) (c : Nat → ClassId) (S : St) (hl0 : l.stackTraces = false) (hV : V S)  (xk : Nat) (yk : Nat) (zk : Nat)  (h10 : xk < S 3 0) (h11 : 0 ≤ yk ∧ yk ≤ 15) (h20 : 1 ≤ zk ∧ zk ≤ 10) (h30 : S 19 xk ≤ 7) : Lw l yL_ordersByAll wsL_ordersByAll rmL_ordersByAll D c a [.ref (a 0), .int (nI xk), .int (nI yk), .int (nI zk)] S (nI (coN (S 19 xk) (bits (isK S xk yk) (S 19 xk)) zk (S 19 xk) 0 false)) (S) := by
  have hb3 := V_decks hV
  have hb19x := V_size hV xk
  have h := c_L_ordersByAll l D a c S hl0 hV (nI xk) (nI yk) (nI zk)
  simp only [tn_nI (show xk < 2147483648 by omega), tn_nI (show yk < 2147483648 by omega), tn_nI (show zk < 2147483648 by omega)] at h
  exact h.to (wr_0 (and_t (inB_nI (by omega) (by omega) (by omega)) (inB_nI (by omega) (by omega) (by omega))) (inB_nI (by omega) (by omega) (by omega)) (decide_eq_true h30)) rfl

theorem w_ordersByAll_2 (l : Launch) (D : va_G) (a : Nat → Nat) (c : Nat → ClassId) (S : St) (hl0 : l.stackTraces = false) (hV : V S)  (xk : Nat) (yk : Nat) (zk : Nat)  (h10 : xk < S 3 0) (h11 : 0 ≤ yk ∧ yk ≤ 15) (hqz : zk < 2147483648) (hf : (inB (nI zk) 1 10) = false) : Lw l yL_ordersByAll wsL_ordersByAll rmL_ordersByAll D c a [.ref (a 0), .int (nI xk), .int (nI yk), .int (nI zk)] S (-1000002) (S) := by
  have hb3 := V_decks hV
  have hb19x := V_size hV xk
  have h := c_L_ordersByAll l D a c S hl0 hV (nI xk) (nI yk) (nI zk)
  simp only [tn_nI (show xk < 2147483648 by omega), tn_nI (show yk < 2147483648 by omega), tn_nI (show zk < 2147483648 by omega)] at h
  exact h.to (wr_2 (and_t (inB_nI (by omega) (by omega) (by omega)) (inB_nI (by omega) (by omega) (by omega))) hf) rfl

theorem w_ordersByAll_3 (l : Launch) (D : va_G) (a : Nat → Nat) (c : Nat → ClassId) (S : St) (hl0 : l.stackTraces = false) (hV : V S)  (xk : Nat) (yk : Nat) (zk : Nat)  (h10 : xk < S 3 0) (h11 : 0 ≤ yk ∧ yk ≤ 15) (h20 : 1 ≤ zk ∧ zk ≤ 10) (hf : (decide (S 19 xk ≤ 7)) = false) : Lw l yL_ordersByAll wsL_ordersByAll rmL_ordersByAll D c a [.ref (a 0), .int (nI xk), .int (nI yk), .int (nI zk)] S (-1000003) (S) := by
  have hb3 := V_decks hV
  have hb19x := V_size hV xk
  have h := c_L_ordersByAll l D a c S hl0 hV (nI xk) (nI yk) (nI zk)
  simp only [tn_nI (show xk < 2147483648 by omega), tn_nI (show yk < 2147483648 by omega), tn_nI (show zk < 2147483648 by omega)] at h
  exact h.to (wr_3 (and_t (inB_nI (by omega) (by omega) (by omega)) (inB_nI (by omega) (by omega) (by omega))) (inB_nI (by omega) (by omega) (by omega)) hf) rfl

theorem x_ordersByAll_1 (l : Launch) (D : va_G) (a : Nat → Nat) (c : Nat → ClassId) (S : St) (hl0 : l.stackTraces = false) (hV : V S)  (x : Int32) (y : Int32) (z : Int32)  (h1 : (inB x 0 ((S 3 0 : Nat) - 1) && inB y 0 15) = false) : Lw l yL_ordersByAll wsL_ordersByAll rmL_ordersByAll D c a [.ref (a 0), .int x, .int y, .int z] S (-1000001) S := (c_L_ordersByAll l D a c S hl0 hV x y z).to (wr_1 h1) rfl

theorem x_ordersByAll_2 (l : Launch) (D : va_G) (a : Nat → Nat) (c : Nat → ClassId) (S : St) (hl0 : l.stackTraces = false) (hV : V S)  (x : Int32) (y : Int32) (z : Int32)  (h1 : (inB x 0 ((S 3 0 : Nat) - 1) && inB y 0 15) = true) (h2 : (inB z 1 10) = false) : Lw l yL_ordersByAll wsL_ordersByAll rmL_ordersByAll D c a [.ref (a 0), .int x, .int y, .int z] S (-1000002) S := (c_L_ordersByAll l D a c S hl0 hV x y z).to (wr_2 h1 h2) rfl

theorem w_isOpen_0 (l : Launch) (D : va_G) (a : Nat → Nat) (c : Nat → ClassId) (S : St) (hl0 : l.stackTraces = false) (hV : V S) (h25 : ∀ k, S 25 k < 2) (xk : Nat)  (h10 : xk < S 4 0) : Lw l yL_isOpen wsL_isOpen rmL_isOpen D c a [.ref (a 0), .int (nI xk)] S (nI (S 25 xk)) (S) := by
  have hb4 := V_offers hV
  have h := c_L_isOpen l D a c S hl0 hV h25 (nI xk)
  simp only [tn_nI (show xk < 2147483648 by omega)] at h
  exact h.to (wr_0 (inB_nI (by omega) (by omega) (by omega)) rfl rfl) rfl

theorem x_isOpen_1 (l : Launch) (D : va_G) (a : Nat → Nat) (c : Nat → ClassId) (S : St) (hl0 : l.stackTraces = false) (hV : V S) (h25 : ∀ k, S 25 k < 2) (x : Int32)  (h1 : (inB x 0 ((S 4 0 : Nat) - 1)) = false) : Lw l yL_isOpen wsL_isOpen rmL_isOpen D c a [.ref (a 0), .int x] S (-1000001) S := (c_L_isOpen l D a c S hl0 hV h25 x).to (wr_1 h1) rfl

theorem w_ring_0 (l : Launch) (D : va_G) (a : Nat → Nat) (c : Nat → ClassId) (S : St) (hl0 : l.stackTraces = false) (hV : V S)  (xk : Nat)  (h10 : xk < 2147483648) : Lw l yL_ring wsL_ring rmL_ring D c a [.ref (a 0), .int (nI xk)] S (rgN S xk) (S) := by
  have h := c_L_ring l D a c S hl0 hV (nI xk)
  simp only [tn_nI (show xk < 2147483648 by omega)] at h
  exact h.to (wr_0 (sdB_nI h10) rfl rfl) rfl

theorem x_ring_1 (l : Launch) (D : va_G) (a : Nat → Nat) (c : Nat → ClassId) (S : St) (hl0 : l.stackTraces = false) (hV : V S)  (x : Int32)  (h1 : (sdB x) = false) : Lw l yL_ring wsL_ring rmL_ring D c a [.ref (a 0), .int x] S (-1000001) S := (c_L_ring l D a c S hl0 hV x).to (wr_1 h1) rfl

end CALLS53
