section SPEC6
theorem V_fmt {S : St} (hV : V S) {x y : Nat} (h1 : 4 ≤ x) (h2 : x ≤ 10) (h3 : y < 1000000) : V (up (up S 3 1 x) 3 2 y) := by
  obtain ⟨a1, a2, a3, a4, a5, a6, a7, a8, a9⟩ := hV
  have e : ∀ g, g ≠ 3 → up (up S 3 1 x) 3 2 y g = S g := fun g hg => (up_ne hg).trans (up_ne hg)
  refine ⟨fun f k => ?_, ?_, ?_, ?_, ?_, ?_, ?_, ?_, ?_⟩
  · by_cases hf : f = 3
    · subst hf
      rw [up_f, upf_eq, up_f, upf_eq]
      have := a1 3 k
      split
      · exact h3
      · split
        · omega
        · exact this
    · rw [e f hf]; exact a1 f k
  · rw [e 2 (by decide)]; exact a2
  · rw [up_nk (by decide), up_nk (by decide)]; exact a3
  · rw [e 4 (by decide)]; exact a4
  · rw [e 15 (by decide)]; exact a5
  · rw [e 19 (by decide)]; exact a6
  · intro d p hd; rw [e (30 + d) (by omega)]; exact a7 d p hd
  · rw [e 21 (by decide)]; exact a8
  · rw [up_nk (by decide), up_same]; exact ⟨h1, h2⟩
/-- a field that V asks nothing of but to be small -/
theorem V_upx {S : St} (hV : V S) {f k v : Nat} (hv : v < 1000000) (hf : f ≠ 2 ∧ f ≠ 3 ∧ f ≠ 4 ∧ f ≠ 15 ∧ f ≠ 19 ∧ f ≠ 21 ∧ f < 30) : V (up S f k v) := by
  obtain ⟨a1, a2, a3, a4, a5, a6, a7, a8, a9⟩ := hV
  have e : ∀ g, g ≠ f → up S f k v g = S g := fun g hg => up_ne hg
  refine ⟨fun g j => ?_, ?_, ?_, ?_, ?_, ?_, ?_, ?_, ?_⟩
  · by_cases hg : g = f
    · subst hg
      rw [up_f, upf_eq]
      split
      · exact hv
      · exact a1 _ _
    · rw [e g hg]; exact a1 g j
  · rw [e 2 (by omega)]; exact a2
  · rw [e 3 (by omega)]; exact a3
  · rw [e 4 (by omega)]; exact a4
  · rw [e 15 (by omega)]; exact a5
  · rw [e 19 (by omega)]; exact a6
  · intro d p hd; rw [e (30 + d) (by omega)]; exact a7 d p hd
  · rw [e 21 (by omega)]; exact a8
  · rw [e 3 (by omega)]; exact a9
theorem V_up12 {S : St} (hV : V S) {k v : Nat} (hv : v < 2) : V (up S 12 k v) := V_upx hV (by omega) (by decide)
theorem V_up13 {S : St} (hV : V S) {k v : Nat} (hv : v < 1000000) : V (up S 13 k v) := V_upx hV hv (by decide)
end SPEC6
