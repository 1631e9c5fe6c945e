/-! what the reference's array has to do with a state of the class -/
/-- a promise's row in the class (F) and in the reference (G), at the time t -/
def PR (t : Int) (F G : Nat → Int) : Prop := (∀ f, f ≤ 16 → f ≠ 6 → f ≠ 7 → f ≠ 8 → G f = F f) ∧ (0 ≤ G 7 ∧ G 7 ≤ 2000000) ∧ ((t < F 7 ∧ G 17 = 1 ∧ G 6 = F 6 ∧ G 7 = F 7 ∧ G 8 = F 8) ∨ (F 7 ≤ t ∧ F 6 = 0 ∧ (G 17 = 0 ∨ G 17 = 1 ∧ G 7 ≤ t)))
theorem PR.g {t : Int} {F G G' : Nat → Int} (h : PR t F G) (e : ∀ f, f < 18 → G' f = G f) : PR t F G' := by
  unfold PR at h ⊢
  rw [e 7 (by decide), e 17 (by decide), e 6 (by decide), e 8 (by decide)]
  exact ⟨fun f h16 q6 q7 q8 => by rw [e f (by omega)]; exact h.1 f h16 q6 q7 q8, h.2⟩
