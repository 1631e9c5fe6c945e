/-! the next token, seen from both -/
theorem nx_row {n : Nat} {C C1 : xS} (h3 : ∀ f, f ≠ 4 → f ≠ 5 → C1 3 0 f = C 3 0 f) (h24 : C1 24 0 = C 24 0) : ∀ f, f ≠ 4 → f ≠ 5 → nx n C1 3 0 f = nx n C 3 0 f := by
  intro f h4 h5
  unfold nx nxS
  rw [h24, h3 8 (by decide) (by decide), h3 9 (by decide) (by decide)]
  unfold tk
  rw [h3 f h4 h5]
/-- the next token rests on the reader's row and the bytes alone -/
theorem TR.nxe {n : Nat} {C C1 S : xS} (h : TR n (nx n C) S) (h3 : ∀ f, f ≠ 4 → f ≠ 5 → C1 3 0 f = C 3 0 f) (h24 : C1 24 0 = C 24 0) : TR n (nx n C1) S :=
  h.of (nx_row h3 h24) (by rw [nx_o (by decide), nx_o (by decide)]; exact h24) (fun _ _ _ _ => rfl) rfl
