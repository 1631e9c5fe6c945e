/-! a state begun anew, in both -/
theorem Rel.clr {s : Nat} {C S : xS} : Rel s 0 0 (clrS s C) (up (up (up (clrM 527 S) 31 0 3 5) 31 0 4 10) 31 0 5 (-1) 31 0) := by
  have e : ∀ i, i < 527 → up (up (up (clrM 527 S) 31 0 3 5) 31 0 4 10) 31 0 5 (-1) 31 0 i = if i = 5 then -1 else if i = 4 then 10 else if i = 3 then 5 else 0 := fun i hi => by
    rw [up_app, up_app, up_app]
    simp (decide := true) only [true_and]
    split
    · rfl
    · split
      · rfl
      · split
        · rfl
        · unfold clrM; rw [if_pos (by omega)]
  refine ⟨fun i hi => ?_, fun p f hp hf => ?_, fun j hj => absurd hj (Nat.not_lt_zero j), fun i hi => ?_⟩
  · rw [e i (by omega)]
    have b' : i = 0 ∨ i = 1 ∨ i = 2 ∨ i = 3 ∨ i = 4 ∨ i = 5 ∨ i = 6 ∨ i = 7 ∨ i = 8 ∨ i = 9 ∨ i = 10 ∨ i = 11 ∨ i = 12 ∨ i = 13 ∨ i = 14 := by omega
    rcases b' with rfl | rfl | rfl | rfl | rfl | rfl | rfl | rfl | rfl | rfl | rfl | rfl | rfl | rfl | rfl <;> simp (decide := true) only [gl, clrS, clrV, up_app, if_true, if_false, and_true, true_and, and_false, false_and]
  · rw [e _ (by omega), if_neg (by omega), if_neg (by omega), if_neg (by omega), if_neg (Nat.not_lt_zero p)]
  · rw [e _ (by omega), if_neg (by omega), if_neg (by omega), if_neg (by omega)]
    simp (decide := true) only [clrS, clrV, up_app, if_false, false_and, true_and]
    rw [if_pos hi]
