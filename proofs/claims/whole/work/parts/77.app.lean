/-! a longer text in both -/
theorem BQ.app {n : Nat} {a : Int} {C S : xS} (h : BQ n (C 24 0) (S 41 0)) : BQ (n + 4) (apS n a C 24 0) (apR n a S 41 0) := by
  intro i hi
  by_cases c : n ≤ i
  · have e1 : apS n a C 24 0 i = bya a (24 - 8 * ((i : Int) - (n : Int))) := by unfold apS; rw [if_neg (by omega), if_pos ⟨rfl, rfl, c, hi⟩]
    have e2 : apR n a S 41 0 i = byr a (24 - 8 * ((i : Int) - (n : Int))) := by unfold apR; rw [if_neg (by omega), if_neg (by omega), if_pos ⟨rfl, rfl, c, hi⟩]
    rw [e1, e2]
    exact ⟨bya_r, byr_ub⟩
  · have e1 : apS n a C 24 0 i = C 24 0 i := by unfold apS; rw [if_neg (by omega), if_neg (by omega)]
    have e2 : apR n a S 41 0 i = S 41 0 i := by unfold apR; rw [if_neg (by omega), if_neg (by omega), if_neg (by omega)]
    rw [e1, e2]
    exact h i (by omega)
theorem BQ.le {n m : Nat} {B B' : Nat → Int} (h : BQ n B B') (hm : m ≤ n) : BQ m B B' := fun i hi => h i (by omega)
