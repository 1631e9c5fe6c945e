/-! what is kept for ever: split -/
/-! what is kept for ever: split -/
theorem Fut.div {t N i : Nat} {a : Int} {S : xS} (h : Fut t N S) (hi : i < N) (h0 : S 10 (32 * t + i) 0 = 0) (ha : 1 ≤ a ∧ a ≤ S 10 (32 * t + i) 3 - 1) : Fut t (N + 1) (divS t N i a S) := by
  have e2 : divS t N i a S 2 t 2 = S 2 t 2 := by unfold divS; rw [if_neg (by omega), if_neg (by omega), if_neg (by omega)]
  have ei : rwT t (divS t N i a S) i = xgr1 a (rwT t S i) := by funext f; unfold rwT divS; rw [if_pos ⟨rfl, rfl⟩]
  have eN : rwT t (divS t N i a S) N = xgr2 a (rwT t S i) (xbeg (S 10 (32 * t + i) 1) (S 10 (32 * t + i) 2) (S 10 (32 * t + i) 3 - a) (S 10 (32 * t + i) 4) (S 2 t 2)) := by funext f; unfold rwT divS; rw [if_neg (by omega), if_pos ⟨rfl, rfl⟩]
  have eo : ∀ j, j < N → j ≠ i → rwT t (divS t N i a S) j = rwT t S j := fun j hj hn => by funext f; unfold rwT divS; rw [if_neg (by omega), if_neg (by omega), if_neg (by omega)]
  generalize divS t N i a S = S1 at e2 ei eN eo
  generalize hF : rwT t S i = F at ei eN
  have e0 : F 0 = 0 := by rw [← hF]; exact h0
  have e3 : 1 ≤ a ∧ a ≤ F 3 - 1 := by rw [← hF]; exact ha
  have i0 : rwT t S1 i 0 = 0 := by rw [ei]; exact e0
  have i2 : rwT t S1 i 2 = F 2 := by rw [ei]; rfl
  have i3 : rwT t S1 i 3 = a := by rw [ei]; rfl
  have i4 : rwT t S1 i 4 = F 4 := by rw [ei]; rfl
  have i5 : rwT t S1 i 5 = F 5 := by rw [ei]; rfl
  have i6 : rwT t S1 i 6 = xmin (F 6) a := by rw [ei]; rfl
  have i7 : rwT t S1 i 7 = F 7 := by rw [ei]; rfl
  have n0 : rwT t S1 N 0 = 0 := by rw [eN]; rfl
  have n2 : rwT t S1 N 2 = F 2 := by rw [eN, ← hF]; rfl
  have n3 : rwT t S1 N 3 = F 3 - a := by rw [eN, ← hF]; rfl
  have n4 : rwT t S1 N 4 = F 4 := by rw [eN, ← hF]; rfl
  have n5 : rwT t S1 N 5 = F 5 := by rw [eN]; rfl
  have n6 : rwT t S1 N 6 = xmax 0 (F 6 - a) := by rw [eN]; rfl
  have n7 : rwT t S1 N 7 = F 7 := by rw [eN]; rfl
  have hQ := h.1 i hi
  rw [hF] at hQ
  obtain ⟨q0, q1, q2, q3, q4, q6⟩ := id hQ
  have bi : lb (rwT t S1) i + lb (rwT t S1) N = lb (rwT t S) i := by
    unfold lb
    rw [i0, n0, hF, e0, if_pos rfl, if_pos rfl, if_pos rfl, i3, n3]
    omega
  have pi' : lp (rwT t S1) i = lp (rwT t S) i ∧ lp (rwT t S1) N = lp (rwT t S) i ∧ ld (rwT t S1) i = ld (rwT t S) i ∧ ld (rwT t S1) N = ld (rwT t S) i ∧ lr (S 2 t 2) (rwT t S1) i = lr (S 2 t 2) (rwT t S) i ∧ lr (S 2 t 2) (rwT t S1) N = lr (S 2 t 2) (rwT t S) i := by
    unfold lp ld lr
    rw [i2, n2, i4, n4, i5, n5, hF]
    exact ⟨rfl, rfl, rfl, rfl, rfl, rfl⟩
  obtain ⟨p1, p2, p3, p4, p5, p6⟩ := pi'
  have mm : (xmin (F 6) a).toNat + (xmax 0 (F 6 - a)).toNat = (F 6).toNat ∧ 0 ≤ xmin (F 6) a ∧ 0 ≤ xmax 0 (F 6 - a) ∧ (0 < xmin (F 6) a → 0 < F 6) ∧ (0 < xmax 0 (F 6 - a) → 0 < F 6) := by
    unfold xmin xmax
    split <;> split <;> omega
  refine ⟨fun j hj => ?_, ?_, ?_⟩
  · rw [e2]
    by_cases c : j = N
    · subst c
      unfold LQ
      rw [n0, n2, n3, n4, n5, n6, n7]
      exact ⟨Or.inl rfl, q1, by omega, ⟨fun _ => q3.1 e0, q3.2⟩, fun z => ⟨rfl, (q4 (mm.2.2.2.2 z)).2⟩, mm.2.2.1⟩
    · by_cases c2 : j = i
      · subst c2
        unfold LQ
        rw [i0, i2, i3, i4, i5, i6, i7]
        exact ⟨Or.inl rfl, q1, by omega, ⟨fun _ => q3.1 e0, q3.2⟩, fun z => ⟨rfl, (q4 (mm.2.2.2.1 z)).2⟩, mm.2.1⟩
      · rw [eo j (by omega) c2]; exact h.1 j (by omega)
  · refine Nat.le_trans (Nat.le_of_eq ?_) h.2.1
    unfold lC
    rw [sn]
    refine sn_two hi (fun j hj hn => ?_) _ ?_
    · unfold lb lp; rw [eo j hj hn]
    · show _ * (120 / _) + _ * (120 / _) = _ * (120 / _)
      rw [p1, p2, ← Nat.add_mul, bi]
  · rw [e2]
    refine VN_le (fun d => Nat.le_of_eq ?_) (fun d m => Nat.le_of_eq ?_) h.2.2
    · unfold lW
      rw [sn]
      refine sn_two hi (fun j hj hn => ?_) _ ?_
      · unfold lw1; rw [eo j hj hn]
      · unfold lw1 w1
        rw [i6, i7, n6, n7, hF]
        split
        · exact mm.1
        · rfl
    · unfold AN
      rw [sn]
      refine sn_two hi (fun j hj hn => ?_) _ ?_
      · unfold lb lr lp ld; rw [eo j hj hn]
      · show (if _ then _ else _) + (if _ then _ else _) = (if _ then _ else _)
        rw [p1, p2, p3, p4, p5, p6]
        split
        · exact bi
        · rfl
/-! what is kept for ever: nothing yet, a copy -/
theorem Fut.nil {t : Nat} {S : xS} : Fut t 0 S := ⟨fun j hj => absurd hj (Nat.not_lt_zero j), Nat.zero_le _, fun m => by
  have a : ∀ d m, lV (S 2 t 2) (rwT t S) 0 d m = 0 := fun d m => by
    induction m with
    | zero => rfl
    | succ m ih => show lV _ _ 0 d m + 0 - 1 = 0; rw [ih]
  exact a _ _⟩

