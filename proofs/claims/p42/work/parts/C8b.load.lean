/-! the load, on -/
theorem ub_dsm {t K : Nat} {C : xS} {N : Nat} (hK : 120 * K ≤ 2 ^ 42) (hdiv : ∀ b p : Nat, b ≤ 120 → 0 < p ∧ p ≤ 120 ∧ 120 % p = 0 → UB (FP.ddiv (FP.i2d (Int32.ofInt (b : Int))) (FP.i2d (Int32.ofInt (p : Int)))) (b * (120 / p) * K)) (hL : LR (C 2 t 2) (rwT t C) N) (hC : lC (rwT t C) N ≤ 120) {T : Int} (hQ : ∀ j, j < N → TQ (C 2 t 2) T (C 10 (32 * t + j))) (i : Nat) : ∀ D : UInt64, i ≤ N → dsm (fun j => xshr (C 10 (32 * t + j))) (fun j => C 10 (32 * t + j) 0 = 0) i D → UB D (lC (rwT t C) i * K) := by
  induction i with
  | zero =>
    intro D _ h
    have e : D = 0 := h
    have e2 : lC (rwT t C) 0 * K = 0 := Nat.zero_mul K
    rw [e, e2]
    exact ub_0
  | succ i ih =>
    intro D hi h
    obtain ⟨q, hq, h⟩ := h
    have h9 := ih q (by omega) hq
    have hs : lC (rwT t C) (i + 1) = lC (rwT t C) i + lb (rwT t C) i * (120 / lp (rwT t C) i) := rfl
    have hm : lC (rwT t C) (i + 1) ≤ lC (rwT t C) N := by
      have hmono : ∀ k n : Nat, lC (rwT t C) k ≤ lC (rwT t C) (k + n) := fun k n => by
        induction n with
        | zero => exact Nat.le_refl _
        | succ n ih => exact Nat.le_trans ih (Nat.le_add_right _ _)
      have := hmono (i + 1) (N - (i + 1))
      rw [show i + 1 + (N - (i + 1)) = N by omega] at this
      exact this
    have hq2 := hL i (by omega)
    have hq3 := hQ i (by omega)
    unfold LQ at hq2
    unfold TQ at hq3
    rcases h with ⟨h1, e⟩ | ⟨h1, e⟩
    · rw [e, hs]
      have hb : lb (rwT t C) i = (C 10 (32 * t + i) 3).toNat := by unfold lb rwT; rw [if_pos h1]
      have hp : lp (rwT t C) i = (C 10 (32 * t + i) 2).toNat := rfl
      have hx : xshr (C 10 (32 * t + i)) = FP.ddiv (FP.i2d (Int32.ofInt ((C 10 (32 * t + i) 3).toNat : Int))) (FP.i2d (Int32.ofInt ((C 10 (32 * t + i) 2).toNat : Int))) := by
        unfold xshr
        rw [if_neg (by omega), Int.toNat_of_nonneg (by omega), Int.toNat_of_nonneg (by omega)]
      have hper : perP (C 10 (32 * t + i) 2) := hq2.2.1
      have hpN := per_N hper
      have hsum : lC (rwT t C) i * K + lb (rwT t C) i * (120 / lp (rwT t C) i) * K ≤ 2 ^ 42 := by
        rw [← Nat.add_mul, ← hs]
        exact Nat.le_trans (Nat.mul_le_mul_right _ (Nat.le_trans hm hC)) hK
      rw [Nat.add_mul]
      refine ub_add h9 ?_ hsum
      show UB (xshr (C 10 (32 * t + i))) _
      rw [hx, hb, hp]
      exact hdiv _ _ (by omega) ⟨hpN.2.1, hpN.2.2, hpN.1⟩
    · rw [e, hs]
      have hb : lb (rwT t C) i = 0 := by unfold lb rwT; rw [if_neg h1]
      rw [hb, Nat.zero_mul, Nat.add_zero]
      exact h9
theorem load_ok {N : Nat} {T : Int} {C : xS} {D : UInt64} (hV : VS 0 4 N T C) (g : Fut 0 N C) (h : dsm (fun j => xshr (C 10 (32 * 0 + j))) (fun j => C 10 (32 * 0 + j) 0 = 0) N D) : ∃ z : Int, Op.cmpValue (FP.dcmp D 4607182419250377371) .g = Int32.ofInt z ∧ xr z ∧ z ≤ 0 := by
  have h1 := ub_dsm (K := 9162596899) (by decide) (fun b p hb hp => ub_div hb hp) g.1 g.2.1 hV.1.2.2.2 N D (Nat.le_refl _) h
  refine ub_cmp h1 (Nat.le_trans (Nat.mul_le_mul_right _ g.2.1) (by decide))
