/-! what is kept for ever -/
/-! what is kept for ever -/
def lC (R : Nat → Nat → Int) (N : Nat) : Nat := sn (fun j => lb R j * (120 / lp R j)) N
def Fut (t N : Nat) (S : xS) : Prop := LR (S 2 t 2) (rwT t S) N ∧ lC (rwT t S) N ≤ 120 ∧ ∀ m, lV (S 2 t 2) (rwT t S) N (m + 1) (m + 1) = 0
theorem Fut.ok {t N : Nat} {S : xS} (h : Fut t N S) (n : Nat) : okT t N n S = true := (okT_V h.1).mpr (fun m _ => h.2.2 m)
theorem per_N {p : Int} (h : perP p) : 120 % p.toNat = 0 ∧ 0 < p.toNat ∧ p.toNat ≤ 120 := by
  obtain ⟨h1, h2, h3⟩ := h
  refine ⟨?_, by omega, by omega⟩
  have e : p = ((p.toNat : Nat) : Int) := by omega
  rw [e, show (120 : Int) = ((120 : Nat) : Int) from rfl, ← Int.ofNat_tmod] at h3
  omega
theorem Fut.mk {t N : Nat} {S : xS} (hL : LR (S 2 t 2) (rwT t S) N) (hC : lC (rwT t S) N ≤ 120) (h : okT t N 360 S = true) : Fut t N S := by
  refine ⟨hL, hC, ?_⟩
  have h1 := (okT_V hL).mp h
  refine lm_all (fun j hj => ?_) (fun j hj => ?_) (fun j hj => ?_) hC (fun d hd => ?_) h1
  · obtain ⟨q0, q1, q2, q3, q4, q6⟩ := hL j hj
    unfold lr; omega
  · exact per_N (hL j hj).2.1
  · obtain ⟨q0, q1, q2, q3, q4, q6⟩ := hL j hj
    unfold ld; omega
  · unfold lW
    refine sn_congr (fun j hj => ?_)
    obtain ⟨q0, q1, q2, q3, q4, q6⟩ := hL j hj
    unfold lw1 w1
    by_cases c : 0 < rwT t S j 6
    · have a := q4 c
      have b := q3.2
      rw [if_pos (by omega), if_pos (by omega)]
    · rw [show rwT t S j 6 = 0 by omega]
      split <;> split <;> rfl

