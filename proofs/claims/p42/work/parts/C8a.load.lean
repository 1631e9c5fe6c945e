/-! the load is at most 1, but for what rounding adds -/
section LD
/-- the double x is not below zero and at most m / 2^40 -/
def UB (x : UInt64) (m : Nat) : Prop := ∃ c q, Jvm.FP.Core.val64 x = .fin false c q ∧ q ≤ -41 ∧ c ≤ m * 2 ^ (-40 - q).toNat
def ubB (x : UInt64) (m : Nat) : Bool := match Jvm.FP.Core.val64 x with
  | .fin false c q => decide (q ≤ -41) && decide (c ≤ m * 2 ^ (-40 - q).toNat)
  | _ => false
theorem ubB_ok {x : UInt64} {m : Nat} (h : ubB x m = true) : UB x m := by
  unfold ubB at h
  split at h
  · rename_i c q e
    rw [Bool.and_eq_true, decide_eq_true_iff, decide_eq_true_iff] at h
    exact ⟨c, q, e, h.1, h.2⟩
  · exact absurd h Bool.false_ne_true
def shB : Bool := (List.range 121).all fun p => decide (p = 0) || decide (120 % p ≠ 0) || (List.range 121).all fun b => ubB (FP.ddiv (FP.i2d (Int32.ofInt (b : Int))) (FP.i2d (Int32.ofInt (p : Int)))) (b * (120 / p) * 9162596899)
theorem shB_ok : shB = true := by decide +kernel
theorem ub_div {b p : Nat} (hb : b ≤ 120) (hp : 0 < p ∧ p ≤ 120 ∧ 120 % p = 0) : UB (FP.ddiv (FP.i2d (Int32.ofInt (b : Int))) (FP.i2d (Int32.ofInt (p : Int)))) (b * (120 / p) * 9162596899) := by
  have h := List.all_eq_true.mp shB_ok p (List.mem_range.mpr (by omega))
  rw [Bool.or_eq_true, Bool.or_eq_true, decide_eq_true_iff, decide_eq_true_iff] at h
  rcases h with (h | h) | h
  · omega
  · exact absurd hp.2.2 h
  · exact ubB_ok (List.all_eq_true.mp h b (List.mem_range.mpr (by omega)))
theorem ub_round {A m : Nat} {e : Int} (hm : m ≤ 2 ^ 42) (he : e ≤ -41) (hA : A ≤ m * 2 ^ (-40 - e).toNat) : ∃ c q, Jvm.FP.Core.roundRatio Jvm.FP.Core.b64 false A 1 e = .fin false c q ∧ q ≤ -41 ∧ c ≤ m * 2 ^ (-40 - q).toNat := by
  unfold Jvm.FP.Core.roundRatio
  by_cases h0 : A = 0
  · rw [if_pos h0]
    exact ⟨0, _, rfl, by decide, Nat.zero_le _⟩
  · rw [if_neg h0]
    have hq := Jvm.FP.Core.quantum_not_below (f := Jvm.FP.Core.b64) (A := A) (B := 1) (by omega) (by decide) e
    have hq50 : Jvm.FP.Core.quantum Jvm.FP.Core.b64 A 1 e ≤ -49 := by
      rcases hq with hq | hq
      · rw [hq]; decide
      · have hb : Jvm.FP.Core.Below A 1 (3 - e) := by
          unfold Jvm.FP.Core.Below
          rw [show (-(3 - e)).toNat = 0 by omega, Nat.pow_zero, Nat.mul_one, Nat.one_mul]
          refine Nat.lt_of_le_of_lt (Nat.le_trans hA (Nat.mul_le_mul_right _ hm)) ?_
          rw [← Nat.pow_add, show (3 - e).toNat = 42 + (-40 - e).toNat + 1 by omega]
          exact Nat.pow_lt_pow_right (by decide) (by omega)
        have := Jvm.FP.Core.lt_of_below hq hb
        have h53 : ((Jvm.FP.Core.b64.p : Nat) : Int) = 53 := by decide
        omega
    generalize Jvm.FP.Core.quantum Jvm.FP.Core.b64 A 1 e = q at hq50
    unfold Jvm.FP.Core.roundAt
    have hU : Jvm.FP.Core.unitsNum A e q ≤ (m * 2 ^ (-40 - q).toNat) * Jvm.FP.Core.unitsDen 1 e q := by
      unfold Jvm.FP.Core.unitsNum Jvm.FP.Core.unitsDen
      rw [Nat.one_mul]
      by_cases c : q ≤ e
      · rw [show (q - e).toNat = 0 by omega, Nat.pow_zero, Nat.mul_one]
        refine Nat.le_trans (Nat.mul_le_mul_right _ hA) (Nat.le_of_eq ?_)
        rw [Nat.mul_assoc, ← Nat.pow_add]
        congr 2
        omega
      · rw [show (e - q).toNat = 0 by omega, Nat.pow_zero, Nat.mul_one]
        refine Nat.le_trans hA (Nat.le_of_eq ?_)
        rw [Nat.mul_assoc, ← Nat.pow_add]
        congr 2
        omega
    have hD : 0 < Jvm.FP.Core.unitsDen 1 e q := Jvm.FP.Core.unitsDen_pos (by decide) e q
    have hn := Jvm.FP.Core.nearest_le hD hU
    generalize Jvm.FP.Core.nearest (Jvm.FP.Core.unitsNum A e q) (Jvm.FP.Core.unitsDen 1 e q) = z at hn
    unfold Jvm.FP.Core.settle
    have hmax : Jvm.FP.Core.b64.qmax = 971 := by decide
    have ht : Jvm.FP.Core.b64.tails = 2 ^ 52 := by decide
    by_cases c : z < 2 ^ Jvm.FP.Core.b64.p
    · rw [if_pos c]
      unfold Jvm.FP.Core.bound
      rw [if_pos (by omega)]
      exact ⟨z, q, rfl, by omega, hn⟩
    · rw [if_neg c]
      unfold Jvm.FP.Core.bound
      rw [if_pos (by omega)]
      refine ⟨_, _, rfl, by omega, ?_⟩
      have hp : 2 ^ Jvm.FP.Core.b64.p = 2 * 2 ^ 52 := by decide
      rw [ht]
      rw [show (-40 - q).toNat = (-40 - (q + 1)).toNat + 1 by omega, Nat.pow_succ, ← Nat.mul_assoc] at hn
      omega
theorem ub_add {x y : UInt64} {m k : Nat} (hx : UB x m) (hy : UB y k) (h : m + k ≤ 2 ^ 42) : UB (FP.dadd x y) (m + k) := by
  obtain ⟨c, q, e1, q1, c1⟩ := hx
  obtain ⟨d, r, e2, q2, c2⟩ := hy
  unfold UB
  have e3 : Jvm.FP.Core.val64 (FP.dadd x y) = Jvm.FP.Core.round Jvm.FP.Core.b64 (Jvm.FP.Core.exactSum (Jvm.FP.Core.val64 x) (Jvm.FP.Core.val64 y)) := Jvm.FP.Core.val64_dadd x y
  rw [e3, e1, e2]
  have hu : Jvm.FP.Core.sumUnits false c q false d r (min q r) = ((c * 2 ^ (q - min q r).toNat + d * 2 ^ (r - min q r).toNat : Nat) : Int) := by
    show ((c * 2 ^ (q - min q r).toNat : Nat) : Int) + ((d * 2 ^ (r - min q r).toNat : Nat) : Int) = _
    omega
  have hs : Jvm.FP.Core.sumSign false false (Jvm.FP.Core.sumUnits false c q false d r (min q r)) = false := by
    unfold Jvm.FP.Core.sumSign
    split
    · rfl
    · exact decide_eq_false (by rw [hu]; omega)
  show ∃ c' q', Jvm.FP.Core.round _ (.fin (Jvm.FP.Core.sumSign false false _) _ _) = _ ∧ _
  rw [hs, hu]
  show ∃ c' q', Jvm.FP.Core.roundRatio _ false (Int.natAbs _) 1 _ = _ ∧ _
  rw [Int.natAbs_natCast]
  refine ub_round h (by omega) ?_
  have g1 : c * 2 ^ (q - min q r).toNat ≤ m * 2 ^ (-40 - min q r).toNat := by
    refine Nat.le_trans (Nat.mul_le_mul_right _ c1) (Nat.le_of_eq ?_)
    rw [Nat.mul_assoc, ← Nat.pow_add]
    congr 2
    omega
  have g2 : d * 2 ^ (r - min q r).toNat ≤ k * 2 ^ (-40 - min q r).toNat := by
    refine Nat.le_trans (Nat.mul_le_mul_right _ c2) (Nat.le_of_eq ?_)
    rw [Nat.mul_assoc, ← Nat.pow_add]
    congr 2
    omega
  rw [Nat.add_mul]
  exact Nat.add_le_add g1 g2
theorem ub_0 : UB 0 0 := ubB_ok (by decide +kernel)
theorem ub_K : Jvm.FP.Core.val64 4607182419250377371 = .fin false (2 ^ 52 + 450359963) (-52) := by decide +kernel
theorem ub_cmp {x : UInt64} {m : Nat} (h : UB x m) (hm : m ≤ 2 ^ 40 + 200) : ∃ z : Int, Op.cmpValue (FP.dcmp x 4607182419250377371) .g = Int32.ofInt z ∧ xr z ∧ z ≤ 0 := by
  obtain ⟨c, q, e1, q1, c1⟩ := h
  have e2 : FP.dcmp x 4607182419250377371 = Jvm.FP.Core.order (Jvm.FP.Core.val64 x) (Jvm.FP.Core.val64 4607182419250377371) := rfl
  rw [e2, e1, ub_K]
  show ∃ z : Int, Op.cmpValue (some (compare ((c * 2 ^ (q - min q (-52)).toNat : Nat) : Int) (((2 ^ 52 + 450359963) * 2 ^ (-52 - min q (-52)).toNat : Nat) : Int))) .g = _ ∧ _
  have g : c * 2 ^ (q - min q (-52)).toNat ≤ (2 ^ 52 + 450359963) * 2 ^ (-52 - min q (-52)).toNat := by
    refine Nat.le_trans (Nat.mul_le_mul_right _ (Nat.le_trans c1 (Nat.mul_le_mul_right _ hm))) ?_
    rw [Nat.mul_assoc, ← Nat.pow_add, show (-40 - q).toNat + (q - min q (-52)).toNat = 12 + (-52 - min q (-52)).toNat by omega, Nat.pow_add, ← Nat.mul_assoc]
    exact Nat.mul_le_mul_right _ (by decide)
  generalize c * 2 ^ (q - min q (-52)).toNat = u at g
  generalize (2 ^ 52 + 450359963) * 2 ^ (-52 - min q (-52)).toNat = v at g
  rcases Nat.lt_or_eq_of_le g with g2 | g2
  · refine ⟨-1, ?_, by decide, by decide⟩
    have : compare (u : Int) (v : Int) = .lt := by show compareOfLessAndEq _ _ = _; unfold compareOfLessAndEq; rw [if_pos (by omega)]
    rw [this]; rfl
  · refine ⟨0, ?_, by decide, by decide⟩
    have : compare (u : Int) (v : Int) = .eq := by show compareOfLessAndEq _ _ = _; unfold compareOfLessAndEq; rw [if_neg (by omega), if_pos (by omega)]
    rw [this]; rfl
end LD
