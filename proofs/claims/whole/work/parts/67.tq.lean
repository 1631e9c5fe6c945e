/-! the two readers: tokens -/
theorem ub_L {b : Int} (h : -128 ≤ b ∧ b < 128) : isL (ub b) ↔ isL b := by unfold ub; split <;> omega
theorem ub_D {b : Int} (h : -128 ≤ b ∧ b < 128) : isD (ub b) ↔ isD b := by unfold ub; split <;> omega
theorem ub_S {b : Int} (h : -128 ≤ b ∧ b < 128) : isS (ub b) ↔ isS b := by unfold ub; split <;> omega
theorem ub_59 {b : Int} (h : -128 ≤ b ∧ b < 128) : ub b = 59 ↔ b = 59 := by unfold ub; split <;> omega
theorem ub_p {b : Int} (h : 0 ≤ b) : ub b = b := by unfold ub; rw [if_neg (by omega)]
/-- the two kinds of bytes of a text -/
def BQ (n : Nat) (B B' : Nat → Int) : Prop := ∀ i, i < n → (-128 ≤ B i ∧ B i < 128) ∧ B' i = ub (B i)
theorem BQ.sp {n : Nat} {B B' : Nat → Int} (h : BQ n B B') : ∀ k p, p + k ≤ n → spF B' k p = spF B k p
  | 0, p, _ => rfl
  | k + 1, p, hk => by
    have h9 := h p (by omega)
    rw [spF, spF, h.sp k (p + 1) (by omega), h9.2]
    by_cases c : isS (B p)
    · rw [if_pos c, if_pos ((ub_S h9.1).mpr c)]
    · rw [if_neg c, if_neg (fun z => c ((ub_S h9.1).mp z))]
theorem BQ.wd {n : Nat} {B B' : Nat → Int} (h : BQ n B B') : ∀ k p, p + k ≤ n → wdF B' k p = wdF B k p
  | 0, p, _ => rfl
  | k + 1, p, hk => by
    have h9 := h p (by omega)
    rw [wdF, wdF, h.wd k (p + 1) (by omega), h9.2]
    by_cases c : isL (B p)
    · rw [if_pos c, if_pos ((ub_L h9.1).mpr c)]
    · rw [if_neg c, if_neg (fun z => c ((ub_L h9.1).mp z))]
theorem BQ.dg {n : Nat} {B B' : Nat → Int} (h : BQ n B B') : ∀ k p, p + k ≤ n → dgF B' k p = dgF B k p
  | 0, p, _ => rfl
  | k + 1, p, hk => by
    have h9 := h p (by omega)
    rw [dgF, dgF, h.dg k (p + 1) (by omega), h9.2]
    by_cases c : isD (B p)
    · rw [if_pos c, if_pos ((ub_D h9.1).mpr c)]
    · rw [if_neg c, if_neg (fun z => c ((ub_D h9.1).mp z))]
/-- the two values of a number -/
def VR (c m : Int) : Prop := (c = m ∧ 0 ≤ c ∧ c < 10000000) ∨ (c = 10000000 ∧ 10000000 ≤ m ∧ m ≤ 100000009)
theorem VR.step {c m b : Int} (h : VR c m) (hb : isD b) : VR (xmin 10000000 (c * 10 + b - 48)) (if 10000000 < m then m else 10 * m + b - 48) := by
  unfold VR at h ⊢
  unfold xmin
  split <;> split <;> omega
theorem BQ.vl {n : Nat} {B B' : Nat → Int} (h : BQ n B B') : ∀ k p c m, p + k ≤ n → VR c m → VR (vlF B k p c) (vmF B' k p m)
  | 0, p, c, m, _, hv => hv
  | k + 1, p, c, m, hk, hv => by
    have h9 := h p (by omega)
    rw [vlF, vmF, h9.2]
    by_cases z : isD (B p)
    · rw [if_pos z, if_pos ((ub_D h9.1).mpr z), ub_p (by omega)]
      exact h.vl k (p + 1) _ _ (by omega) (hv.step z)
    · rw [if_neg z, if_neg (fun y => z ((ub_D h9.1).mp y))]
      exact hv
/-- a word's number -/
def hsB (B : Nat → Int) (s : Nat) : Nat → Int
  | 0 => 0
  | k + 1 => 27 * hsB B s k + B (s + k) - 96
theorem wdF_L {B : Nat → Int} : ∀ k p j, j < wdF B k p - p → isL (B (p + j))
  | 0, p, j, h => by unfold wdF at h; omega
  | k + 1, p, j, h => by
    rw [wdF] at h
    by_cases c : isL (B p)
    · rw [if_pos c] at h
      cases j with
      | zero => exact c
      | succ j =>
        have h9 := wdF_L (B := B) k (p + 1) j (by omega)
        rw [show p + (j + 1) = p + 1 + j by omega]
        exact h9
    · rw [if_neg c] at h; omega
theorem whF_hs {B : Nat → Int} {s : Nat} : ∀ k c, wdF B k (s + c) - s ≤ 11 → whF B k (s + c) c (hsB B s c) = hsB B s (wdF B k (s + c) - s)
  | 0, c, h => by rw [whF, wdF, Nat.add_sub_cancel_left]
  | k + 1, c, h => by
    rw [whF, wdF]
    rw [wdF] at h
    by_cases z : isL (B (s + c))
    · rw [if_pos z] at h ⊢
      rw [if_pos z]
      have hr := wdF_r (B := B) k (s + c + 1)
      rw [if_pos (by omega)]
      exact whF_hs k (c + 1) h
    · rw [if_neg z] at h ⊢
      rw [if_neg z, Nat.add_sub_cancel_left]
theorem hs_inj {B B2 : Nat → Int} {s s2 : Nat} : ∀ k, (∀ j, j < k → isL (B (s + j)) ∧ isL (B2 (s2 + j))) → (hsB B s k = hsB B2 s2 k ↔ ∀ j, j < k → B (s + j) = B2 (s2 + j))
  | 0, _ => ⟨fun _ j hj => absurd hj (Nat.not_lt_zero j), fun _ => rfl⟩
  | k + 1, hl => by
    have h9 := hs_inj (B := B) (B2 := B2) (s := s) (s2 := s2) k (fun j hj => hl j (by omega))
    have hk := hl k (by omega)
    rw [hsB, hsB]
    constructor
    · intro h j hj
      have e1 : hsB B s k = hsB B2 s2 k := by omega
      by_cases e : j = k
      · subst e; omega
      · exact h9.mp e1 j (by omega)
    · intro h
      have e1 := h9.mpr (fun j hj => h j (by omega))
      have e2 := h k (by omega)
      omega
theorem wEq_iff {B : Nat → Int} {s i : Nat} : ∀ k, wEq B s i k = true ↔ ∀ j, j < k → B (s + j) = xchr i j
  | 0 => ⟨fun _ j hj => absurd hj (Nat.not_lt_zero j), fun _ => rfl⟩
  | k + 1 => by
    rw [wEq, Bool.and_eq_true, wEq_iff k, decide_eq_true_iff]
    constructor
    · intro h j hj
      by_cases e : j = k
      · subst e; exact h.2
      · exact h.1 j (by omega)
    · intro h
      exact ⟨fun j hj => h j (by omega), h k (by omega)⟩
