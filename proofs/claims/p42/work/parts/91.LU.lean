/-! a tick and the work that is due -/
/-! a tick, and the recursion -/
theorem sn_two {f g : Nat → Nat} {i : Nat} : ∀ {n : Nat}, i < n → (∀ j, j < n → j ≠ i → g j = f j) → ∀ x, g i + x = f i → sn g n + x = sn f n
  | n + 1, hi, h, x, e => by
    by_cases c : i = n
    · subst c
      rw [sn, sn, sn_congr (f := g) (g := f) (fun j hj => h j (by omega) (by omega))]
      omega
    · have a := sn_two (n := n) (by omega) (fun j hj => h j (by omega)) x e
      have z := h n (by omega) (by omega)
      rw [sn, sn]
      omega
theorem rel_2 {t N : Nat} {S : xS} : relT t N S 2 t 2 = S 2 t 2 := by unfold relT; rw [if_neg (by omega)]
theorem cho_2 {t N : Nat} {S : xS} : choT t N S 2 t 2 = S 2 t 2 := by
  unfold choT decT
  cases bstT t S N with
  | none => rfl
  | some b => show up S 10 (32 * t + b) 6 _ 2 t 2 = _; rw [up_k (by decide)]
theorem cho_f {t N j f : Nat} {S : xS} (h : f ≠ 6) : choT t N S 10 (32 * t + j) f = S 10 (32 * t + j) f := by
  unfold choT decT
  cases bstT t S N with
  | none => rfl
  | some b => show up S 10 (32 * t + b) 6 _ 10 (32 * t + j) f = _; rw [up_f h]
theorem cho_6 {t N j : Nat} {S : xS} (h : 0 ≤ S 10 (32 * t + j) 6) : 0 ≤ choT t N S 10 (32 * t + j) 6 ∧ choT t N S 10 (32 * t + j) 6 ≤ S 10 (32 * t + j) 6 := by
  unfold choT
  cases e : bstT t S N with
  | none => exact ⟨h, Int.le_refl _⟩
  | some b =>
    have a := bstT_lt e
    show 0 ≤ up S 10 (32 * t + b) 6 (S 10 (32 * t + b) 6 - 1) 10 (32 * t + j) 6 ∧ up S 10 (32 * t + b) 6 (S 10 (32 * t + b) 6 - 1) 10 (32 * t + j) 6 ≤ _
    by_cases c : j = b
    · subst c; rw [up_same]; omega
    · rw [up_oth (by omega)]; omega
/-- a row after releases and service -/
def cR (t N : Nat) (S : xS) : xS := choT t N (relT t N S)
theorem cR_2 {t N : Nat} {S : xS} : cR t N S 2 t 2 = S 2 t 2 := by unfold cR; rw [cho_2, rel_2]
theorem cR_f {t N j f : Nat} {S : xS} (hj : j < N) (h : f ≠ 6) : cR t N S 10 (32 * t + j) f = rrl (S 2 t 2) (rwT t S j) f := by unfold cR; rw [cho_f h, ← rwT_rel hj]; rfl
theorem rel_6 {t N j : Nat} {S : xS} (hL : LR (S 2 t 2) (rwT t S) N) (hj : j < N) : 0 ≤ relT t N S 10 (32 * t + j) 6 := by
  have a := (rrl_Q (hL j hj)).1.2.2.2.2.2
  rw [← rwT_rel hj] at a
  exact a
theorem cR_6 {t N j : Nat} {S : xS} (hL : LR (S 2 t 2) (rwT t S) N) (hj : j < N) : 0 ≤ cR t N S 10 (32 * t + j) 6 ∧ cR t N S 10 (32 * t + j) 6 ≤ rrl (S 2 t 2) (rwT t S j) 6 := by
  have a := cho_6 (N := N) (rel_6 hL hj)
  refine ⟨a.1, ?_⟩
  rw [← rwT_rel hj]
  exact a.2
theorem cR_W {t N d : Nat} {S : xS} (hL : LR (S 2 t 2) (rwT t S) N) : lW (S 2 t 2) (rwT t (cR t N S)) N d = lV (S 2 t 2) (rwT t S) N d 1 := by
  unfold cR
  rw [cho_W (fun j hj => rel_6 hL hj)]
  show _ = lW (S 2 t 2) (rwT t S) N d + AN N _ _ _ _ d 0 - 1
  unfold lW AN
  rw [← sn_add]
  congr 1
  refine sn_congr (fun j hj => ?_)
  show w1 _ _ (rwT t (relT t N S) j) = _
  rw [rwT_rel hj]
  exact rrl_w (hL j hj)
theorem mis_V {t N : Nat} {S : xS} (hL : LR (S 2 t 2) (rwT t S) N) : misT t N (cR t N S) = 0 ↔ lV (S 2 t 2) (rwT t S) N 1 1 = 0 := by
  rw [← cR_W hL]
  unfold misT lW
  rw [sm_zero (fun j hj => by unfold b2i; split <;> decide), sn_nil, cR_2]
  constructor
  · intro h j hj
    have a := h j hj
    have b := cR_6 hL hj
    unfold lw1 w1 rwT
    unfold b2i at a
    split
    · rename_i c
      by_cases c2 : 0 < cR t N S 10 (32 * t + j) 6
      · rw [if_pos ⟨c2, c⟩] at a; exact absurd a (by decide)
      · omega
    · rfl
  · intro h j hj
    have a := h j hj
    unfold lw1 w1 rwT at a
    unfold b2i
    rw [if_neg]
    rintro ⟨c1, c2⟩
    rw [if_pos (show cR t N S 10 (32 * t + j) 7 ≤ S 2 t 2 + ((1 : Nat) : Int) from c2)] at a
    omega
theorem tck_row {t N j : Nat} {S : xS} (hj : j < N) (h : ¬ (0 < cR t N S 10 (32 * t + j) 6 ∧ cR t N S 10 (32 * t + j) 7 ≤ S 2 t 2 + 1)) : rwT t (tckT t N S) j = cR t N S 10 (32 * t + j) := by
  funext f
  show groT t N (cR t N S) 10 (32 * t + j) f = _
  unfold groT
  rw [if_neg (by omega), if_pos ⟨rfl, by omega, by omega⟩, cR_2]
  unfold xmis
  rw [if_neg h]
theorem tck_2 {t N : Nat} {S : xS} : tckT t N S 2 t 2 = S 2 t 2 + 1 := by
  show groT t N (cR t N S) 2 t 2 = _
  unfold groT
  rw [if_pos ⟨rfl, rfl, rfl⟩, cR_2]
theorem no_mis {t N j : Nat} {S : xS} (h : misT t N (cR t N S) = 0) (hj : j < N) : ¬ (0 < cR t N S 10 (32 * t + j) 6 ∧ cR t N S 10 (32 * t + j) 7 ≤ S 2 t 2 + 1) := by
  unfold misT at h
  rw [sm_zero (fun j hj => by unfold b2i; split <;> decide)] at h
  have a := h j hj
  rw [cR_2] at a
  intro c
  unfold b2i at a
  rw [if_pos c] at a
  exact absurd a (by decide)
theorem tck_LR {t N : Nat} {S : xS} (hL : LR (S 2 t 2) (rwT t S) N) (h : misT t N (cR t N S) = 0) : LR (tckT t N S 2 t 2) (rwT t (tckT t N S)) N := fun j hj => by
  rw [tck_2, tck_row hj (no_mis h hj)]
  obtain ⟨⟨q0, q1, q2, q3, q4, q6⟩, q5⟩ := rrl_Q (hL j hj)
  have n1 := no_mis h hj
  have n6 := cR_6 hL hj
  unfold LQ
  rw [cR_f hj (f := 0) (by decide), cR_f hj (f := 2) (by decide), cR_f hj (f := 3) (by decide), cR_f hj (f := 4) (by decide), cR_f hj (f := 5) (by decide)]
  rw [cR_f hj (f := 7) (by decide)] at n1 ⊢
  refine ⟨q0, q1, q2, ⟨fun z => q5 z, by omega⟩, fun z => ?_, n6.1⟩
  have a := q4 (by omega)
  refine ⟨a.1, ?_, a.2.2⟩
  have b : ¬ rrl (S 2 t 2) (rwT t S j) 7 ≤ S 2 t 2 + 1 := fun y => n1 ⟨z, y⟩
  omega
theorem rrl_034 {c : Int} {F : Nat → Int} : rrl c F 0 = F 0 ∧ rrl c F 2 = F 2 ∧ rrl c F 3 = F 3 ∧ rrl c F 4 = F 4 := by
  unfold rrl
  split
  · exact ⟨rfl, rfl, rfl, rfl⟩
  · exact ⟨rfl, rfl, rfl, rfl⟩
theorem rrl_5 {c : Int} {F : Nat → Int} : rrl c F 5 = if F 0 = 0 ∧ F 5 = c then F 5 + F 2 else F 5 := by
  unfold rrl
  split
  · rfl
  · rfl
theorem tck_lb {t N j : Nat} {S : xS} (hj : j < N) (h : misT t N (cR t N S) = 0) : lb (rwT t (tckT t N S)) j = lb (rwT t S) j ∧ lp (rwT t (tckT t N S)) j = lp (rwT t S) j ∧ ld (rwT t (tckT t N S)) j = ld (rwT t S) j := by
  unfold lb lp ld
  rw [tck_row hj (no_mis h hj), cR_f hj (f := 0) (by decide), cR_f hj (f := 2) (by decide), cR_f hj (f := 3) (by decide), cR_f hj (f := 4) (by decide), rrl_034.1, rrl_034.2.1, rrl_034.2.2.1, rrl_034.2.2.2]
  exact ⟨rfl, rfl, rfl⟩
theorem tck_A {t N d m : Nat} {S : xS} (hL : LR (S 2 t 2) (rwT t S) N) (h : misT t N (cR t N S) = 0) : AN N (lb (rwT t (tckT t N S))) (lr (tckT t N S 2 t 2) (rwT t (tckT t N S))) (lp (rwT t (tckT t N S))) (ld (rwT t (tckT t N S))) d m = AN N (lb (rwT t S)) (lr (S 2 t 2) (rwT t S)) (lp (rwT t S)) (ld (rwT t S)) (d + 1) (m + 1) := by
  refine sn_congr (fun j hj => ?_)
  obtain ⟨e1, e2, e3⟩ := tck_lb (S := S) (t := t) hj h
  rw [e1, e2, e3]
  by_cases c0 : rwT t S j 0 = 0
  · have e5 : lr (tckT t N S 2 t 2) (rwT t (tckT t N S)) j = (rrl (S 2 t 2) (rwT t S j) 5 - (S 2 t 2 + 1)).toNat := by
      unfold lr
      rw [tck_2, tck_row hj (no_mis h hj), cR_f hj (f := 5) (by decide)]
    obtain ⟨q0, q1, q2, q3, q4, q6⟩ := hL j hj
    have q3 := q3.1 c0
    have hg := rl_s (r := lr (S 2 t 2) (rwT t S) j) (r' := lr (tckT t N S 2 t 2) (rwT t (tckT t N S)) j) (p := lp (rwT t S) j) (m := m) (by
      rw [e5, rrl_5]
      unfold lr lp
      by_cases c5 : rwT t S j 5 = S 2 t 2
      · rw [if_pos ⟨c0, c5⟩]; left; omega
      · rw [if_neg (fun z => c5 z.2)]; right; omega)
    by_cases c1 : rlN (lr (tckT t N S 2 t 2) (rwT t (tckT t N S)) j) (lp (rwT t S) j) m = true ∧ m + ld (rwT t S) j ≤ d
    · rw [if_pos c1, if_pos ⟨hg.mp c1.1, by omega⟩]
    · rw [if_neg c1, if_neg (fun z => c1 ⟨hg.mpr z.1, by omega⟩)]
  · have z : lb (rwT t S) j = 0 := by unfold lb; rw [if_neg c0]
    rw [z]
    split <;> split <;> rfl
theorem tck_V {t N : Nat} {S : xS} (hL : LR (S 2 t 2) (rwT t S) N) (h : misT t N (cR t N S) = 0) {d : Nat} : ∀ m, lV (tckT t N S 2 t 2) (rwT t (tckT t N S)) N d m = lV (S 2 t 2) (rwT t S) N (d + 1) (m + 1) := fun m => by
  induction m with
  | zero =>
    rw [show (0 : Nat) + 1 = 1 from rfl, ← cR_W hL]
    show lW _ _ N d = _
    unfold lW
    refine sn_congr (fun j hj => ?_)
    show w1 _ _ (rwT t (tckT t N S) j) = w1 _ _ (cR t N S 10 (32 * t + j))
    rw [tck_row hj (no_mis h hj), tck_2]
    unfold w1
    by_cases c : cR t N S 10 (32 * t + j) 7 ≤ S 2 t 2 + ((d + 1 : Nat) : Int)
    · rw [if_pos c, if_pos (by omega)]
    · rw [if_neg c, if_neg (by omega)]
  | succ m ih =>
    show lV _ _ N d m + AN N _ _ _ _ d m - 1 = lV _ _ N (d + 1) (m + 1) + AN N _ _ _ _ (d + 1) (m + 1) - 1
    rw [ih, tck_A hL h]
theorem okT_V {t N : Nat} : ∀ {n : Nat} {S : xS}, LR (S 2 t 2) (rwT t S) N → (okT t N n S = true ↔ ∀ m, m < n → lV (S 2 t 2) (rwT t S) N (m + 1) (m + 1) = 0)
  | 0, S, hL => ⟨fun _ m hm => absurd hm (Nat.not_lt_zero m), fun _ => rfl⟩
  | n + 1, S, hL => by
    show (decide (misT t N (cR t N S) = 0) && okT t N n (tckT t N S)) = true ↔ _
    rw [Bool.and_eq_true, decide_eq_true_iff]
    constructor
    · rintro ⟨h1, h2⟩ m hm
      cases m with
      | zero => exact (mis_V hL).mp h1
      | succ m =>
        have a := (okT_V (tck_LR hL h1)).mp h2 m (by omega)
        rw [tck_V hL h1] at a
        exact a
    · intro h
      have h1 := (mis_V hL).mpr (h 0 (by omega))
      refine ⟨h1, (okT_V (tck_LR hL h1)).mpr (fun m hm => ?_)⟩
      rw [tck_V hL h1]
      exact h (m + 1) (by omega)

