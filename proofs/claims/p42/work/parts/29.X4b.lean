/-! PromiseMarket$State: the rest -/
def cpyP (u s i : Nat) (S : xS) : xS := fun k j f => if k = 4 ∧ 8 * s ≤ j ∧ j < 8 * s + i then S 4 (8 * u + (j - 8 * s)) f else S k j f
def cpy0 (u s N : Nat) (S : xS) : xS := up (up (up (cpyV u s (cpyT u s N S)) 5 s 1 (S 5 u 1)) 5 s 2 (S 5 u 2)) 1 s 3 (S 1 u 3)
def cpyS (u s n N : Nat) (S : xS) : xS := up (up (up (up (up (up (up (up (up (up (cpyP u s n (cpy0 u s N S)) 1 s 4 (S 1 u 4)) 1 s 5 (S 1 u 5)) 1 s 6 (S 1 u 6)) 1 s 7 (S 1 u 7)) 1 s 8 (S 1 u 8)) 1 s 9 (S 1 u 9)) 1 s 10 (S 1 u 10)) 1 s 11 (S 1 u 11)) 1 s 12 (S 1 u 12)) 1 s 13 (S 1 u 13)
theorem cpyT_o {t u N : Nat} {S : xS} {k : Nat} (h2 : k ≠ 2) (h10 : k ≠ 10) : cpyT t u N S k = S k := by funext j f; unfold cpyT; rw [if_neg (by omega), if_neg (by omega), if_neg (by omega)]
theorem cpyV_o {u s : Nat} {S : xS} {k : Nat} (h : k ≠ 25) : cpyV u s S k = S k := by funext j f; unfold cpyV; rw [if_neg (by omega)]
theorem cpyP_o {u s i : Nat} {S : xS} {k : Nat} (h : k ≠ 4) : cpyP u s i S k = S k := by funext j f; unfold cpyP; rw [if_neg (by omega)]
theorem cpyP_0 (u s : Nat) (S : xS) : cpyP u s 0 S = S := by funext k j f; unfold cpyP; rw [if_neg (by omega)]
theorem cpyP_s {u s i : Nat} {S : xS} (hne : s ≠ u) (hi : i < 8) : cpyP u s (i + 1) S = rwS 4 (8 * s + i) (cpyP u s i S 4 (8 * u + i)) (cpyP u s i S) := by
  funext k j f
  unfold rwS
  by_cases c : k = 4 ∧ j = 8 * s + i
  · rw [if_pos c]
    obtain ⟨rfl, rfl⟩ := c
    unfold cpyP
    rw [if_pos ⟨rfl, by omega, by omega⟩, if_neg (by omega), Nat.add_sub_cancel_left]
  · rw [if_neg c]
    unfold cpyP
    by_cases c2 : k = 4 ∧ 8 * s ≤ j ∧ j < 8 * s + i
    · rw [if_pos c2, if_pos (by omega)]
    · rw [if_neg c2, if_neg (by omega)]
def entS (s n : Nat) (m b d : Int) (S : xS) : xS := up (rwS 4 (8 * s + n) (fun f => if f = 0 then m else if f = 1 then b else if f = 2 then d else 0) S) 1 s 3 ((n : Int) + 1)
def livS (s N : Nat) (S : xS) : Int := sm (fun j => if S 10 (32 * s + j) 0 = 0 then 1 else 0) N
def figS (s N : Nat) (S : xS) (a : Nat) : Int := if a = 0 then S 2 s 2 else if a = 1 then S 1 s 3 else if a = 2 then S 2 s 1 else if a = 3 then livS s N S else if a = 4 then S 1 s 4 else if a = 5 then S 1 s 5 else if a = 6 then S 5 s 1 else S 1 s (a + 1)
def feeS (s j : Nat) (S : xS) : Int := Int.tdiv (S 10 j 9 * S 1 s 5) 100
def selS (s j q o : Nat) (S : xS) : xS := up (up (up (up (up (up (up (up S 4 (8 * s + q) 0 (S 4 (8 * s + q) 0 - S 10 j 9)) 4 (8 * s + o) 0 (xmin 1000000 (S 4 (8 * s + o) 0 + (S 10 j 9 - feeS s j S)))) 1 s 6 (S 1 s 6 + feeS s j S)) 25 s (8 * o + q) (S 25 s (8 * o + q) + 1)) 5 s 1 (S 5 s 1 + 1)) 5 s 2 (S 5 s 2 + S 10 j 9)) 10 j 1 (q : Int)) 10 j 9 (-1)
def chpS (s q : Nat) (S : xS) : Nat → Option Nat
  | 0 => none
  | i + 1 => if S 10 (32 * s + i) 9 ≠ -1 ∧ S 10 (32 * s + i) 1 ≠ (q : Int) ∧ S 10 (32 * s + i) 9 ≤ S 4 (8 * s + q) 0 then (match chpS s q S i with | none => some i | some b => if S 10 (32 * s + i) 9 < S 10 (32 * s + b) 9 ∨ S 10 (32 * s + i) 9 = S 10 (32 * s + b) 9 ∧ S 10 (32 * s + b) 3 < S 10 (32 * s + i) 3 then some i else some b) else chpS s q S i
theorem chpS_lt {s q : Nat} {S : xS} : ∀ {i b : Nat}, chpS s q S i = some b → b < i ∧ S 10 (32 * s + b) 9 ≠ -1 ∧ S 10 (32 * s + b) 1 ≠ (q : Int) ∧ S 10 (32 * s + b) 9 ≤ S 4 (8 * s + q) 0
  | 0, _, h => nomatch h
  | i + 1, b, h => by
    unfold chpS at h
    split at h
    · rename_i c
      split at h
      · cases h; exact ⟨by omega, c⟩
      · rename_i q e
        split at h
        · cases h; exact ⟨by omega, c⟩
        · cases h; have := chpS_lt e; exact ⟨by omega, this.2⟩
    · have := chpS_lt h; exact ⟨by omega, this.2⟩
theorem feeS_r {s j : Nat} {S : xS} (hp : 0 ≤ S 10 j 9 ∧ S 10 j 9 ≤ 99999) (hf : 0 ≤ S 1 s 5 ∧ S 1 s 5 ≤ 50) : (0 ≤ S 10 j 9 * S 1 s 5 ∧ S 10 j 9 * S 1 s 5 ≤ 4999950) ∧ 0 ≤ feeS s j S ∧ feeS s j S ≤ S 10 j 9 := by
  have h1 : 0 ≤ S 10 j 9 * S 1 s 5 := Int.mul_nonneg hp.1 hf.1
  have h2 : S 10 j 9 * S 1 s 5 ≤ S 10 j 9 * 50 := Int.mul_le_mul_of_nonneg_left hf.2 hp.1
  unfold feeS
  rw [Int.tdiv_eq_ediv_of_nonneg h1]
  generalize S 10 j 9 * S 1 s 5 = x at *
  omega
/-! they hold on -/
theorem cpyS_at {u s n N : Nat} {S : xS} (hne : s ≠ u) : (∀ f, 3 ≤ f → f ≤ 13 → cpyS u s n N S 1 s f = S 1 u f) ∧ cpyS u s n N S 2 = cpyT u s N S 2 ∧ cpyS u s n N S 10 = cpyT u s N S 10 ∧ (∀ p, p < n → cpyS u s n N S 4 (8 * s + p) = S 4 (8 * u + p)) ∧ cpyS u s n N S 5 s 1 = S 5 u 1 ∧ cpyS u s n N S 5 s 2 = S 5 u 2 ∧ ∀ i, i < 64 → cpyS u s n N S 25 s i = S 25 u i := by
  have hsu : (u = s) = False := eq_false (Ne.symm hne)
  refine ⟨fun f h3 h13 => ?_, ?_, ?_, fun p hp => ?_, ?_, ?_, fun i hi => ?_⟩
  · unfold cpyS cpy0
    have hf : f = 3 ∨ f = 4 ∨ f = 5 ∨ f = 6 ∨ f = 7 ∨ f = 8 ∨ f = 9 ∨ f = 10 ∨ f = 11 ∨ f = 12 ∨ f = 13 := by omega
    rcases hf with rfl | rfl | rfl | rfl | rfl | rfl | rfl | rfl | rfl | rfl | rfl <;> simp (decide := true) only [cpyT_o, cpyV_o, cpyP_o, up_app, if_true, if_false, and_true, true_and, and_false, false_and]
  · funext j f
    unfold cpyS cpy0
    simp (decide := true) only [cpyV_o, cpyP_o, up_app, if_false, false_and]
  · funext j f
    unfold cpyS cpy0
    simp (decide := true) only [cpyV_o, cpyP_o, up_app, if_false, false_and]
  · funext f
    unfold cpyS
    simp (decide := true) only [up_app, if_false, false_and]
    unfold cpyP
    rw [if_pos ⟨rfl, by omega, by omega⟩, Nat.add_sub_cancel_left]
    unfold cpy0
    simp (decide := true) only [cpyT_o, cpyV_o, up_app, if_false, false_and]
  · unfold cpyS cpy0
    simp (decide := true) only [cpyV_o, cpyP_o, up_app, if_true, if_false, and_true, true_and, and_false, false_and]
  · unfold cpyS cpy0
    simp (decide := true) only [cpyV_o, cpyP_o, up_app, if_true, if_false, and_true, true_and, and_false, false_and]
  · unfold cpyS cpy0
    simp (decide := true) only [cpyP_o, up_app, if_false, false_and]
    unfold cpyV
    rw [if_pos ⟨rfl, rfl, hi⟩, cpyT_o (by decide) (by decide)]
theorem VS.cpy {u s n N : Nat} {T : Int} {S : xS} (hne : s ≠ u) (h : VS u n N T S) : VS s n N T (cpyS u s n N S) := by
  obtain ⟨hV, h2, h3, h4, h5, h6, h7⟩ := h
  obtain ⟨e1, e2, e10, e4, e51, e52, e25⟩ := cpyS_at (n := n) (N := N) (S := S) hne
  have hV2 := hV.cpy (u := s)
  have er : ∀ j, j < N → cpyT u s N S 10 (32 * s + j) = S 10 (32 * u + j) := fun j hj => by
    funext f
    unfold cpyT
    rw [if_neg (by omega), if_neg (by omega), if_pos ⟨rfl, by omega, by omega⟩, Nat.add_sub_cancel_left]
  have et : cpyT u s N S 2 s 2 = S 2 u 2 := by unfold cpyT; rw [if_neg (by omega), if_pos ⟨rfl, rfl, rfl⟩]
  refine ⟨?_, h2, h3, ?_, fun p hp => by rw [e4 p hp]; exact h5 p hp, fun j hj => ?_, ?_, ?_, fun i hi => ?_⟩
  · unfold VT at hV2 ⊢; rw [e2, e10]; exact hV2
  · unfold GQ at h4 ⊢
    rw [e1 3 (by decide) (by decide), e1 4 (by decide) (by decide), e1 5 (by decide) (by decide), e1 6 (by decide) (by decide), e1 7 (by decide) (by decide), e1 8 (by decide) (by decide), e1 9 (by decide) (by decide), e1 10 (by decide) (by decide), e1 11 (by decide) (by decide), e1 12 (by decide) (by decide), e1 13 (by decide) (by decide)]
    exact h4
  · rw [e2, e10, er j hj, et]; exact h6 j hj
  · rw [e51]; exact h7.1
  · rw [e52]; exact h7.2.1
  · rw [e25 i hi]; exact h7.2.2 i hi
theorem VS.ent {s n N : Nat} {T m b d : Int} {S : xS} (h : VS s n N T S) (hn : n < 8) (hT : 0 ≤ T) (hm : 0 ≤ m ∧ m ≤ 1000000) (hb : 0 ≤ b ∧ b ≤ 9999) (hd : 0 ≤ d ∧ d ≤ 99) : VS s (n + 1) N T (entS s n m b d S) := by
  obtain ⟨⟨a1, a2, a3, a4⟩, h2, h3, h4, h5, h6, h7⟩ := h
  have e : ∀ k, k ≠ 4 → k ≠ 1 → entS s n m b d S k = S k := fun k hk hk1 => by funext j f; unfold entS; rw [up_k hk1, rwS_oth (by omega)]
  refine ⟨⟨by rw [e 2 (by decide) (by decide)]; exact a1, a2, by rw [e 2 (by decide) (by decide)]; exact a3, by rw [e 2 (by decide) (by decide), e 10 (by decide) (by decide)]; exact a4⟩, h2, by omega, ?_, fun p hp => ?_, fun j hj => by rw [e 2 (by decide) (by decide), e 10 (by decide) (by decide)]; exact (h6 j hj).mono (Int.le_refl _) (by omega), by rw [e 5 (by decide) (by decide), e 25 (by decide) (by decide)]; exact h7⟩
  · unfold GQ at h4 ⊢
    unfold entS
    rw [up_same, up_f (by decide), up_f (by decide), up_f (by decide), up_f (by decide), up_f (by decide), up_f (by decide), up_f (by decide), up_f (by decide), up_f (by decide), up_f (by decide), rwS_oth (by omega)]
    omega
  · unfold entS
    rw [up_oth (by omega)]
    by_cases c : p = n
    · subst c
      rw [rwS_at]
      show (0 ≤ m ∧ m ≤ 1000000) ∧ (0 ≤ b ∧ b ≤ 9999) ∧ (0 ≤ d ∧ d ≤ 99) ∧ (0 ≤ (0 : Int) ∧ (0 : Int) ≤ 60) ∧ (0 ≤ (0 : Int) ∧ (0 : Int) ≤ 60) ∧ (0 ≤ (0 : Int) ∧ 0 ≤ T) ∧ (0 ≤ (0 : Int) ∧ 0 ≤ T) ∧ (0 ≤ (0 : Int) ∧ 0 ≤ T) ∧ (0 ≤ (0 : Int) ∧ 0 ≤ 99 * T) ∧ (0 ≤ (0 : Int) ∧ 0 ≤ 99 * T) ∧ (0 ≤ (0 : Int) ∧ 0 ≤ 99 * T)
      omega
    · rw [rwS_oth (by omega)]
      exact h5 p (by omega)
theorem VS.sel {s n N i q o : Nat} {T : Int} {S : xS} (h : VS s n N T S) (hi : i < N) (hq : q < n) (hp : 0 ≤ S 10 (32 * s + i) 9) (hm : S 10 (32 * s + i) 9 ≤ S 4 (8 * s + q) 0) (ho : S 10 (32 * s + i) 1 = (o : Int)) (hoq : o ≠ q) : VS s n N (T + 1000) (selS s (32 * s + i) q o S) := by
  obtain ⟨⟨a1, a2, a3, a4⟩, h2, h3, h4, h5, h6, h7⟩ := h
  have hO := h6 i hi
  have hon : o < n := by unfold OQ at hO; omega
  have hf := feeS_r (s := s) (j := 32 * s + i) (S := S) (by unfold OQ at hO; omega) (by unfold GQ at h4; omega)
  have hp5 : S 10 (32 * s + i) 9 ≤ 99999 := by unfold OQ at hO; omega
  have hq9 := h5 q hq
  have ho9 := h5 o hon
  have hx := xmin_or 1000000 (S 4 (8 * s + o) 0 + (S 10 (32 * s + i) 9 - feeS s (32 * s + i) S))
  have hx2 := xmin_le 1000000 (S 4 (8 * s + o) 0 + (S 10 (32 * s + i) 9 - feeS s (32 * s + i) S))
  have e2 : selS s (32 * s + i) q o S 2 = S 2 := by funext j f; unfold selS; simp (decide := true) only [up_app, if_false, false_and]
  have e10 : ∀ j f, f ≠ 1 → f ≠ 9 → selS s (32 * s + i) q o S 10 j f = S 10 j f := fun j f f1 f9 => by unfold selS; rw [up_f f9, up_f f1]; simp (decide := true) only [up_app, if_false, false_and]
  have e10' : ∀ j, j ≠ 32 * s + i → selS s (32 * s + i) q o S 10 j = S 10 j := fun j hj => by funext f; unfold selS; rw [up_oth (by omega), up_oth (by omega)]; simp (decide := true) only [up_app, if_false, false_and]
  refine ⟨⟨by rw [e2]; exact a1, a2, by rw [e2]; omega, fun j hj => ?_⟩, h2, h3, ?_, fun p hp => ?_, fun j hj => ?_, ?_, ?_, fun k hk => ?_⟩
  · have h9 := (a4 j hj).mono (Int.le_refl _) (show T ≤ T + 1000 by omega)
    unfold TQ at h9 ⊢
    rw [e2, e10 _ 0 (by decide) (by decide), e10 _ 2 (by decide) (by decide), e10 _ 3 (by decide) (by decide), e10 _ 4 (by decide) (by decide), e10 _ 5 (by decide) (by decide), e10 _ 6 (by decide) (by decide), e10 _ 7 (by decide) (by decide), e10 _ 15 (by decide) (by decide), e10 _ 16 (by decide) (by decide)]
    exact h9
  · unfold GQ at h4 ⊢
    unfold selS
    simp (decide := true) only [up_app, if_true, if_false, and_true, true_and, and_false, false_and]
    omega
  · have h9 := h5 p hp
    by_cases c : p = q
    · subst c
      have hne : (8 * s + p = 8 * s + o) = False := eq_false (by omega)
      unfold PQ at h9 ⊢
      unfold selS
      simp (decide := true) only [up_app, hne, if_true, if_false, and_true, true_and, and_false, false_and]
      omega
    · by_cases c2 : p = o
      · subst c2
        have hne : (8 * s + p = 8 * s + q) = False := eq_false (by omega)
        unfold PQ at h9 ⊢
        unfold selS
        simp (decide := true) only [up_app, hne, if_true, if_false, and_true, true_and, and_false, false_and]
        omega
      · unfold selS
        rw [up_oth (by omega), up_oth (by omega), up_oth (by omega), up_oth (by omega), up_oth (by omega), up_oth (by omega), up_oth (by omega), up_oth (by omega)]
        exact h9.mono (by omega)
  · have h9 := (h6 j hj).mono (show T ≤ T + 1000 by omega) (Nat.le_refl n)
    by_cases c : j = i
    · subst c
      have e1 : selS s (32 * s + j) q o S 10 (32 * s + j) 1 = (q : Int) := by unfold selS; rw [up_f (by decide), up_same]
      have e9 : selS s (32 * s + j) q o S 10 (32 * s + j) 9 = -1 := by unfold selS; rw [up_same]
      unfold OQ at h9 ⊢
      rw [e2, e1, e9, e10 _ 2 (by decide) (by decide), e10 _ 3 (by decide) (by decide), e10 _ 4 (by decide) (by decide), e10 _ 6 (by decide) (by decide), e10 _ 7 (by decide) (by decide), e10 _ 8 (by decide) (by decide), e10 _ 10 (by decide) (by decide), e10 _ 11 (by decide) (by decide), e10 _ 12 (by decide) (by decide), e10 _ 13 (by decide) (by decide), e10 _ 14 (by decide) (by decide)]
      omega
    · rw [e2, e10' _ (by omega)]
      exact h9
  · unfold selS
    simp (decide := true) only [up_app, if_true, if_false, and_true, true_and, and_false, false_and]
    have := h7.1; omega
  · unfold selS
    simp (decide := true) only [up_app, if_true, if_false, and_true, true_and, and_false, false_and]
    have := h7.2.1; omega
  · have h9 := h7.2.2 k hk
    have e : selS s (32 * s + i) q o S 25 s k = S 25 s k ∨ selS s (32 * s + i) q o S 25 s k = S 25 s k + 1 := by
      unfold selS
      simp (decide := true) only [up_app, if_false, true_and, false_and]
      by_cases c : k = 8 * o + q
      · rw [if_pos c, c]; exact Or.inr rfl
      · rw [if_neg c]; exact Or.inl rfl
    rcases e with e | e <;> rw [e] <;> omega
set_option maxHeartbeats 4000000 in
theorem f_X4_copyFrom {w : xW} {S : xS} {B : String → xS → Prop} {A : xS → Prop} {u s n N : Nat} {T : Int} (hne : s ≠ u) (hn : S 1 u 3 = (n : Int)) (h8 : n ≤ 8) (hV : VT u N T S) (hT : T ≤ 1000000) (hq : A (cpyS u s n N S)) : Kv w mX4_copyFrom yX4_copyFrom 0 0 [xp 1 s, xp 1 u] S A B := by
  refine K.of rfl rfl rfl rfl (Nat.le_of_ble_eq_true rfl) rfl ?_
  have hsu : (u = s) = False := eq_false (Ne.symm hne)
  have hsu2 : (s = u) = False := eq_false hne
  have lp : ∀ i : Nat, i ≤ n → ∀ a1 : Int, X w mX4_copyFrom (xTG w (fun v S' => v = none ∧ A S') B) 0 0 32 [xp 1 s, xp 1 u, xi (i : Int)] [] (cpyP u s i (cpy0 u s N S)) := by
    refine nloop (n) (fun i hi ih a1 => ?_)
    have eL : cpyP u s i (cpy0 u s N S) 1 s 3 = (n : Int) := by rw [cpyP_o (by decide)]; unfold cpy0; rw [up_same]; exact hn
    refine xs_iload_2 eX4_copyFrom_32 ?_
    refine xs_aload_0 eX4_copyFrom_33 ?_
    refine gr_X4_3 eX4_copyFrom_34 lRX4_46 (fun r34 => ?_)
    try simp (decide := true) only [eL, Int.toNat_natCast] at r34 ⊢
    refine xa_icmp_ge (tgt := 61) eX4_copyFrom_37 (by decide) (by omega) (by omega) (fun c37 => ?_) (fun c37 => ?_)
    · rw [show i = n by omega]
      refine xs_aload_0 eX4_copyFrom_61 ?_
      refine xs_aload_1 eX4_copyFrom_62 ?_
      refine gr_X4_4 eX4_copyFrom_63 lRX4_31 (fun r63 => ?_)
      try simp (decide := true) only [cpy0, cpyT_o, cpyV_o, cpyP_o, hsu, up_app, if_true, if_false, and_true, true_and, and_false, false_and] at r63 ⊢
      refine p_X4_4 eX4_copyFrom_66 lRX4_31 (by omega) ?_
      refine xs_aload_0 eX4_copyFrom_69 ?_
      refine xs_aload_1 eX4_copyFrom_70 ?_
      refine gr_X4_5 eX4_copyFrom_71 lRX4_35 (fun r71 => ?_)
      try simp (decide := true) only [cpy0, cpyT_o, cpyV_o, cpyP_o, hsu, up_app, if_true, if_false, and_true, true_and, and_false, false_and] at r71 ⊢
      refine p_X4_5 eX4_copyFrom_74 lRX4_35 (by omega) ?_
      refine xs_aload_0 eX4_copyFrom_77 ?_
      refine xs_aload_1 eX4_copyFrom_78 ?_
      refine gr_X4_6 eX4_copyFrom_79 lRX4_49 (fun r79 => ?_)
      try simp (decide := true) only [cpy0, cpyT_o, cpyV_o, cpyP_o, hsu, up_app, if_true, if_false, and_true, true_and, and_false, false_and] at r79 ⊢
      refine p_X4_6 eX4_copyFrom_82 lRX4_49 (by omega) ?_
      refine xs_aload_0 eX4_copyFrom_85 ?_
      refine xs_aload_1 eX4_copyFrom_86 ?_
      refine gr_X4_7 eX4_copyFrom_87 lRX4_38 (fun r87 => ?_)
      try simp (decide := true) only [cpy0, cpyT_o, cpyV_o, cpyP_o, hsu, up_app, if_true, if_false, and_true, true_and, and_false, false_and] at r87 ⊢
      refine p_X4_7 eX4_copyFrom_90 lRX4_38 (by omega) ?_
      refine xs_aload_0 eX4_copyFrom_93 ?_
      refine xs_aload_1 eX4_copyFrom_94 ?_
      refine gr_X4_8 eX4_copyFrom_95 lRX4_53 (fun r95 => ?_)
      try simp (decide := true) only [cpy0, cpyT_o, cpyV_o, cpyP_o, hsu, up_app, if_true, if_false, and_true, true_and, and_false, false_and] at r95 ⊢
      refine p_X4_8 eX4_copyFrom_98 lRX4_53 (by omega) ?_
      refine xs_aload_0 eX4_copyFrom_101 ?_
      refine xs_aload_1 eX4_copyFrom_102 ?_
      refine gr_X4_9 eX4_copyFrom_103 lRX4_56 (fun r103 => ?_)
      try simp (decide := true) only [cpy0, cpyT_o, cpyV_o, cpyP_o, hsu, up_app, if_true, if_false, and_true, true_and, and_false, false_and] at r103 ⊢
      refine p_X4_9 eX4_copyFrom_106 lRX4_56 (by omega) ?_
      refine xs_aload_0 eX4_copyFrom_109 ?_
      refine xs_aload_1 eX4_copyFrom_110 ?_
      refine gr_X4_10 eX4_copyFrom_111 lRX4_59 (fun r111 => ?_)
      try simp (decide := true) only [cpy0, cpyT_o, cpyV_o, cpyP_o, hsu, up_app, if_true, if_false, and_true, true_and, and_false, false_and] at r111 ⊢
      refine p_X4_10 eX4_copyFrom_114 lRX4_59 (by omega) ?_
      refine xs_aload_0 eX4_copyFrom_117 ?_
      refine xs_aload_1 eX4_copyFrom_118 ?_
      refine gr_X4_11 eX4_copyFrom_119 lRX4_62 (fun r119 => ?_)
      try simp (decide := true) only [cpy0, cpyT_o, cpyV_o, cpyP_o, hsu, up_app, if_true, if_false, and_true, true_and, and_false, false_and] at r119 ⊢
      refine p_X4_11 eX4_copyFrom_122 lRX4_62 (by omega) ?_
      refine xs_aload_0 eX4_copyFrom_125 ?_
      refine xs_aload_1 eX4_copyFrom_126 ?_
      refine gr_X4_12 eX4_copyFrom_127 lRX4_65 (fun r127 => ?_)
      try simp (decide := true) only [cpy0, cpyT_o, cpyV_o, cpyP_o, hsu, up_app, if_true, if_false, and_true, true_and, and_false, false_and] at r127 ⊢
      refine p_X4_12 eX4_copyFrom_130 lRX4_65 (by omega) ?_
      refine xs_aload_0 eX4_copyFrom_133 ?_
      refine xs_aload_1 eX4_copyFrom_134 ?_
      refine gr_X4_13 eX4_copyFrom_135 lRX4_68 (fun r135 => ?_)
      try simp (decide := true) only [cpy0, cpyT_o, cpyV_o, cpyP_o, hsu, up_app, if_true, if_false, and_true, true_and, and_false, false_and] at r135 ⊢
      refine p_X4_13 eX4_copyFrom_138 lRX4_68 (by omega) ?_
      exact xa_vret eX4_copyFrom_141 rfl ⟨rfl, hq⟩
    · refine xs_aload_0 eX4_copyFrom_40 ?_
      refine g_X4_1 eX4_copyFrom_41 lRX4_20 ?_
      refine xs_iload_2 eX4_copyFrom_44 ?_
      refine ga_22 eX4_copyFrom_45 (by omega) ?_
      try simp (decide := true) only [eL, Int.toNat_natCast]
      refine xs_aload_1 eX4_copyFrom_46 ?_
      refine g_X4_1 eX4_copyFrom_47 lRX4_20 ?_
      refine xs_iload_2 eX4_copyFrom_50 ?_
      refine ga_22 eX4_copyFrom_51 (by omega) ?_
      try simp (decide := true) only [eL, Int.toNat_natCast]
      refine xbv_V10 (mi' := mX0_copyFrom) (y := yX0_copyFrom) eX4_copyFrom_52 (xw_5 lRX4_78 wy_X0_copyFrom) rfl ⟨wd_X0_copyFrom, by decide, by decide⟩ (by decide) (fun _ => rfl) rfl (Nat.le_of_ble_eq_true rfl) rfl (f_X0_copyFrom ?_)
      refine xs_iinc_2 eX4_copyFrom_55 rfl ?_
      refine xa_goto (tgt := 32) eX4_copyFrom_58 (by decide) ?_
      have h9 := ih (i + 1) (by omega) (by omega) a1
      rw [cpyP_s hne (by omega)] at h9
      exact h9
  refine xs_aload_0 eX4_copyFrom_0 ?_
  refine g_X4_0 eX4_copyFrom_1 lRX4_12 ?_
  refine xs_aload_1 eX4_copyFrom_4 ?_
  refine g_X4_0 eX4_copyFrom_5 lRX4_12 ?_
  refine xbv_V10 (mi' := mX5_copyFrom) (y := yX5_copyFrom) eX4_copyFrom_8 (xw_5 lRX4_71 wy_X5_copyFrom) rfl ⟨wd_X5_copyFrom, by decide, by decide⟩ (by decide) (fun _ => rfl) rfl (Nat.le_of_ble_eq_true rfl) rfl (f_X5_copyFrom (Ne.symm hne) hV (by omega) ?_)
  refine xs_aload_0 eX4_copyFrom_11 ?_
  refine g_X4_2 eX4_copyFrom_12 lRX4_27 ?_
  refine xs_aload_1 eX4_copyFrom_15 ?_
  refine g_X4_2 eX4_copyFrom_16 lRX4_27 ?_
  refine xbv_V10 (mi' := mX2_copyFrom) (y := yX2_copyFrom) eX4_copyFrom_19 (xw_5 lRX4_75 wy_X2_copyFrom) rfl ⟨wd_X2_copyFrom, by decide, by decide⟩ (by decide) (fun _ => rfl) rfl (Nat.le_of_ble_eq_true rfl) rfl (k_X2_copyFrom hne ?_)
  refine xs_aload_0 eX4_copyFrom_22 ?_
  refine xs_aload_1 eX4_copyFrom_23 ?_
  refine gr_X4_3 eX4_copyFrom_24 lRX4_46 (fun r24 => ?_)
  try simp (decide := true) only [cpyT_o, cpyV_o, cpyP_o, hsu, hsu2, up_app, if_true, if_false, and_true, true_and, and_false, false_and, Int.toNat_natCast] at r24 ⊢
  refine p_X4_3 eX4_copyFrom_27 lRX4_46 (by omega) ?_
  refine xa_iconst eX4_copyFrom_30 ?_
  refine xs_istore_2 eX4_copyFrom_31 rfl ?_
  have h9 := lp 0 (by omega) 0
  rw [cpyP_0] at h9
  unfold cpy0 at h9
  exact h9
set_option maxHeartbeats 4000000 in
theorem f_X4_enter {w : xW} {S : xS} {B : String → xS → Prop} {A : xS → Prop} {s n : Nat} {m b d : Int} (hn : S 1 s 3 = (n : Int)) (h8 : n < 8) (hm : 0 ≤ m ∧ m ≤ 1000000) (hb : 0 ≤ b ∧ b ≤ 9999) (hd : 0 ≤ d ∧ d ≤ 99) (hq : A (entS s n m b d S)) : Kv w mX4_enter yX4_enter 0 0 [xp 1 s, xi m, xi b, xi d] S A B := by
  refine K.of rfl rfl rfl rfl (Nat.le_of_ble_eq_true rfl) rfl ?_
  refine xs_aload_0 eX4_enter_0 ?_
  refine gr_X4_3 eX4_enter_1 lRX4_46 (fun r1 => ?_)
  try simp (decide := true) only [rwS_oth (show ¬ (1 = 4 ∧ s = 8 * s + n) by omega), hn, Int.toNat_natCast] at r1 ⊢
  refine xa_bipush eX4_enter_4 (by decide) ?_
  refine xa_icmp_ge (tgt := 34) eX4_enter_6 (by decide) (by omega) (by omega) (fun c6 => ?_) (fun c6 => ?_)
  · exact absurd c6 (by omega)
  · refine xs_aload_0 eX4_enter_9 ?_
    refine g_X4_1 eX4_enter_10 lRX4_20 ?_
    refine xs_aload_0 eX4_enter_13 ?_
    refine gr_X4_3 eX4_enter_14 lRX4_46 (fun r14 => ?_)
    try simp (decide := true) only [rwS_oth (show ¬ (1 = 4 ∧ s = 8 * s + n) by omega), hn, Int.toNat_natCast] at r14 ⊢
    refine ga_22 eX4_enter_17 (by omega) ?_
    try simp (decide := true) only [rwS_oth (show ¬ (1 = 4 ∧ s = 8 * s + n) by omega), hn, Int.toNat_natCast]
    refine xs_iload_1 eX4_enter_18 ?_
    refine xs_iload_2 eX4_enter_19 ?_
    refine xs_iload_3 eX4_enter_20 ?_
    refine xbv_V30 (mi' := mX0_begin) (y := yX0_begin) eX4_enter_21 (xw_5 lRX4_88 wy_X0_begin) rfl ⟨wd_X0_begin, by decide, by decide⟩ (by decide) (fun _ => rfl) rfl (Nat.le_of_ble_eq_true rfl) rfl (f_X0_begin (by omega) (by omega) (by omega) ?_)
    refine xs_aload_0 eX4_enter_24 ?_
    refine xa_dup eX4_enter_25 rfl ?_
    refine gr_X4_3 eX4_enter_26 lRX4_46 (fun r26 => ?_)
    try simp (decide := true) only [rwS_oth (show ¬ (1 = 4 ∧ s = 8 * s + n) by omega), hn, Int.toNat_natCast] at r26 ⊢
    refine xa_iconst eX4_enter_29 ?_
    refine xa_iadd eX4_enter_30 ?_
    refine p_X4_3 eX4_enter_31 lRX4_46 (by omega) ?_
    exact xa_vret eX4_enter_34 rfl ⟨rfl, hq⟩
set_option maxHeartbeats 4000000 in
theorem f_X4_figure {w : xW} {S : xS} {B : String → xS → Prop} {A : Int → xS → Prop} {s N : Nat} {a : Int} (ha : 0 ≤ a ∧ a < 13) (hN : S 2 s 1 = (N : Int)) (h21 : N ≤ 21) (hq : A (figS s N S a.toNat) S) : Ki w mX4_figure yX4_figure 0 0 [xp 1 s, xi a] S A B := by
  refine K.of rfl rfl rfl rfl (Nat.le_of_ble_eq_true rfl) rfl ?_
  refine xs_iload_1 eX4_figure_0 ?_
  rcases (show a = 0 ∨ a = 1 ∨ a = 2 ∨ a = 3 ∨ a = 4 ∨ a = 5 ∨ a = 6 ∨ a = 7 ∨ a = 8 ∨ a = 9 ∨ a = 10 ∨ a = 11 ∨ a = 12 by omega) with rfl | rfl | rfl | rfl | rfl | rfl | rfl | rfl | rfl | rfl | rfl | rfl | rfl
  · refine xa_tabIn (off := 63) (tgt := 64) eX4_figure_1 (by decide) (by decide) (by decide) rfl (by decide) ?_
    refine xs_aload_0 eX4_figure_64 ?_
    refine g_X4_0 eX4_figure_65 lRX4_12 ?_
    refine gr_X5_2 eX4_figure_68 lRX4_92 (fun r68 => ?_)
    exact xa_iret eX4_figure_71 rfl ⟨_, rfl, hq⟩
  · refine xa_tabIn (off := 71) (tgt := 72) eX4_figure_1 (by decide) (by decide) (by decide) rfl (by decide) ?_
    refine xs_aload_0 eX4_figure_72 ?_
    refine gr_X4_3 eX4_figure_73 lRX4_46 (fun r73 => ?_)
    exact xa_iret eX4_figure_76 rfl ⟨_, rfl, hq⟩
  · refine xa_tabIn (off := 76) (tgt := 77) eX4_figure_1 (by decide) (by decide) (by decide) rfl (by decide) ?_
    refine xs_aload_0 eX4_figure_77 ?_
    refine g_X4_0 eX4_figure_78 lRX4_12 ?_
    refine gr_X5_1 eX4_figure_81 lRX4_95 (fun r81 => ?_)
    exact xa_iret eX4_figure_84 rfl ⟨_, rfl, hq⟩
  · refine xa_tabIn (off := 84) (tgt := 85) eX4_figure_1 (by decide) (by decide) (by decide) rfl (by decide) ?_
    refine xs_aload_0 eX4_figure_85 ?_
    refine g_X4_0 eX4_figure_86 lRX4_12 ?_
    refine xbi_V00 (mi' := mX5_countNotEnded) (y := yX5_countNotEnded) eX4_figure_89 (xw_5 lRX4_98 wy_X5_countNotEnded) rfl ⟨wd_X5_countNotEnded, by decide, by decide⟩ (by decide) (fun _ => rfl) rfl (Nat.le_of_ble_eq_true rfl) rfl (k_X5_countNotEnded hN h21 ?_)
    exact xa_iret eX4_figure_92 rfl ⟨_, rfl, hq⟩
  · refine xa_tabIn (off := 92) (tgt := 93) eX4_figure_1 (by decide) (by decide) (by decide) rfl (by decide) ?_
    refine xs_aload_0 eX4_figure_93 ?_
    refine gr_X4_4 eX4_figure_94 lRX4_31 (fun r94 => ?_)
    exact xa_iret eX4_figure_97 rfl ⟨_, rfl, hq⟩
  · refine xa_tabIn (off := 97) (tgt := 98) eX4_figure_1 (by decide) (by decide) (by decide) rfl (by decide) ?_
    refine xs_aload_0 eX4_figure_98 ?_
    refine gr_X4_5 eX4_figure_99 lRX4_35 (fun r99 => ?_)
    exact xa_iret eX4_figure_102 rfl ⟨_, rfl, hq⟩
  · refine xa_tabIn (off := 102) (tgt := 103) eX4_figure_1 (by decide) (by decide) (by decide) rfl (by decide) ?_
    refine xs_aload_0 eX4_figure_103 ?_
    refine g_X4_2 eX4_figure_104 lRX4_27 ?_
    refine gr_X2_1 eX4_figure_107 lRX4_102 (fun r107 => ?_)
    exact xa_iret eX4_figure_110 rfl ⟨_, rfl, hq⟩
  · refine xa_tabIn (off := 110) (tgt := 111) eX4_figure_1 (by decide) (by decide) (by decide) rfl (by decide) ?_
    refine xs_aload_0 eX4_figure_111 ?_
    refine gr_X4_8 eX4_figure_112 lRX4_53 (fun r112 => ?_)
    exact xa_iret eX4_figure_115 rfl ⟨_, rfl, hq⟩
  · refine xa_tabIn (off := 115) (tgt := 116) eX4_figure_1 (by decide) (by decide) (by decide) rfl (by decide) ?_
    refine xs_aload_0 eX4_figure_116 ?_
    refine gr_X4_9 eX4_figure_117 lRX4_56 (fun r117 => ?_)
    exact xa_iret eX4_figure_120 rfl ⟨_, rfl, hq⟩
  · refine xa_tabIn (off := 120) (tgt := 121) eX4_figure_1 (by decide) (by decide) (by decide) rfl (by decide) ?_
    refine xs_aload_0 eX4_figure_121 ?_
    refine gr_X4_10 eX4_figure_122 lRX4_59 (fun r122 => ?_)
    exact xa_iret eX4_figure_125 rfl ⟨_, rfl, hq⟩
  · refine xa_tabIn (off := 125) (tgt := 126) eX4_figure_1 (by decide) (by decide) (by decide) rfl (by decide) ?_
    refine xs_aload_0 eX4_figure_126 ?_
    refine gr_X4_11 eX4_figure_127 lRX4_62 (fun r127 => ?_)
    exact xa_iret eX4_figure_130 rfl ⟨_, rfl, hq⟩
  · refine xa_tabIn (off := 130) (tgt := 131) eX4_figure_1 (by decide) (by decide) (by decide) rfl (by decide) ?_
    refine xs_aload_0 eX4_figure_131 ?_
    refine gr_X4_12 eX4_figure_132 lRX4_65 (fun r132 => ?_)
    exact xa_iret eX4_figure_135 rfl ⟨_, rfl, hq⟩
  · refine xa_tabOut (tgt := 136) eX4_figure_1 (by decide) (by decide) (by decide) ?_
    refine xs_aload_0 eX4_figure_136 ?_
    refine gr_X4_13 eX4_figure_137 lRX4_68 (fun r137 => ?_)
    exact xa_iret eX4_figure_140 rfl ⟨_, rfl, hq⟩
set_option maxHeartbeats 4000000 in
theorem f_X4_sell {w : xW} {S : xS} {B : String → xS → Prop} {A : xS → Prop} {s n N i q o : Nat} {T : Int} (hV : VS s n N T S) (hT : T ≤ 1000000) (hi : i < N) (hqn : q < n) (hp : 0 ≤ S 10 (32 * s + i) 9) (hm : S 10 (32 * s + i) 9 ≤ S 4 (8 * s + q) 0) (ho : S 10 (32 * s + i) 1 = (o : Int)) (hoq : o ≠ q) (hq : A (selS s (32 * s + i) q o S)) : Kv w mX4_sell yX4_sell 0 0 [xp 1 s, xp 10 (32 * s + i), xi (q : Int)] S A B := by
  refine K.of rfl rfl rfl rfl (Nat.le_of_ble_eq_true rfl) rfl ?_
  obtain ⟨⟨a1, a2, a3, a4⟩, h2, h3, h4, h5, h6, h7⟩ := id hV
  have hO := h6 i hi
  have hon : o < n := by unfold OQ at hO; omega
  have hf := feeS_r (s := s) (j := 32 * s + i) (S := S) (by unfold OQ at hO; omega) (by unfold GQ at h4; omega)
  have hn := h4.1
  have hq9 := h5 q hqn
  have ho9 := h5 o hon
  have hv9 := h7.2.2 (8 * o + q) (by omega)
  have h71 := h7.1
  have h72 := h7.2.1
  unfold PQ at hq9 ho9
  unfold OQ at hO
  unfold GQ at h4
  have hx := xmin_or 1000000 (S 4 (8 * s + o) 0 + (S 10 (32 * s + i) 9 - feeS s (32 * s + i) S))
  have hne1 : (o = q) = False := eq_false hoq
  have hne2 : (q = o) = False := eq_false (Ne.symm hoq)
  refine xs_aload_1 eX4_sell_0 ?_
  refine gr_X1_9 eX4_sell_1 lRX4_105 (fun r1 => ?_)
  try simp (decide := true) only [hne1, hne2, ho, up_app, if_true, if_false, and_true, true_and, and_false, false_and, Int.toNat_natCast, Nat.add_left_cancel_iff] at r1 ⊢
  refine xs_istore_3 eX4_sell_4 rfl ?_
  refine xs_iload_3 eX4_sell_5 ?_
  refine xs_aload_0 eX4_sell_6 ?_
  refine gr_X4_5 eX4_sell_7 lRX4_35 (fun r7 => ?_)
  try simp (decide := true) only [hne1, hne2, ho, up_app, if_true, if_false, and_true, true_and, and_false, false_and, Int.toNat_natCast, Nat.add_left_cancel_iff] at r7 ⊢
  refine xa_imul eX4_sell_10 ?_
  refine xa_bipush eX4_sell_11 (by decide) ?_
  refine xa_idiv eX4_sell_13 (by omega) (by decide) (by decide) ?_
  rw [show Int.tdiv (S 10 (32 * s + i) 9 * S 1 s 5) 100 = feeS s (32 * s + i) S from rfl]
  refine xs_istore_4 eX4_sell_14 rfl ?_
  refine xs_aload_0 eX4_sell_16 ?_
  refine xs_iload_2 eX4_sell_17 ?_
  refine xbo_V10 (mi' := mX4_knownProcess) (y := yX4_knownProcess) eX4_sell_18 (xw_5 lRX4_113 wy_X4_knownProcess) rfl ⟨wd_X4_knownProcess, by decide, by decide⟩ (by decide) (fun _ => rfl) rfl (Nat.le_of_ble_eq_true rfl) rfl (kI_X4_knownProcess (n := n) (by (try simp (decide := true) only [hne1, hne2, ho, up_app, if_true, if_false, and_true, true_and, and_false, false_and, Int.toNat_natCast, Nat.add_left_cancel_iff]); exact hn) h3 (by omega) ?_)
  refine xa_dup eX4_sell_21 rfl ?_
  refine gr_X0_0 eX4_sell_22 lRX4_117 (fun r22 => ?_)
  try simp (decide := true) only [hne1, hne2, ho, up_app, if_true, if_false, and_true, true_and, and_false, false_and, Int.toNat_natCast, Nat.add_left_cancel_iff] at r22 ⊢
  refine xs_iload_3 eX4_sell_25 ?_
  refine xa_isub eX4_sell_26 ?_
  refine p_X0_0 eX4_sell_27 lRX4_117 (by omega) ?_
  refine xs_aload_0 eX4_sell_30 ?_
  refine xs_aload_1 eX4_sell_31 ?_
  refine gr_X1_1 eX4_sell_32 lRX4_110 (fun r32 => ?_)
  try simp (decide := true) only [hne1, hne2, ho, up_app, if_true, if_false, and_true, true_and, and_false, false_and, Int.toNat_natCast, Nat.add_left_cancel_iff] at r32 ⊢
  refine xbo_V10 (mi' := mX4_knownProcess) (y := yX4_knownProcess) eX4_sell_35 (xw_5 lRX4_113 wy_X4_knownProcess) rfl ⟨wd_X4_knownProcess, by decide, by decide⟩ (by decide) (fun _ => rfl) rfl (Nat.le_of_ble_eq_true rfl) rfl (kI_X4_knownProcess (n := n) (by (try simp (decide := true) only [hne1, hne2, ho, up_app, if_true, if_false, and_true, true_and, and_false, false_and, Int.toNat_natCast, Nat.add_left_cancel_iff]); exact hn) h3 (by omega) ?_)
  refine xs_iload_3 eX4_sell_38 ?_
  refine xs_iload_4 eX4_sell_39 ?_
  refine xa_isub eX4_sell_41 ?_
  refine xbv_V10 (mi' := mX0_earn) (y := yX0_earn) eX4_sell_42 (xw_5 lRX4_120 wy_X0_earn) rfl ⟨wd_X0_earn, by decide, by decide⟩ (by decide) (fun _ => rfl) rfl (Nat.le_of_ble_eq_true rfl) rfl (k_X0_earn (by simp (decide := true) only [hne1, hne2, ho, up_app, if_true, if_false, and_true, true_and, and_false, false_and, Int.toNat_natCast, Nat.add_left_cancel_iff]; omega) ?_)
  refine xs_aload_0 eX4_sell_45 ?_
  refine xa_dup eX4_sell_46 rfl ?_
  refine gr_X4_6 eX4_sell_47 lRX4_49 (fun r47 => ?_)
  try simp (decide := true) only [hne1, hne2, ho, up_app, if_true, if_false, and_true, true_and, and_false, false_and, Int.toNat_natCast, Nat.add_left_cancel_iff] at r47 ⊢
  refine xs_iload_4 eX4_sell_50 ?_
  refine xa_i2l eX4_sell_52 (by omega) ?_
  refine xa_ladd eX4_sell_53 ?_
  refine p_X4_6 eX4_sell_54 lRX4_49 (by omega) ?_
  refine xs_aload_0 eX4_sell_57 ?_
  refine g_X4_2 eX4_sell_58 lRX4_27 ?_
  refine xs_aload_1 eX4_sell_61 ?_
  refine gr_X1_1 eX4_sell_62 lRX4_110 (fun r62 => ?_)
  try simp (decide := true) only [hne1, hne2, ho, up_app, if_true, if_false, and_true, true_and, and_false, false_and, Int.toNat_natCast, Nat.add_left_cancel_iff] at r62 ⊢
  refine xs_iload_2 eX4_sell_65 ?_
  refine xs_iload_3 eX4_sell_66 ?_
  refine xbv_V30 (mi' := mX2_add) (y := yX2_add) eX4_sell_67 (xw_5 lRX4_124 wy_X2_add) rfl ⟨wd_X2_add, by decide, by decide⟩ (by decide) (fun _ => rfl) rfl (Nat.le_of_ble_eq_true rfl) rfl (k_X2_add (by omega) (by omega) (by simp (decide := true) only [hne1, hne2, ho, up_app, if_true, if_false, and_true, true_and, and_false, false_and, Int.toNat_natCast, Nat.add_left_cancel_iff]; omega) (by simp (decide := true) only [hne1, hne2, ho, up_app, if_true, if_false, and_true, true_and, and_false, false_and, Int.toNat_natCast, Nat.add_left_cancel_iff]; omega) (by simp (decide := true) only [hne1, hne2, ho, up_app, if_true, if_false, and_true, true_and, and_false, false_and, Int.toNat_natCast, Nat.add_left_cancel_iff]; omega) ?_)
  refine xs_aload_1 eX4_sell_70 ?_
  refine xs_iload_2 eX4_sell_71 ?_
  refine p_X1_1 eX4_sell_72 lRX4_110 (by omega) ?_
  refine xs_aload_1 eX4_sell_75 ?_
  refine xa_iconst eX4_sell_76 ?_
  refine p_X1_9 eX4_sell_77 lRX4_105 (by omega) ?_
  exact xa_vret eX4_sell_80 rfl ⟨rfl, by unfold selS at hq; exact hq⟩
set_option maxHeartbeats 4000000 in
theorem f_X4_cheapestFor {w : xW} {S : xS} {B : String → xS → Prop} {A : Int → xS → Prop} {s n N q : Nat} (hn : S 1 s 3 = (n : Int)) (h8 : n ≤ 8) (hN : S 2 s 1 = (N : Int)) (h21 : N ≤ 21) (hqn : q < n) (hq0 : chpS s q S N = none → A (-1) S) (hq1 : ∀ b : Nat, chpS s q S N = some b → A (b : Int) S) : Ki w mX4_cheapestFor yX4_cheapestFor 0 0 [xp 1 s, xi (q : Int)] S A B := by
  refine K.of rfl rfl rfl rfl (Nat.le_of_ble_eq_true rfl) rfl ?_
  have lp : ∀ i : Nat, i ≤ N → ∀ a5 : xV, X w mX4_cheapestFor (xTG w (fun v S' => ∃ a, v = some (xi a) ∧ A a S') B) 0 0 7 [xp 1 s, xi (q : Int), (match chpS s q S i with | none => xv .null | some b => xp 10 (32 * s + b)), (match chpS s q S i with | none => xi (-1) | some b => xi (b : Int)), xi (i : Int), a5] [] S := by
    refine nloop (N) (fun i hi ih a5 => ?_)
    cases hI : chpS s q S i with
    | none =>
      refine xs_iload_4 eX4_cheapestFor_7 ?_
      refine xs_aload_0 eX4_cheapestFor_9 ?_
      refine g_X4_0 eX4_cheapestFor_10 lRX4_12 ?_
      refine gr_X5_1 eX4_cheapestFor_13 lRX4_95 (fun r13 => ?_)
      try simp (decide := true) only [Int.toNat_natCast] at r13 ⊢
      refine xa_icmp_ge (tgt := 65) eX4_cheapestFor_16 (by decide) (by omega) (by omega) (fun c16 => ?_) (fun c16 => ?_)
      · refine xs_iload_3 eX4_cheapestFor_65 ?_
        exact xa_iret eX4_cheapestFor_66 rfl ⟨_, rfl, hq0 (by rw [show N = i by omega]; exact hI)⟩
      · refine xs_aload_0 eX4_cheapestFor_19 ?_
        refine g_X4_0 eX4_cheapestFor_20 lRX4_12 ?_
        refine xs_iload_4 eX4_cheapestFor_23 ?_
        refine xbo_V10 (mi' := mX5_knownPromise) (y := yX5_knownPromise) eX4_cheapestFor_25 (xw_5 lRX4_127 wy_X5_knownPromise) rfl ⟨wd_X5_knownPromise, by decide, by decide⟩ (by decide) (fun _ => rfl) rfl (Nat.le_of_ble_eq_true rfl) rfl (kk_X5_knownPromise (by omega) (by omega) ?_)
        simp (decide := true) only [Int.toNat_natCast]
        refine xs_astore_5 eX4_cheapestFor_28 rfl ?_
        refine xs_aload_0 eX4_cheapestFor_30 ?_
        refine xs_aload_5 eX4_cheapestFor_31 ?_
        refine xs_iload_1 eX4_cheapestFor_33 ?_
        refine xbi_V20 (mi' := mX4_canBuy) (y := yX4_canBuy) eX4_cheapestFor_34 (xw_5 lRX4_131 wy_X4_canBuy) rfl ⟨wd_X4_canBuy, by decide, by decide⟩ (by decide) (fun _ => rfl) rfl (Nat.le_of_ble_eq_true rfl) rfl (k_X4_canBuy hn h8 hqn ?_)
        refine xa_ifb_eq (tgt := 59) eX4_cheapestFor_37 (by decide) (fun c37 => ?_) (fun c37 => ?_)
        · refine xs_iinc_4 eX4_cheapestFor_59 rfl ?_
          refine xa_goto (tgt := 7) eX4_cheapestFor_62 (by decide) ?_
          have e : chpS s q S (i + 1) = none := by rw [chpS, if_neg c37]; exact hI
          have h9 := ih (i + 1) (by omega) (by omega) (xp 10 (32 * s + i))
          rw [e] at h9
          exact h9
        · refine xs_aloadn_2 eX4_cheapestFor_40 ?_
          refine xa_ifnullN (tgt := 53) eX4_cheapestFor_41 (by decide) ?_
          refine xs_aload_5 eX4_cheapestFor_53 ?_
          refine xs_astore_2 eX4_cheapestFor_55 rfl ?_
          refine xs_iload_4 eX4_cheapestFor_56 ?_
          refine xs_istore_3 eX4_cheapestFor_58 rfl ?_
          refine xs_iinc_4 eX4_cheapestFor_59 rfl ?_
          refine xa_goto (tgt := 7) eX4_cheapestFor_62 (by decide) ?_
          have e : chpS s q S (i + 1) = some i := by rw [chpS, if_pos c37, hI]
          have h9 := ih (i + 1) (by omega) (by omega) (xp 10 (32 * s + i))
          rw [e] at h9
          exact h9
    | some b =>
      refine xs_iload_4 eX4_cheapestFor_7 ?_
      refine xs_aload_0 eX4_cheapestFor_9 ?_
      refine g_X4_0 eX4_cheapestFor_10 lRX4_12 ?_
      refine gr_X5_1 eX4_cheapestFor_13 lRX4_95 (fun r13 => ?_)
      try simp (decide := true) only [Int.toNat_natCast] at r13 ⊢
      refine xa_icmp_ge (tgt := 65) eX4_cheapestFor_16 (by decide) (by omega) (by omega) (fun c16 => ?_) (fun c16 => ?_)
      · refine xs_iload_3 eX4_cheapestFor_65 ?_
        exact xa_iret eX4_cheapestFor_66 rfl ⟨_, rfl, hq1 b (by rw [show N = i by omega]; exact hI)⟩
      · refine xs_aload_0 eX4_cheapestFor_19 ?_
        refine g_X4_0 eX4_cheapestFor_20 lRX4_12 ?_
        refine xs_iload_4 eX4_cheapestFor_23 ?_
        refine xbo_V10 (mi' := mX5_knownPromise) (y := yX5_knownPromise) eX4_cheapestFor_25 (xw_5 lRX4_127 wy_X5_knownPromise) rfl ⟨wd_X5_knownPromise, by decide, by decide⟩ (by decide) (fun _ => rfl) rfl (Nat.le_of_ble_eq_true rfl) rfl (kk_X5_knownPromise (by omega) (by omega) ?_)
        simp (decide := true) only [Int.toNat_natCast]
        refine xs_astore_5 eX4_cheapestFor_28 rfl ?_
        refine xs_aload_0 eX4_cheapestFor_30 ?_
        refine xs_aload_5 eX4_cheapestFor_31 ?_
        refine xs_iload_1 eX4_cheapestFor_33 ?_
        refine xbi_V20 (mi' := mX4_canBuy) (y := yX4_canBuy) eX4_cheapestFor_34 (xw_5 lRX4_131 wy_X4_canBuy) rfl ⟨wd_X4_canBuy, by decide, by decide⟩ (by decide) (fun _ => rfl) rfl (Nat.le_of_ble_eq_true rfl) rfl (k_X4_canBuy hn h8 hqn ?_)
        refine xa_ifb_eq (tgt := 59) eX4_cheapestFor_37 (by decide) (fun c37 => ?_) (fun c37 => ?_)
        · refine xs_iinc_4 eX4_cheapestFor_59 rfl ?_
          refine xa_goto (tgt := 7) eX4_cheapestFor_62 (by decide) ?_
          have e : chpS s q S (i + 1) = some b := by rw [chpS, if_neg c37]; exact hI
          have h9 := ih (i + 1) (by omega) (by omega) (xp 10 (32 * s + i))
          rw [e] at h9
          exact h9
        · refine xs_aload_2 eX4_cheapestFor_40 ?_
          refine xa_ifnullP eX4_cheapestFor_41 ?_
          refine xs_aload_5 eX4_cheapestFor_44 ?_
          refine xs_aload_2 eX4_cheapestFor_46 ?_
          refine xbi_S20 (mi' := mX4_isCheaper) (y := yX4_isCheaper) eX4_cheapestFor_47 (xw_4 lRX4_135 wy_X4_isCheaper) rfl rfl ⟨wd_X4_isCheaper, by decide, by decide⟩ (Nat.le_of_ble_eq_true rfl) rfl (k_X4_isCheaper ?_)
          refine xa_ifb_eq (tgt := 59) eX4_cheapestFor_50 (by decide) (fun c50 => ?_) (fun c50 => ?_)
          · refine xs_iinc_4 eX4_cheapestFor_59 rfl ?_
            refine xa_goto (tgt := 7) eX4_cheapestFor_62 (by decide) ?_
            have e : chpS s q S (i + 1) = some b := by rw [chpS, if_pos c37, hI]; show (if _ then _ else _) = _; rw [if_neg c50]
            have h9 := ih (i + 1) (by omega) (by omega) (xp 10 (32 * s + i))
            rw [e] at h9
            exact h9
          · refine xs_aload_5 eX4_cheapestFor_53 ?_
            refine xs_astore_2 eX4_cheapestFor_55 rfl ?_
            refine xs_iload_4 eX4_cheapestFor_56 ?_
            refine xs_istore_3 eX4_cheapestFor_58 rfl ?_
            refine xs_iinc_4 eX4_cheapestFor_59 rfl ?_
            refine xa_goto (tgt := 7) eX4_cheapestFor_62 (by decide) ?_
            have e : chpS s q S (i + 1) = some i := by rw [chpS, if_pos c37, hI]; show (if _ then _ else _) = _; rw [if_pos c50]
            have h9 := ih (i + 1) (by omega) (by omega) (xp 10 (32 * s + i))
            rw [e] at h9
            exact h9
  refine xa_null eX4_cheapestFor_0 ?_
  refine xs_astoren_2 eX4_cheapestFor_1 rfl ?_
  refine xa_iconst eX4_cheapestFor_2 ?_
  refine xs_istore_3 eX4_cheapestFor_3 rfl ?_
  refine xa_iconst eX4_cheapestFor_4 ?_
  refine xs_istore_4 eX4_cheapestFor_5 rfl ?_
  exact lp 0 (by omega) xj

