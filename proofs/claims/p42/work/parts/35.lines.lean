/-! the reference's lines: the timeline without the promises that have ended -/
def lvc (u : Nat) (C : xS) : Nat → Nat
  | 0 => 0
  | i + 1 => lvc u C i + if C 10 (32 * u + i) 0 = 0 then 1 else 0
theorem lvc_s (u : Nat) (C : xS) (j : Nat) : lvc u C (j + 1) = lvc u C j + if C 10 (32 * u + j) 0 = 0 then 1 else 0 := rfl
theorem lvc_mono (u : Nat) (C : xS) {i j : Nat} (h : i ≤ j) : lvc u C i ≤ lvc u C j := by
  induction j with
  | zero => rw [show i = 0 by omega]; exact Nat.le_refl _
  | succ j ih =>
    by_cases e : i = j + 1
    · rw [e]; exact Nat.le_refl _
    · have h9 := ih (by omega)
      rw [lvc_s]
      generalize (if C 10 (32 * u + j) 0 = 0 then 1 else 0) = z
      omega
theorem lvc_lt {u : Nat} {C : xS} {i j : Nat} (h : i < j) (h0 : C 10 (32 * u + i) 0 = 0) : lvc u C i < lvc u C j := by
  have h1 := lvc_mono u C (show i + 1 ≤ j by omega)
  have h2 : lvc u C (i + 1) = lvc u C i + 1 := by rw [lvc, if_pos h0]
  omega
theorem lvc_congr {u v : Nat} {C D : xS} : ∀ {i : Nat}, (∀ j, j < i → (C 10 (32 * u + j) 0 = 0 ↔ D 10 (32 * v + j) 0 = 0)) → lvc u C i = lvc v D i
  | 0, _ => rfl
  | i + 1, h => by
    have h1 := lvc_congr (i := i) (fun j hj => h j (by omega))
    have h2 := h i (by omega)
    unfold lvc
    rw [h1]
    by_cases c : C 10 (32 * u + i) 0 = 0
    · rw [if_pos c, if_pos (h2.mp c)]
    · rw [if_neg c, if_neg (fun z => c (h2.mpr z))]
/-- every line has its row -/
theorem lvc_of {u : Nat} {C : xS} : ∀ {K l : Nat}, l < lvc u C K → ∃ i, i < K ∧ C 10 (32 * u + i) 0 = 0 ∧ lvc u C i = l
  | 0, l, h => absurd h (by unfold lvc; omega)
  | K + 1, l, h => by
    by_cases c : l < lvc u C K
    · obtain ⟨i, h1, h2, h3⟩ := lvc_of c
      exact ⟨i, by omega, h2, h3⟩
    · by_cases c0 : C 10 (32 * u + K) 0 = 0
      · rw [lvc, if_pos c0] at h
        exact ⟨K, by omega, c0, by omega⟩
      · rw [lvc, if_neg c0] at h
        omega
/-- one line, one row -/
def LN (F : Nat → Int) (S : xS) (l : Nat) : Prop := S 35 0 l = F 2 ∧ S 36 0 l = F 3 ∧ S 37 0 l = F 4 ∧ S 38 0 l = F 5 ∧ S 39 0 l = F 6 ∧ (0 < F 6 → S 40 0 l = F 7)
def RLn (u K : Nat) (C S : xS) : Prop := S 30 0 11 = (lvc u C K : Int) ∧ (∀ i, i < K → C 10 (32 * u + i) 0 = 0 → LN (C 10 (32 * u + i)) S (lvc u C i)) ∧ ∀ i, i < K → 0 < C 10 (32 * u + i) 6 → C 10 (32 * u + i) 0 = 0
theorem LN.congr {F : Nat → Int} {S S' : xS} {l : Nat} (h : LN F S l) (e : ∀ k, 35 ≤ k → k ≤ 40 → S' k 0 l = S k 0 l) : LN F S' l := by
  unfold LN at h ⊢
  rw [e 35 (by decide) (by decide), e 36 (by decide) (by decide), e 37 (by decide) (by decide), e 38 (by decide) (by decide), e 39 (by decide) (by decide), e 40 (by decide) (by decide)]
  exact h
/-- the same rows elsewhere -/
theorem RLn.congr {u v K : Nat} {C D S : xS} (h : RLn u K C S) (e : ∀ i, i < K → D 10 (32 * v + i) = C 10 (32 * u + i)) : RLn v K D S := by
  obtain ⟨h1, h2, h3⟩ := h
  have el : ∀ i, i ≤ K → lvc v D i = lvc u C i := fun i hi => lvc_congr (fun j hj => by rw [e j (by omega)])
  refine ⟨by rw [el K (Nat.le_refl _)]; exact h1, fun i hi h0 => ?_, fun i hi h6 => ?_⟩
  · rw [el i (by omega), e i hi]
    exact h2 i hi (by rw [← e i hi]; exact h0)
  · rw [e i hi] at h6 ⊢; exact h3 i hi h6
theorem RLn.zero {u : Nat} {C S : xS} : RLn u 0 C (up S 30 0 11 0) := ⟨by rw [up_same]; rfl, fun i hi => absurd hi (by omega), fun i hi => absurd hi (by omega)⟩
theorem RLn.skip {u i : Nat} {C S : xS} (h : RLn u i C S) (h0 : C 10 (32 * u + i) 0 ≠ 0) (h6 : ¬ 0 < C 10 (32 * u + i) 6) : RLn u (i + 1) C S := by
  obtain ⟨h1, h2, h3⟩ := h
  refine ⟨by rw [lvc, if_neg h0]; exact h1, fun j hj hj0 => ?_, fun j hj hj6 => ?_⟩
  · by_cases e : j = i
    · subst e; exact absurd hj0 h0
    · exact h2 j (by omega) hj0
  · by_cases e : j = i
    · subst e; exact absurd hj6 h6
    · exact h3 j (by omega) hj6
/-! the steps -/
def relL (L : Nat) (t : Int) (S : xS) : xS := fun k j f => if j = 0 ∧ f < L ∧ S 38 0 f = t ∧ 38 ≤ k ∧ k ≤ 40 then (if k = 38 then t + S 35 0 f else if k = 39 then S 36 0 f else t + S 37 0 f) else S k j f
def bstL (S : xS) : Nat → Option Nat
  | 0 => none
  | l + 1 => if 0 < S 39 0 l then (match bstL S l with | none => some l | some b => if S 40 0 l < S 40 0 b then some l else some b) else bstL S l
def okL (L : Nat) (t : Int) (S : xS) : Prop := ∀ l, l < L → S 39 0 l = 0 ∨ t + 1 < S 40 0 l
theorem RLn.rel {u K : Nat} {T : Int} {C S : xS} (h : RLn u K C S) (hV : VT u K T C) : RLn u K (relT u K C) (relL (lvc u C K) (C 2 u 2) S) := by
  obtain ⟨h1, h2, h3⟩ := h
  have e0 : ∀ j, relT u K C 10 (32 * u + j) 0 = C 10 (32 * u + j) 0 := fun j => by
    unfold relT
    split
    · rfl
    · rfl
  have el : ∀ i, lvc u (relT u K C) i = lvc u C i := fun i => lvc_congr (fun j _ => by rw [e0])
  refine ⟨by rw [el]; unfold relL; rw [if_neg (by omega)]; exact h1, fun i hi hi0 => ?_, fun i hi hi6 => ?_⟩
  · rw [e0] at hi0
    rw [el]
    have hl := h2 i hi hi0
    have hlt := lvc_lt (u := u) (C := C) hi hi0
    by_cases c : C 10 (32 * u + i) 5 = C 2 u 2
    · have er : relT u K C 10 (32 * u + i) = xrel (C 10 (32 * u + i)) := by funext f; unfold relT; rw [if_pos ⟨rfl, by omega, by omega, hi0, c⟩]
      rw [er]
      have ex : ∀ k, 38 ≤ k → k ≤ 40 → relL (lvc u C K) (C 2 u 2) S k 0 (lvc u C i) = (if k = 38 then C 2 u 2 + S 35 0 (lvc u C i) else if k = 39 then S 36 0 (lvc u C i) else C 2 u 2 + S 37 0 (lvc u C i)) := fun k k1 k2 => by
        unfold relL
        rw [if_pos ⟨rfl, hlt, hl.2.2.2.1.trans c, k1, k2⟩]
      have eo : ∀ k, k < 38 → relL (lvc u C K) (C 2 u 2) S k 0 (lvc u C i) = S k 0 (lvc u C i) := fun k k1 => by unfold relL; rw [if_neg (by omega)]
      unfold LN at hl ⊢
      rw [eo 35 (by decide), eo 36 (by decide), eo 37 (by decide), ex 38 (by decide) (by decide), ex 39 (by decide) (by decide), ex 40 (by decide) (by decide)]
      simp (decide := true) only [if_true, if_false]
      refine ⟨hl.1, hl.2.1, hl.2.2.1, ?_, hl.2.1, fun _ => ?_⟩
      · show _ = C 10 (32 * u + i) 5 + C 10 (32 * u + i) 2; omega
      · show _ = C 10 (32 * u + i) 5 + C 10 (32 * u + i) 4; omega
    · have er : relT u K C 10 (32 * u + i) = C 10 (32 * u + i) := by funext f; unfold relT; rw [if_neg (fun z => c z.2.2.2.2)]
      rw [er]
      refine hl.congr (fun k k1 k2 => ?_)
      unfold relL
      rw [if_neg (fun z => c (hl.2.2.2.1.symm.trans z.2.2.1))]
  · rw [e0]
    by_cases c : 10 = 10 ∧ 32 * u ≤ 32 * u + i ∧ 32 * u + i < 32 * u + K ∧ C 10 (32 * u + i) 0 = 0 ∧ C 10 (32 * u + i) 5 = C 2 u 2
    · exact c.2.2.2.1
    · unfold relT at hi6
      rw [if_neg c] at hi6
      exact h3 i hi hi6
theorem RLn.bst {u K : Nat} {C S : xS} (h : RLn u K C S) : ∀ i, i ≤ K → bstL S (lvc u C i) = (bstT u C i).map (lvc u C)
  | 0, _ => rfl
  | i + 1, hi => by
    have ih := h.bst i (by omega)
    by_cases c0 : C 10 (32 * u + i) 0 = 0
    · have hl := h.2.1 i (by omega) c0
      rw [show lvc u C (i + 1) = lvc u C i + 1 by rw [lvc, if_pos c0], bstL, bstT, hl.2.2.2.2.1]
      by_cases c : 0 < C 10 (32 * u + i) 6
      · rw [if_pos c, if_pos c, ih]
        cases hb : bstT u C i with
        | none => rfl
        | some b =>
          have hlt := bstT_lt hb
          have hb0 := h.2.2 b (by omega) hlt.2
          have hlb := h.2.1 b (by omega) hb0
          show (if S 40 0 (lvc u C i) < S 40 0 (lvc u C b) then some (lvc u C i) else some (lvc u C b)) = Option.map (lvc u C) (if C 10 (32 * u + i) 7 < C 10 (32 * u + b) 7 then some i else some b)
          rw [hl.2.2.2.2.2 c, hlb.2.2.2.2.2 hlt.2]
          by_cases c2 : C 10 (32 * u + i) 7 < C 10 (32 * u + b) 7
          · rw [if_pos c2, if_pos c2]; rfl
          · rw [if_neg c2, if_neg c2]; rfl
      · rw [if_neg c, if_neg c]; exact ih
    · rw [show lvc u C (i + 1) = lvc u C i by rw [lvc, if_neg c0]; rfl, bstT, if_neg (fun z => c0 (h.2.2 i (by omega) z))]
      exact ih
theorem lvc_inj {u : Nat} {C : xS} {i j : Nat} (hi : C 10 (32 * u + i) 0 = 0) (hj : C 10 (32 * u + j) 0 = 0) (h : lvc u C i = lvc u C j) : i = j := by
  rcases Nat.lt_trichotomy i j with q | q | q
  · have := lvc_lt q hi; omega
  · exact q
  · have := lvc_lt q hj; omega
theorem RLn.dec {u K b : Nat} {C S : xS} (h : RLn u K C S) (hb : bstT u C K = some b) : RLn u K (decT u (some b) C) (up S 39 0 (lvc u C b) (S 39 0 (lvc u C b) - 1)) := by
  obtain ⟨h1, h2, h3⟩ := h
  have hlt := bstT_lt hb
  have hb0 := h3 b hlt.1 hlt.2
  unfold decT
  dsimp only
  have e0 : ∀ j v, up C 10 (32 * u + b) 6 v 10 (32 * u + j) 0 = C 10 (32 * u + j) 0 := fun j v => up_f (by decide)
  have el : ∀ i v, lvc u (up C 10 (32 * u + b) 6 v) i = lvc u C i := fun i v => lvc_congr (fun j _ => by rw [e0])
  refine ⟨by rw [el, up_k (by decide)]; exact h1, fun i hi hi0 => ?_, fun i hi hi6 => ?_⟩
  · rw [e0] at hi0
    rw [el]
    have hl := h2 i hi hi0
    by_cases e : i = b
    · subst e
      rw [up_row]
      unfold LN at hl ⊢
      simp (decide := true) only [up_app, if_true, if_false, and_true, true_and, and_false, false_and]
      exact ⟨hl.1, hl.2.1, hl.2.2.1, hl.2.2.2.1, by omega, fun _ => hl.2.2.2.2.2 hlt.2⟩
    · rw [up_oth (by omega)]
      have hne : lvc u C i ≠ lvc u C b := fun z => e (lvc_inj hi0 hb0 z)
      exact hl.congr (fun k k1 k2 => up_f hne)
  · rw [e0]
    by_cases e : i = b
    · subst e; exact hb0
    · rw [up_oth (by omega)] at hi6; exact h3 i hi hi6
theorem RLn.cho {u K : Nat} {C S : xS} (h : RLn u K C S) : RLn u K (choT u K C) (match bstL S (lvc u C K) with | none => S | some l => up S 39 0 l (S 39 0 l - 1)) := by
  rw [h.bst K (Nat.le_refl _)]
  unfold choT
  cases hb : bstT u C K with
  | none => exact h
  | some b => exact h.dec hb
theorem sm_zero {g : Nat → Int} : ∀ {n : Nat}, (∀ j, j < n → 0 ≤ g j) → (sm g n = 0 ↔ ∀ j, j < n → g j = 0)
  | 0, _ => ⟨fun _ j hj => absurd hj (by omega), fun _ => rfl⟩
  | n + 1, h => by
    have ih := sm_zero (g := g) (n := n) (fun j hj => h j (by omega))
    have hn := h n (by omega)
    have hs : 0 ≤ sm g n := by
      clear ih
      induction n with
      | zero => exact Int.le_refl _
      | succ n ih2 => rw [sm_s]; have := ih2 (fun j hj => h j (by omega)) (h n (by omega)); have := h n (by omega); omega
    rw [sm_s]
    constructor
    · intro e j hj
      by_cases c : j = n
      · subst c; omega
      · exact ih.mp (by omega) j (by omega)
    · intro e
      rw [ih.mpr (fun j hj => e j (by omega)), e n (by omega)]; rfl
theorem misT_0 {t N : Nat} {C : xS} : misT t N C = 0 ↔ ∀ i, i < N → ¬ (0 < C 10 (32 * t + i) 6 ∧ C 10 (32 * t + i) 7 ≤ C 2 t 2 + 1) := by
  unfold misT
  rw [sm_zero (fun j _ => by rcases b2i_01 (0 < C 10 (32 * t + j) 6 ∧ C 10 (32 * t + j) 7 ≤ C 2 t 2 + 1) with e | e <;> rw [e] <;> decide)]
  exact ⟨fun h i hi => b2i_eq0.mp (h i hi), fun h i hi => b2i_eq0.mpr (h i hi)⟩
theorem RLn.mis {u K : Nat} {T : Int} {C S : xS} (h : RLn u K C S) (hV : VT u K T C) : misT u K C = 0 ↔ okL (lvc u C K) (C 2 u 2) S := by
  rw [misT_0]
  constructor
  · intro hm l hl
    obtain ⟨i, hi, h0, rfl⟩ := lvc_of hl
    have hln := h.2.1 i hi h0
    have hmi := hm i hi
    have hT := hV.2.2.2 i hi
    unfold TQ at hT
    unfold LN at hln
    omega
  · intro ho i hi hc
    have h0 := h.2.2 i hi hc.1
    have hln := h.2.1 i hi h0
    have := ho _ (lvc_lt hi h0)
    unfold LN at hln
    omega
theorem RLn.gro {u K : Nat} {C S : xS} (h : RLn u K C S) (hm : misT u K C = 0) : RLn u K (groT u K C) S := by
  refine h.congr (fun i hi => ?_)
  funext f
  have hmi := misT_0.mp hm i hi
  unfold groT
  rw [if_neg (by omega), if_pos ⟨rfl, by omega, by omega⟩]
  unfold xmis
  rw [if_neg hmi]

