/-! what holds on over single changes -/
theorem up_rwS (S : xS) (k j f : Nat) (v : Int) : up S k j f v = rwS k j (fun g => if g = f then v else S k j g) S := by
  funext k' j' f'
  rw [up_app]
  unfold rwS
  by_cases c : k' = k ∧ j' = j
  · rw [if_pos c]
    by_cases c2 : f' = f
    · show _ = if f' = f then v else S k j f'
      rw [if_pos ⟨c.1, c.2, c2⟩, if_pos c2]
    · show _ = if f' = f then v else S k j f'
      rw [if_neg (by omega), if_neg c2, c.1, c.2]
  · rw [if_neg (by omega), if_neg c]
theorem VS.qrows {s n N j : Nat} {T : Int} {S : xS} {F : Nat → Int} (h : VS s n N T S) (hj : j < N) (hT : TQ (S 2 s 2) T F) (hO : OQ n (S 2 s 2) T F) : VS s n N T (rwS 10 (32 * s + j) F S) := by
  obtain ⟨⟨a1, a2, a3, a4⟩, h2, h3, h4, h5, h6, h7⟩ := h
  have e : ∀ k, k ≠ 10 → rwS 10 (32 * s + j) F S k = S k := fun k hk => by funext y f; unfold rwS; rw [if_neg (by omega)]
  refine ⟨⟨by rw [e 2 (by decide)]; exact a1, a2, by rw [e 2 (by decide)]; exact a3, fun i hi => ?_⟩, h2, h3, by rw [e 1 (by decide)]; exact h4, by rw [e 4 (by decide)]; exact h5, fun i hi => ?_, by rw [e 5 (by decide), e 25 (by decide)]; exact h7⟩
  · rw [e 2 (by decide)]
    by_cases c : i = j
    · subst c; rw [rwS_at]; exact hT
    · rw [rwS_oth (by omega)]; exact a4 i hi
  · rw [e 2 (by decide)]
    by_cases c : i = j
    · subst c; rw [rwS_at]; exact hO
    · rw [rwS_oth (by omega)]; exact h6 i hi
theorem VS.q9 {s n N j : Nat} {T v : Int} {S : xS} (h : VS s n N T S) (hj : j < N) (hv : -1 ≤ v ∧ v ≤ 99999) : VS s n N T (up S 10 (32 * s + j) 9 v) := by
  rw [up_rwS]
  have h1 := h.1.2.2.2 j hj
  have h2 := h.2.2.2.2.2.1 j hj
  refine h.qrows hj ?_ ?_
  · unfold TQ at h1 ⊢
    simp (decide := true) only [if_false]
    exact h1
  · unfold OQ at h2 ⊢
    simp (decide := true) only [if_true, if_false]
    omega
theorem VS.g4 {s n N : Nat} {T v : Int} {S : xS} (h : VS s n N T S) (hv : 0 ≤ v ∧ v ≤ 99) : VS s n N T (up S 1 s 4 v) := by
  refine h.chg (Int.le_refl _) (up_oth (by omega)) (up_oth (by omega)) (up_oth (by omega)) ?_ (fun p hp => by rw [up_oth (by omega)]; exact h.p hp) (fun j f _ _ _ _ => up_k (by decide)) (fun j hj => ?_)
  · have h9 := h.g
    rw [up_row]
    unfold GQ at h9 ⊢
    simp (decide := true) only [if_true, if_false]
    omega
  · have h9 := h.o hj
    unfold OQ at h9
    rw [up_k (by decide), up_k (by decide), up_k (by decide)]
    omega
theorem VS.g5 {s n N : Nat} {T v : Int} {S : xS} (h : VS s n N T S) (hv : 0 ≤ v ∧ v ≤ 50) : VS s n N T (up S 1 s 5 v) := by
  refine h.chg (Int.le_refl _) (up_oth (by omega)) (up_oth (by omega)) (up_oth (by omega)) ?_ (fun p hp => by rw [up_oth (by omega)]; exact h.p hp) (fun j f _ _ _ _ => up_k (by decide)) (fun j hj => ?_)
  · have h9 := h.g
    rw [up_row]
    unfold GQ at h9 ⊢
    simp (decide := true) only [if_true, if_false]
    omega
  · have h9 := h.o hj
    unfold OQ at h9
    rw [up_k (by decide), up_k (by decide), up_k (by decide)]
    omega
/-- a lease keeps a good state good -/
theorem VS.lea {n N j q o : Nat} {T k c : Int} {S : xS} (h : VS 0 n N T S) (hj : j < N) (hq : q < n) (ho : o < n) (hoq : o ≠ q) (hk : 1 ≤ k ∧ k ≤ 50) (hc : 0 ≤ c ∧ c ≤ S 4 (8 * 0 + q) 0) : VS 0 n N T (leaS j q o k c S) := by
  have hPq := h.p hq
  have hPo := h.p ho
  have hx := xmin_or 1000000 (S 4 (8 * 0 + o) 0 + c)
  have hx2 := xmin_le 1000000 (S 4 (8 * 0 + o) 0 + c)
  unfold PQ at hPq hPo
  have h1 : VS 0 n N T (up S 4 (8 * 0 + q) 0 (S 4 (8 * 0 + q) 0 - c)) := h.pus hq (by
    unfold PQ
    simp (decide := true) only [if_true, if_false]
    omega)
  have eo : up S 4 (8 * 0 + q) 0 (S 4 (8 * 0 + q) 0 - c) 4 (8 * 0 + o) = S 4 (8 * 0 + o) := up_oth (by omega)
  have h2 : VS 0 n N T (up (up S 4 (8 * 0 + q) 0 (S 4 (8 * 0 + q) 0 - c)) 4 (8 * 0 + o) 0 (xmin 1000000 (S 4 (8 * 0 + o) 0 + c))) := h1.pus ho (by
    rw [eo]
    unfold PQ
    simp (decide := true) only [if_true, if_false]
    omega)
  have g1 := h2.1.2.2.2 j hj
  have g2 := h2.2.2.2.2.2.1 j hj
  unfold leaS
  rw [up_rwS]
  have er : up (up (up S 4 (8 * 0 + q) 0 (S 4 (8 * 0 + q) 0 - c)) 4 (8 * 0 + o) 0 (xmin 1000000 (S 4 (8 * 0 + o) 0 + c))) 10 (32 * 0 + j) 10 (q : Int) = rwS 10 (32 * 0 + j) (fun g => if g = 10 then (q : Int) else up (up S 4 (8 * 0 + q) 0 (S 4 (8 * 0 + q) 0 - c)) 4 (8 * 0 + o) 0 (xmin 1000000 (S 4 (8 * 0 + o) 0 + c)) 10 (32 * 0 + j) g) (up (up S 4 (8 * 0 + q) 0 (S 4 (8 * 0 + q) 0 - c)) 4 (8 * 0 + o) 0 (xmin 1000000 (S 4 (8 * 0 + o) 0 + c))) := up_rwS _ _ _ _ _
  rw [er, rwS_at]
  have e2 : ∀ F G : Nat → Int, rwS 10 (32 * 0 + j) F (rwS 10 (32 * 0 + j) G (up (up S 4 (8 * 0 + q) 0 (S 4 (8 * 0 + q) 0 - c)) 4 (8 * 0 + o) 0 (xmin 1000000 (S 4 (8 * 0 + o) 0 + c)))) = rwS 10 (32 * 0 + j) F (up (up S 4 (8 * 0 + q) 0 (S 4 (8 * 0 + q) 0 - c)) 4 (8 * 0 + o) 0 (xmin 1000000 (S 4 (8 * 0 + o) 0 + c))) := fun F G => by
    funext x y f
    unfold rwS
    by_cases z : x = 10 ∧ y = 32 * 0 + j
    · rw [if_pos z, if_pos z]
    · rw [if_neg z, if_neg z, if_neg z]
  rw [e2]
  refine h2.qrow hj ?_ ?_
  · unfold TQ at g1 ⊢
    simp (decide := true) only [if_false]
    exact g1
  · unfold OQ at g2 ⊢
    simp (decide := true) only [if_true, if_false]
    omega

