/-! words and steps in both readers; leases -/
theorem p_X8_accept {w : xW} {S C : xS} {B : String → xS → Prop} {A : Int → xS → Prop} {n i : Nat} (hi : i < 6) (hP : PT n C) (h : TR n C S) (e : S 30 0 20 = 0) (q1 : isW i C → ∀ S', TR n (nx n C) S' → FM S' S → S' 30 0 20 = 0 → A 1 S') (q0 : ¬ isW i C → A 0 S) : Ki w mX8_accept yX8_accept 0 0 [xp 30 0, xp 51 i] S A B := by
  have h0 := id h
  have hP1 := id hP
  obtain ⟨b1, b2, b3, b4, b5, b6⟩ := hP1
  obtain ⟨t, a1, a2, a3, a4, a5⟩ := h
  have hw := h0.word hP hi
  exact k_X8_accept (n := n) (p := (C 3 0 8).toNat) hi (by rw [a1]; omega) t.1 t.2.2.1 t.bytes (by omega) (fun _ z => q1 (hw.mp z) _ (TR_nx (C := C) ⟨by omega, b4⟩ t) FM.nx (by rw [nxR_20]; exact e)) (fun z => q0 (fun y => z ⟨e, hw.mpr y⟩))
theorem e_X8_accept {w : xW} {S : xS} {B : String → xS → Prop} {A : Int → xS → Prop} {n p i : Nat} (hi : i < 6) (h15 : S 30 0 15 = (p : Int)) (hn : S 30 0 14 = (n : Int)) (h7 : n ≤ 700) (hB : ∀ j, j < n → 0 ≤ S 41 0 j ∧ S 41 0 j ≤ 255) (hp : p ≤ n) (e : ¬ S 30 0 20 = 0) (hq : A 0 S) : Ki w mX8_accept yX8_accept 0 0 [xp 30 0, xp 51 i] S A B :=
  k_X8_accept hi h15 hn h7 hB hp (fun z => absurd z e) (fun _ => hq)
theorem p_X8_advance {w : xW} {S C : xS} {B : String → xS → Prop} {A : xS → Prop} {n : Nat} (hP : PT n C) (h : TR n C S) (e : S 30 0 20 = 0) (q : ∀ S', TR n (nx n C) S' → FM S' S → S' 30 0 20 = 0 → A S') : Kv w mX8_advance yX8_advance 0 0 [xp 30 0] S A B := by
  obtain ⟨b1, b2, b3, b4, b5, b6⟩ := hP
  obtain ⟨t, a1, a2, a3, a4, a5⟩ := h
  exact f_X8_advance (n := n) (p := (C 3 0 8).toNat) (by rw [a1]; omega) t.1 t.2.2.1 t.bytes (by omega) (by rw [if_pos e]; exact q _ (TR_nx (C := C) ⟨by omega, b4⟩ t) FM.nx (by rw [nxR_20]; exact e))
theorem e_X8_advance {w : xW} {S : xS} {B : String → xS → Prop} {A : xS → Prop} {n p : Nat} (h15 : S 30 0 15 = (p : Int)) (hn : S 30 0 14 = (n : Int)) (h7 : n ≤ 700) (hB : ∀ i, i < n → 0 ≤ S 41 0 i ∧ S 41 0 i ≤ 255) (hp : p ≤ n) (e : ¬ S 30 0 20 = 0) (hq : A S) : Kv w mX8_advance yX8_advance 0 0 [xp 30 0] S A B :=
  f_X8_advance h15 hn h7 hB hp (by rw [if_neg e]; exact hq)
/-- a lease keeps a good state good -/
theorem VS.lea {n N j q o : Nat} {T k c : Int} {S : xS} (h : VS 0 n N T S) (hj : j < N) (hq : q < n) (ho : o < n) (hoq : o ≠ q) (hk : 1 ≤ k ∧ k ≤ 50) (hc : 0 ≤ c ∧ c ≤ S 4 (8 * 0 + q) 0) : VS 0 n N T (leaS j q o k c S) := by
  have hPq := h.p hq
  have hPo := h.p ho
  have hx := xmin_or 1000000 (S 4 (8 * 0 + o) 0 + c)
  have hx2 := xmin_le 1000000 (S 4 (8 * 0 + o) 0 + c)
  unfold PQ at hPq hPo
  have h1 : VS 0 n N T (up S 4 (8 * 0 + q) 0 (S 4 (8 * 0 + q) 0 - c)) := h.pus hq (by
    unfold PQ
    simp (decide := true) only [if_true, if_false]
    omega)
  have eo : up S 4 (8 * 0 + q) 0 (S 4 (8 * 0 + q) 0 - c) 4 (8 * 0 + o) = S 4 (8 * 0 + o) := up_oth (by omega)
  have h2 : VS 0 n N T (up (up S 4 (8 * 0 + q) 0 (S 4 (8 * 0 + q) 0 - c)) 4 (8 * 0 + o) 0 (xmin 1000000 (S 4 (8 * 0 + o) 0 + c))) := h1.pus ho (by
    rw [eo]
    unfold PQ
    simp (decide := true) only [if_true, if_false]
    omega)
  have g1 := h2.1.2.2.2 j hj
  have g2 := h2.2.2.2.2.2.1 j hj
  unfold leaS
  rw [up_rwS]
  have er : up (up (up S 4 (8 * 0 + q) 0 (S 4 (8 * 0 + q) 0 - c)) 4 (8 * 0 + o) 0 (xmin 1000000 (S 4 (8 * 0 + o) 0 + c))) 10 (32 * 0 + j) 10 (q : Int) = rwS 10 (32 * 0 + j) (fun g => if g = 10 then (q : Int) else up (up S 4 (8 * 0 + q) 0 (S 4 (8 * 0 + q) 0 - c)) 4 (8 * 0 + o) 0 (xmin 1000000 (S 4 (8 * 0 + o) 0 + c)) 10 (32 * 0 + j) g) (up (up S 4 (8 * 0 + q) 0 (S 4 (8 * 0 + q) 0 - c)) 4 (8 * 0 + o) 0 (xmin 1000000 (S 4 (8 * 0 + o) 0 + c))) := up_rwS _ _ _ _ _
  rw [er, rwS_at]
  have e2 : ∀ F G : Nat → Int, rwS 10 (32 * 0 + j) F (rwS 10 (32 * 0 + j) G (up (up S 4 (8 * 0 + q) 0 (S 4 (8 * 0 + q) 0 - c)) 4 (8 * 0 + o) 0 (xmin 1000000 (S 4 (8 * 0 + o) 0 + c)))) = rwS 10 (32 * 0 + j) F (up (up S 4 (8 * 0 + q) 0 (S 4 (8 * 0 + q) 0 - c)) 4 (8 * 0 + o) 0 (xmin 1000000 (S 4 (8 * 0 + o) 0 + c))) := fun F G => by
    funext x y f
    unfold rwS
    by_cases z : x = 10 ∧ y = 32 * 0 + j
    · rw [if_pos z, if_pos z]
    · rw [if_neg z, if_neg z, if_neg z]
  rw [e2]
  refine h2.qrow hj ?_ ?_
  · unfold TQ at g1 ⊢
    simp (decide := true) only [if_false]
    exact g1
  · unfold OQ at g2 ⊢
    simp (decide := true) only [if_true, if_false]
    omega
