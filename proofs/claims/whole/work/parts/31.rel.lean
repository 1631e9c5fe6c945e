/-! what the reference's array has to do with a state of the class -/
def gl (s : Nat) (C : xS) (i : Nat) : Int := match i with
  | 0 => C 2 s 2
  | 1 => C 1 s 3
  | 2 => C 2 s 1
  | 3 => C 1 s 4
  | 4 => C 1 s 5
  | 5 => C 1 s 7
  | 6 => C 1 s 8
  | 7 => C 1 s 9
  | 8 => C 1 s 10
  | 9 => C 1 s 11
  | 10 => C 1 s 12
  | 11 => C 1 s 13
  | 12 => C 5 s 1
  | 13 => C 5 s 2
  | _ => C 1 s 6
theorem gl_congr {s i : Nat} {C D : xS} (h1 : C 1 s = D 1 s) (h2 : C 2 s = D 2 s) (h5 : C 5 s = D 5 s) : gl s C i = gl s D i := by
  unfold gl
  rw [h1, h2, h5]
/-- a promise's row in the class (F) and in the reference (G), at the time t -/
def PR (t : Int) (F G : Nat → Int) : Prop := (∀ f, f ≤ 16 → f ≠ 6 → f ≠ 7 → f ≠ 8 → G f = F f) ∧ (0 ≤ G 7 ∧ G 7 ≤ 2000000) ∧ ((t < F 7 ∧ G 17 = 1 ∧ G 6 = F 6 ∧ G 7 = F 7 ∧ G 8 = F 8) ∨ (F 7 ≤ t ∧ F 6 = 0 ∧ (G 17 = 0 ∨ G 17 = 1 ∧ G 7 ≤ t)))
theorem PR.g {t : Int} {F G G' : Nat → Int} (h : PR t F G) (e : ∀ f, f < 18 → G' f = G f) : PR t F G' := by
  unfold PR at h ⊢
  rw [e 7 (by decide), e 17 (by decide), e 6 (by decide), e 8 (by decide)]
  exact ⟨fun f h16 q6 q7 q8 => by rw [e f (by omega)]; exact h.1 f h16 q6 q7 q8, h.2⟩
def Rel (s n N : Nat) (C : xS) (M : Nat → Int) : Prop := (∀ i, i < 15 → M i = gl s C i) ∧ (∀ p f, p < 8 → f < 11 → M (15 + 11 * p + f) = if p < n then C 4 (8 * s + p) f else 0) ∧ (∀ j, j < N → PR (C 2 s 2) (C 10 (32 * s + j)) (fun f => M (103 + 18 * j + f))) ∧ ∀ i, i < 64 → M (463 + i) = C 25 s i
/-- the state s alone matters -/
theorem Rel.cls {s n N : Nat} {C D : xS} {M : Nat → Int} (h : Rel s n N C M) (hn : n ≤ 8) (hN : N ≤ 20) (e : ∀ x y, (x = 1 ∧ y = s) ∨ (x = 2 ∧ y = s) ∨ (x = 4 ∧ 8 * s ≤ y ∧ y < 8 * s + 8) ∨ (x = 5 ∧ y = s) ∨ (x = 10 ∧ 32 * s ≤ y ∧ y < 32 * s + 32) ∨ (x = 25 ∧ y = s) → D x y = C x y) : Rel s n N D M := by
  obtain ⟨h1, h2, h3, h4⟩ := h
  refine ⟨fun i hi => (h1 i hi).trans (gl_congr (e 1 s (by omega)).symm (e 2 s (by omega)).symm (e 5 s (by omega)).symm), fun p f hp hf => ?_, fun j hj => ?_, fun i hi => ?_⟩
  · rw [h2 p f hp hf, e 4 (8 * s + p) (by omega)]
  · rw [e 2 s (by omega), e 10 (32 * s + j) (by omega)]; exact h3 j hj
  · rw [h4 i hi, e 25 s (by omega)]
theorem Rel.arr {s n N : Nat} {C : xS} {M M' : Nat → Int} (h : Rel s n N C M) (hN : N ≤ 20) (e : ∀ i, i < 527 → M' i = M i) : Rel s n N C M' := by
  obtain ⟨h1, h2, h3, h4⟩ := h
  refine ⟨fun i hi => by rw [e i (by omega)]; exact h1 i hi, fun p f hp hf => by rw [e _ (by omega)]; exact h2 p f hp hf, fun j hj => ?_, fun i hi => by rw [e _ (by omega)]; exact h4 i hi⟩
  have h9 := h3 j hj
  unfold PR at h9 ⊢
  refine ⟨fun f h16 q6 q7 q8 => by show M' _ = _; rw [e _ (by omega)]; exact h9.1 f h16 q6 q7 q8, ?_, ?_⟩
  · show 0 ≤ M' _ ∧ M' _ ≤ _; rw [e _ (by omega)]; exact h9.2.1
  · show (_ ∧ M' _ = _ ∧ M' _ = _ ∧ M' _ = _ ∧ M' _ = _) ∨ (_ ∧ _ ∧ (M' _ = _ ∨ M' _ = _ ∧ M' _ ≤ _))
    rw [e (103 + 18 * j + 17) (by omega), e (103 + 18 * j + 6) (by omega), e (103 + 18 * j + 7) (by omega), e (103 + 18 * j + 8) (by omega)]
    exact h9.2.2
theorem Rel.p {s n N p f : Nat} {C : xS} {M : Nat → Int} (h : Rel s n N C M) (hp : p < n) (hn : n ≤ 8) (hf : f < 11) : M (15 + 11 * p + f) = C 4 (8 * s + p) f := by
  rw [h.2.1 p f (by omega) hf, if_pos hp]
theorem Rel.q {s n N j f : Nat} {C : xS} {M : Nat → Int} (h : Rel s n N C M) (hj : j < N) (hf : f ≤ 16) (h6 : f ≠ 6) (h7 : f ≠ 7) (h8 : f ≠ 8) : M (103 + 18 * j + f) = C 10 (32 * s + j) f := (h.2.2.1 j hj).1 f hf h6 h7 h8
/-- a process' number -/
theorem Rel.pu {s n N p f : Nat} {C : xS} {M : Nat → Int} {v : Int} (h : Rel s n N C M) (hp : p < n) (hn : n ≤ 8) (hf : f < 11) (hN : N ≤ 20) : Rel s n N (up C 4 (8 * s + p) f v) (upM M (15 + 11 * p + f) v) := by
  obtain ⟨h1, h2, h3, h4⟩ := h
  refine ⟨fun i hi => ?_, fun q g hq hg => ?_, fun j hj => ?_, fun i hi => ?_⟩
  · rw [upM_o (by omega), h1 i hi]
    exact gl_congr (up_oth (by omega)).symm (up_oth (by omega)).symm (up_oth (by omega)).symm
  · by_cases c : q = p ∧ g = f
    · obtain ⟨rfl, rfl⟩ := c
      rw [upM_same, if_pos hp, up_same]
    · rw [upM_o (by omega), h2 q g hq hg]
      by_cases c2 : q < n
      · rw [if_pos c2, if_pos c2, up_app, if_neg (by omega)]
      · rw [if_neg c2, if_neg c2]
  · rw [up_oth (show ¬ (2 = 4 ∧ s = 8 * s + p) by omega), up_oth (show ¬ (10 = 4 ∧ 32 * s + j = 8 * s + p) by omega)]
    have h9 := h3 j hj
    rw [show (fun f' => upM M (15 + 11 * p + f) v (103 + 18 * j + f')) = fun f' => M (103 + 18 * j + f') from funext fun f' => upM_o (by omega)]
    exact h9
  · rw [upM_o (by omega), up_oth (by omega)]
    exact h4 i hi
/-- a number of its own -/
def gk (i : Nat) : Nat × Nat := match i with
  | 3 => (1, 4)
  | 4 => (1, 5)
  | 5 => (1, 7)
  | 6 => (1, 8)
  | 7 => (1, 9)
  | 8 => (1, 10)
  | 9 => (1, 11)
  | 10 => (1, 12)
  | 11 => (1, 13)
  | 12 => (5, 1)
  | 13 => (5, 2)
  | _ => (1, 6)
theorem gl_up {s i q : Nat} {C : xS} {v : Int} (h3 : 3 ≤ i) (hi : i < 15) (hq : q < 15) : gl s (up C (gk i).1 s (gk i).2 v) q = if q = i then v else gl s C q := by
  have a : i = 3 ∨ i = 4 ∨ i = 5 ∨ i = 6 ∨ i = 7 ∨ i = 8 ∨ i = 9 ∨ i = 10 ∨ i = 11 ∨ i = 12 ∨ i = 13 ∨ i = 14 := by omega
  have b : q = 0 ∨ q = 1 ∨ q = 2 ∨ q = 3 ∨ q = 4 ∨ q = 5 ∨ q = 6 ∨ q = 7 ∨ q = 8 ∨ q = 9 ∨ q = 10 ∨ q = 11 ∨ q = 12 ∨ q = 13 ∨ q = 14 := by omega
  rcases a with rfl | rfl | rfl | rfl | rfl | rfl | rfl | rfl | rfl | rfl | rfl | rfl <;> rcases b with rfl | rfl | rfl | rfl | rfl | rfl | rfl | rfl | rfl | rfl | rfl | rfl | rfl | rfl | rfl <;> simp (decide := true) only [gl, gk, up_app, if_true, if_false, and_true, true_and, and_false, false_and]
theorem Rel.gu {s n N i : Nat} {C : xS} {M : Nat → Int} {v : Int} (h : Rel s n N C M) (h3 : 3 ≤ i) (hi : i < 15) : Rel s n N (up C (gk i).1 s (gk i).2 v) (upM M i v) := by
  obtain ⟨h1, h2, h4, h5⟩ := h
  have k1 : (gk i).1 = 1 ∨ (gk i).1 = 5 := by
    have a : i = 3 ∨ i = 4 ∨ i = 5 ∨ i = 6 ∨ i = 7 ∨ i = 8 ∨ i = 9 ∨ i = 10 ∨ i = 11 ∨ i = 12 ∨ i = 13 ∨ i = 14 := by omega
    rcases a with rfl | rfl | rfl | rfl | rfl | rfl | rfl | rfl | rfl | rfl | rfl | rfl <;> decide
  refine ⟨fun q hq => ?_, fun p f hp hf => ?_, fun j hj => ?_, fun q hq => ?_⟩
  · rw [gl_up h3 hi hq]
    unfold upM
    rw [h1 q hq]
  · rw [upM_o (by omega), up_oth (by omega)]
    exact h2 p f hp hf
  · rw [up_oth (show ¬ (2 = (gk i).1 ∧ s = s) by omega), up_oth (show ¬ (10 = (gk i).1 ∧ 32 * s + j = s) by omega), show (fun f' => upM M i v (103 + 18 * j + f')) = fun f' => M (103 + 18 * j + f') from funext fun f' => upM_o (by omega)]
    exact h4 j hj
  · rw [upM_o (by omega), up_oth (by omega)]
    exact h5 q hq
/-- a promise's row -/
theorem Rel.row {s n N j : Nat} {C : xS} {M M' : Nat → Int} {F : Nat → Int} (h : Rel s n N C M) (hj : j < N) (hN : N ≤ 20) (ho : ∀ i, ¬ (103 + 18 * j ≤ i ∧ i < 103 + 18 * j + 18) → M' i = M i) (hr : PR (C 2 s 2) F (fun f => M' (103 + 18 * j + f))) : Rel s n N (rwS 10 (32 * s + j) F C) M' := by
  obtain ⟨h1, h2, h3, h4⟩ := h
  refine ⟨fun i hi => ?_, fun p f hp hf => ?_, fun k hk => ?_, fun i hi => ?_⟩
  · rw [ho i (by omega), h1 i hi]
    exact gl_congr (rwS_oth (by omega)).symm (rwS_oth (by omega)).symm (rwS_oth (by omega)).symm
  · rw [ho _ (by omega), rwS_oth (by omega)]
    exact h2 p f hp hf
  · rw [rwS_oth (show ¬ (2 = 10 ∧ s = 32 * s + j) by omega)]
    by_cases c : k = j
    · subst c
      rw [rwS_at]
      exact hr
    · rw [rwS_oth (by omega)]
      have h9 := h3 k hk
      unfold PR at h9 ⊢
      refine ⟨fun f h16 q6 q7 q8 => by show M' _ = _; rw [ho _ (by omega)]; exact h9.1 f h16 q6 q7 q8, ?_, ?_⟩
      · show 0 ≤ M' _ ∧ M' _ ≤ _; rw [ho _ (by omega)]; exact h9.2.1
      · show (_ ∧ M' _ = _ ∧ M' _ = _ ∧ M' _ = _ ∧ M' _ = _) ∨ (_ ∧ _ ∧ (M' _ = _ ∨ M' _ = _ ∧ M' _ ≤ _))
        rw [ho (103 + 18 * k + 17) (by omega), ho (103 + 18 * k + 6) (by omega), ho (103 + 18 * k + 7) (by omega), ho (103 + 18 * k + 8) (by omega)]
        exact h9.2.2
  · rw [ho _ (by omega), rwS_oth (by omega)]
    exact h4 i hi
theorem up_rwS (S : xS) (k j f : Nat) (v : Int) : up S k j f v = rwS k j (fun g => if g = f then v else S k j g) S := by
  funext k' j' f'
  rw [up_app]
  unfold rwS
  by_cases c : k' = k ∧ j' = j
  · rw [if_pos c]
    by_cases c2 : f' = f
    · show _ = if f' = f then v else S k j f'
      rw [if_pos ⟨c.1, c.2, c2⟩, if_pos c2]
    · show _ = if f' = f then v else S k j f'
      rw [if_neg (by omega), if_neg c2, c.1, c.2]
  · rw [if_neg (by omega), if_neg c]
/-- a promise's number, not of its job -/
theorem Rel.qu {s n N j f : Nat} {C : xS} {M : Nat → Int} {v : Int} (h : Rel s n N C M) (hj : j < N) (hN : N ≤ 20) (hf : f ≤ 16) (h6 : f ≠ 6) (h7 : f ≠ 7) (h8 : f ≠ 8) : Rel s n N (up C 10 (32 * s + j) f v) (upM M (103 + 18 * j + f) v) := by
  rw [up_rwS]
  refine h.row hj hN (fun i hi => upM_o (by omega)) ?_
  have h9 := h.2.2.1 j hj
  unfold PR at h9 ⊢
  refine ⟨fun g h16 q6 q7 q8 => ?_, ?_, ?_⟩
  · show upM M _ v _ = if g = f then v else _
    by_cases c : g = f
    · rw [if_pos c, c, upM_same]
    · rw [if_neg c, upM_o (by omega)]; exact h9.1 g h16 q6 q7 q8
  · show 0 ≤ upM M _ v _ ∧ upM M _ v _ ≤ _; rw [upM_o (by omega)]; exact h9.2.1
  · show (_ ∧ upM M _ v _ = _ ∧ upM M _ v _ = _ ∧ upM M _ v _ = _ ∧ upM M _ v _ = _) ∨ (_ ∧ _ ∧ (upM M _ v _ = _ ∨ upM M _ v _ = _ ∧ upM M _ v _ ≤ _))
    dsimp only at h9 ⊢
    rw [upM_o (show 103 + 18 * j + 17 ≠ 103 + 18 * j + f by omega), upM_o (show 103 + 18 * j + 6 ≠ 103 + 18 * j + f by omega), upM_o (show 103 + 18 * j + 7 ≠ 103 + 18 * j + f by omega), upM_o (show 103 + 18 * j + 8 ≠ 103 + 18 * j + f by omega), if_neg (Ne.symm h6), if_neg (Ne.symm h7), if_neg (Ne.symm h8)]
    exact h9.2.2
/-- what is left of a living job -/
theorem Rel.ql {s n N j : Nat} {C : xS} {M : Nat → Int} {v : Int} (h : Rel s n N C M) (hj : j < N) (hN : N ≤ 20) (ha : C 2 s 2 < C 10 (32 * s + j) 7) : Rel s n N (up C 10 (32 * s + j) 6 v) (upM M (103 + 18 * j + 6) v) := by
  rw [up_rwS]
  refine h.row hj hN (fun i hi => upM_o (by omega)) ?_
  have h9 := h.2.2.1 j hj
  unfold PR at h9 ⊢
  dsimp only at h9
  refine ⟨fun g h16 q6 q7 q8 => ?_, ?_, Or.inl ⟨?_, ?_, ?_, ?_, ?_⟩⟩
  · show upM M _ v _ = if g = 6 then v else _
    rw [if_neg q6, upM_o (by omega)]; exact h9.1 g h16 q6 q7 q8
  · show 0 ≤ upM M _ v _ ∧ upM M _ v _ ≤ _; rw [upM_o (by omega)]; exact h9.2.1
  · exact ha
  · show upM M _ v _ = 1; rw [upM_o (by omega)]; omega
  · show upM M _ v _ = v; rw [upM_same]
  · show upM M _ v _ = C 10 _ 7; rw [upM_o (by omega)]; omega
  · show upM M _ v _ = C 10 _ 8; rw [upM_o (by omega)]; omega
theorem Rel.vu {s n N i : Nat} {C : xS} {M : Nat → Int} {v : Int} (h : Rel s n N C M) (hi : i < 64) (hn : n ≤ 8) (hN : N ≤ 20) : Rel s n N (up C 25 s i v) (upM M (463 + i) v) := by
  obtain ⟨h1, h2, h3, h4⟩ := h
  refine ⟨fun q hq => ?_, fun p f hp hf => ?_, fun j hj => ?_, fun q hq => ?_⟩
  · rw [upM_o (by omega), h1 q hq]
    exact gl_congr (up_oth (by omega)).symm (up_oth (by omega)).symm (up_oth (by omega)).symm
  · rw [upM_o (by omega), up_oth (by omega)]
    exact h2 p f hp hf
  · rw [up_oth (show ¬ (2 = 25 ∧ s = s) by omega), up_oth (show ¬ (10 = 25 ∧ 32 * s + j = s) by omega)]
    exact (h3 j hj).g (fun f hf => upM_o (by omega))
  · by_cases c : q = i
    · subst c; rw [upM_same, up_same]
    · rw [upM_o (by omega), up_f c]; exact h4 q hq
theorem up_id {S : xS} {k j f : Nat} {v : Int} (h : v = S k j f) : up S k j f v = S := by rw [h]; exact up_self S k j f
theorem up_comm {S : xS} {k j f k' j' f' : Nat} {v v' : Int} (h : ¬ (k = k' ∧ j = j' ∧ f = f')) : up (up S k j f v) k' j' f' v' = up (up S k' j' f' v') k j f v := by
  funext x y z
  rw [up_app, up_app, up_app, up_app]
  by_cases c : x = k ∧ y = j ∧ z = f
  · rw [if_neg (show ¬ (x = k' ∧ y = j' ∧ z = f') by omega), if_pos c, if_pos c]
  · rw [if_neg c, if_neg c]
