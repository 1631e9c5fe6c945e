/-! PromiseMarketModel: arrivals, releases -/
theorem VS.g {s n N : Nat} {T : Int} {C : xS} (h : VS s n N T C) : GQ n T (C 1 s) := h.2.2.2.1
theorem VS.p {s n N p : Nat} {T : Int} {C : xS} (h : VS s n N T C) (hp : p < n) : PQ T (C 4 (8 * s + p)) := h.2.2.2.2.1 p hp
theorem VS.o {s n N j : Nat} {T : Int} {C : xS} (h : VS s n N T C) (hj : j < N) : OQ n (C 2 s 2) T (C 10 (32 * s + j)) := h.2.2.2.2.2.1 j hj
theorem VS.t {s n N j : Nat} {T : Int} {C : xS} (h : VS s n N T C) (hj : j < N) : TQ (C 2 s 2) T (C 10 (32 * s + j)) := h.1.2.2.2 j hj
/-- a job is released: the rows -/
theorem PR.rel {t : Int} {F G G' : Nat → Int} (h : PR t F G) (h5 : F 5 = t) (ht : 0 ≤ t ∧ t ≤ 1000000) (h4 : 1 ≤ F 4 ∧ F 4 ≤ 120) (e : ∀ f, f < 18 → G' f = if f = 8 then (if 0 < F 11 then F 10 else F 1) else if f = 11 then (if 0 < F 11 then F 11 - 1 else F 11) else if f = 10 then (if 0 < F 11 then (if F 11 - 1 = 0 then -1 else F 10) else F 10) else if f = 6 then F 3 else if f = 7 then t + F 4 else if f = 5 then t + F 2 else if f = 17 then 1 else if f = 15 then F 15 + 1 else F f) (h11 : 0 ≤ F 11) : PR t (xrel F) G' := by
  refine ⟨fun f h16 q6 q7 q8 => ?_, ?_, Or.inl ⟨?_, ?_, ?_, ?_, ?_⟩⟩
  · rw [e f (by omega), if_neg q8, if_neg q6, if_neg q7]
    unfold xrel
    by_cases c5 : f = 5
    · subst c5; rw [if_neg (by decide), if_neg (by decide), if_pos rfl, if_pos rfl]; omega
    · rw [if_neg c5, if_neg c5, if_neg q6, if_neg q7]
      by_cases c15 : f = 15
      · subst c15; rw [if_neg (by decide), if_neg (by decide), if_neg (by decide), if_pos rfl, if_pos rfl]
      · rw [if_neg c15, if_neg c15, if_neg q8, if_neg (show f ≠ 17 by omega)]
        by_cases c10 : f = 10
        · subst c10; rw [if_neg (by decide), if_pos rfl, if_pos rfl]
          by_cases c : 0 < F 11
          · rw [if_pos c, if_pos c]
            by_cases c2 : F 11 - 1 = 0
            · rw [if_pos c2, if_neg (by omega)]
            · rw [if_neg c2, if_pos (by omega)]
          · rw [if_neg c, if_neg c]
        · rw [if_neg c10, if_neg c10]
  · rw [e 7 (by decide)]
    simp (decide := true) only [if_true, if_false]
    omega
  · show t < F 5 + F 4; omega
  · rw [e 17 (by decide)]; rfl
  · rw [e 6 (by decide)]; rfl
  · rw [e 7 (by decide)]; show t + F 4 = F 5 + F 4; omega
  · rw [e 8 (by decide)]; rfl
