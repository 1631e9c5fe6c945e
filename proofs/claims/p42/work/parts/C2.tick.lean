/-! a tick in all its parts -/
theorem e32 (j : Nat) : 32 * 0 + j = j := by omega
theorem e08 (j : Nat) : 8 * 0 + j = j := by omega
def smP (S : xS) (g : Nat) : Int := sm (fun p => S 4 p g) 4
def smQ (N : Nat) (S : xS) (g : Nat) : Int := sm (fun j => S 10 j g) N
theorem sm_one {g h : Nat → Int} {i : Nat} : ∀ {n : Nat}, i < n → (∀ j, j < n → j ≠ i → h j = g j) → sm h n = sm g n + (h i - g i)
  | 0, hi, _ => absurd hi (Nat.not_lt_zero i)
  | n + 1, hi, e => by
    rw [sm_s, sm_s]
    by_cases c : i = n
    · subst c
      rw [sm_congr (g := h) (h := g) (fun j hj => e j (by omega) (by omega))]
      omega
    · rw [sm_one (g := g) (h := h) (i := i) (n := n) (by omega) (fun j hj hne => e j (by omega) hne), e n (by omega) (by omega)]
      omega
theorem smP_up {S : xS} {h f g : Nat} {v : Int} (hh : h < 4) : smP (up S 4 h f v) g = smP S g + (if g = f then v - S 4 h f else 0) := by
  unfold smP
  rw [sm_one (g := fun p => S 4 p g) (h := fun p => up S 4 h f v 4 p g) (i := h) hh (fun j _ hne => by show up S 4 h f v 4 j g = S 4 j g; rw [up_oth (by omega)])]
  show _ + (up S 4 h f v 4 h g - S 4 h g) = _
  by_cases c : g = f
  · subst c; rw [up_same, if_pos rfl]
  · rw [up_f c, if_neg c]; omega
theorem smP_o {S : xS} {k j f g : Nat} {v : Int} (hk : k ≠ 4) : smP (up S k j f v) g = smP S g := sm_congr (fun p _ => by show up S k j f v 4 p g = S 4 p g; rw [up_k (Ne.symm hk)])
theorem smQ_up {N : Nat} {S : xS} {h f g : Nat} {v : Int} (hh : h < N) : smQ N (up S 10 h f v) g = smQ N S g + (if g = f then v - S 10 h f else 0) := by
  unfold smQ
  rw [sm_one (g := fun p => S 10 p g) (h := fun p => up S 10 h f v 10 p g) (i := h) hh (fun j _ hne => by show up S 10 h f v 10 j g = S 10 j g; rw [up_oth (by omega)])]
  show _ + (up S 10 h f v 10 h g - S 10 h g) = _
  by_cases c : g = f
  · subst c; rw [up_same, if_pos rfl]
  · rw [up_f c, if_neg c]; omega
theorem smQ_o {N : Nat} {S : xS} {k j f g : Nat} {v : Int} (hk : k ≠ 10) : smQ N (up S k j f v) g = smQ N S g := sm_congr (fun p _ => by show up S k j f v 10 p g = S 10 p g; rw [up_k (Ne.symm hk)])
theorem sm_ge {g : Nat → Int} : ∀ {n h : Nat}, (∀ p, p < n → 0 ≤ g p) → h < n → 0 ≤ sm g n ∧ g h ≤ sm g n
  | 0, h, _, hh => absurd hh (Nat.not_lt_zero h)
  | n + 1, h, e, hh => by
    rw [sm_s]
    have h0 := e n (by omega)
    by_cases c : h = n
    · subst c
      have : 0 ≤ sm g h := by
        cases h with
        | zero => exact Int.le_refl 0
        | succ m => exact (sm_ge (n := m + 1) (h := 0) (fun p hp => e p (by omega)) (by omega)).1
      omega
    · have := sm_ge (n := n) (h := h) (fun p hp => e p (by omega)) (by omega)
      omega
/-- the money of all -/
def mon (C : xS) : Int := C 1 0 6 + smP C 0
/-- what a tick has done -/
def TF (N : Nat) (B A : xS) (dU dS dW dF dI : Int) : Prop :=
  (0 ≤ dU ∧ 0 ≤ dS ∧ 0 ≤ dW ∧ 0 ≤ dF ∧ 0 ≤ dI ∧ dU + dS + dW + dF + dI = 1) ∧
  (A 1 0 8 = B 1 0 8 + dU ∧ A 1 0 9 = B 1 0 9 + dS ∧ A 1 0 10 = B 1 0 10 + dW ∧ A 1 0 11 = B 1 0 11 + dF ∧ A 1 0 12 = B 1 0 12 + dI ∧ A 1 0 13 = B 1 0 13) ∧
  (smP A 1 = smP B 1 - 1 + dW + dI ∧ smP A 5 = smP B 5 + dU ∧ smP A 6 = smP B 6 + dS ∧ smP A 7 = smP B 7 + dF ∧ smP A 8 - smP A 9 = smP B 8 - smP B 9 ∧ mon A = mon B) ∧
  (smQ N A 12 = smQ N B 12 + dU ∧ smQ N A 13 = smQ N B 13 + dS ∧ smQ N A 14 = smQ N B 14 + dW) ∧
  (∀ p, p < 4 → (A 4 p 1 = B 4 p 1 ∨ A 4 p 1 = B 4 p 1 - 1) ∧ A 4 p 3 = B 4 p 3 ∧ A 4 p 4 = B 4 p 4) ∧
  (∀ j, j < N → A 10 j 6 ≤ B 10 j 6 ∧ ∀ f, f ≠ 6 → f ≠ 12 → f ≠ 13 → f ≠ 14 → A 10 j f = B 10 j f) ∧ A 2 0 = B 2 0
theorem TF.idle {N : Nat} {B : xS} : TF N B (up B 1 0 12 (B 1 0 12 + 1)) 0 0 0 0 1 := by
  refine ⟨by omega, ?_, ?_, ?_, fun p hp => ?_, fun j hj => ?_, up_oth (by omega)⟩
  · rw [up_same, up_f (by decide), up_f (by decide), up_f (by decide), up_f (by decide), up_f (by decide)]; omega
  · unfold mon
    simp only [smP_o (show (1 : Nat) ≠ 4 by decide), up_f (show (6 : Nat) ≠ 12 by decide)]
    omega
  · simp only [smQ_o (show (1 : Nat) ≠ 10 by decide)]; omega
  · simp only [up_k (show (4 : Nat) ≠ 1 by decide)]; exact ⟨Or.inl rfl, rfl, rfl⟩
  · simp only [up_k (show (10 : Nat) ≠ 1 by decide)]; exact ⟨Int.le_refl _, fun f _ _ _ _ => rfl⟩
theorem TF.free {N c : Nat} {B : xS} (hc : c < 4) : TF N B (frpS 0 c B) 0 0 0 1 0 := by
  unfold frpS
  rw [e08]
  have p1 : ∀ g, smP (up (up (up (up B 4 c 1 (B 4 c 1 - 1)) 4 c 7 (B 4 c 7 + 1)) 1 0 11 (B 1 0 11 + 1)) 1 0 7 (c : Int)) g = smP B g + (if g = 1 then (-1) else 0) + (if g = 7 then 1 else 0) := fun g => by
    rw [smP_o (by decide), smP_o (by decide), smP_up hc, smP_up hc, up_f (by decide)]
    split <;> split <;> omega
  refine ⟨by omega, ?_, ?_, ?_, fun p hp => ?_, fun j hj => ?_, ?_⟩
  · simp only [up_app]; simp
  · unfold mon
    rw [p1, p1, p1, p1, p1, p1, p1]
    simp only [up_app]; simp; omega
  · simp only [smQ_o (show (1 : Nat) ≠ 10 by decide), smQ_o (show (4 : Nat) ≠ 10 by decide)]; omega
  · simp only [up_app]
    by_cases e : p = c
    · subst e; simp
    · simp [e]
  · simp only [up_k (show (10 : Nat) ≠ 1 by decide), up_k (show (10 : Nat) ≠ 4 by decide)]; exact ⟨Int.le_refl _, fun f _ _ _ _ => rfl⟩
  · rw [up_oth (by omega), up_oth (by omega), up_oth (by omega), up_oth (by omega)]
theorem TF.used {N h b : Nat} {B : xS} (hh : h < 4) (hb : b < N) : TF N B (usdS 0 h b (up B 10 b 6 (B 10 b 6 - 1))) 1 0 0 0 0 := by
  unfold usdS
  have p1 : ∀ g, smP (up (up (up (up (up B 10 b 6 (B 10 b 6 - 1)) 4 h 1 (up B 10 b 6 (B 10 b 6 - 1) 4 h 1 - 1)) 4 h 5 (up B 10 b 6 (B 10 b 6 - 1) 4 h 5 + 1)) 10 b 12 (up B 10 b 6 (B 10 b 6 - 1) 10 b 12 + 1)) 1 0 8 (up B 10 b 6 (B 10 b 6 - 1) 1 0 8 + 1)) g = smP B g + (if g = 1 then (-1) else 0) + (if g = 5 then 1 else 0) := fun g => by
    rw [smP_o (by decide), smP_o (by decide), smP_up hh, smP_up hh, smP_o (by decide), up_f (by decide)]
    split <;> split <;> omega
  have q1 : ∀ g, g ≠ 6 → smQ N (up (up (up (up (up B 10 b 6 (B 10 b 6 - 1)) 4 h 1 (up B 10 b 6 (B 10 b 6 - 1) 4 h 1 - 1)) 4 h 5 (up B 10 b 6 (B 10 b 6 - 1) 4 h 5 + 1)) 10 b 12 (up B 10 b 6 (B 10 b 6 - 1) 10 b 12 + 1)) 1 0 8 (up B 10 b 6 (B 10 b 6 - 1) 1 0 8 + 1)) g = smQ N B g + (if g = 12 then 1 else 0) := fun g hg => by
    rw [smQ_o (by decide), smQ_up hb, smQ_o (by decide), smQ_o (by decide), smQ_up hb, if_neg hg, up_k (by decide), up_k (by decide)]
    split <;> omega
  refine ⟨by omega, ?_, ?_, ?_, fun p hp => ?_, fun j hj => ?_, ?_⟩
  · simp only [up_app]; simp
  · unfold mon
    rw [p1, p1, p1, p1, p1, p1, p1]
    simp only [up_app]; simp; omega
  · rw [q1 _ (by decide), q1 _ (by decide), q1 _ (by decide)]; simp
  · simp only [up_app]
    by_cases e : p = h
    · subst e; simp
    · simp [e]
  · refine ⟨?_, fun f h6 h12 _ _ => ?_⟩
    · simp only [up_app]
      by_cases e : j = b
      · subst e; simp; omega
      · simp [e]
    · rw [up_k (by decide), up_f h12, up_k (by decide), up_k (by decide), up_f h6]
  · rw [up_oth (by omega), up_oth (by omega), up_oth (by omega), up_oth (by omega), up_oth (by omega)]
theorem TF.sold {N h q b : Nat} {B : xS} (hh : h < 4) (hq : q < 4) (hne : q ≠ h) (hb : b < N) (hc : B 4 h 0 + B 4 q 2 ≤ 1000000) : TF N B (sltS 0 h q b (up B 10 b 6 (B 10 b 6 - 1))) 0 1 0 0 0 := by
  unfold sltS slcS
  generalize hE : up B 10 b 6 (B 10 b 6 - 1) = E
  have e4 : E 4 = B 4 := by rw [← hE]; funext y f; rw [up_k (by decide)]
  have e1 : E 1 = B 1 := by rw [← hE]; funext y f; rw [up_k (by decide)]
  have e2 : E 2 0 = B 2 0 := by rw [← hE]; rw [up_oth (by omega)]
  have eP : ∀ g, smP E g = smP B g := fun g => by rw [← hE, smP_o (by decide)]
  have eQ : ∀ g, g ≠ 6 → smQ N E g = smQ N B g := fun g hg => by rw [← hE, smQ_up hb, if_neg hg]; omega
  have eq : xmin 1000000 (E 4 h 0 + E 4 q 2) = E 4 h 0 + E 4 q 2 := by rw [e4]; unfold xmin; rw [if_neg (by omega)]
  rw [eq]
  have p1 : ∀ g, smP (up (up (up (up (up (up (up (up E 4 q 0 (E 4 q 0 - E 4 q 2)) 4 q 1 (E 4 q 1 - 1)) 4 q 6 (E 4 q 6 + 1)) 4 q 9 (E 4 q 9 + E 4 q 2)) 4 h 0 (E 4 h 0 + E 4 q 2)) 4 h 8 (E 4 h 8 + E 4 q 2)) 10 b 13 (up (up (up (up (up (up E 4 q 0 (E 4 q 0 - E 4 q 2)) 4 q 1 (E 4 q 1 - 1)) 4 q 6 (E 4 q 6 + 1)) 4 q 9 (E 4 q 9 + E 4 q 2)) 4 h 0 (E 4 h 0 + E 4 q 2)) 4 h 8 (E 4 h 8 + E 4 q 2) 10 b 13 + 1)) 1 0 9 (up (up (up (up (up (up E 4 q 0 (E 4 q 0 - E 4 q 2)) 4 q 1 (E 4 q 1 - 1)) 4 q 6 (E 4 q 6 + 1)) 4 q 9 (E 4 q 9 + E 4 q 2)) 4 h 0 (E 4 h 0 + E 4 q 2)) 4 h 8 (E 4 h 8 + E 4 q 2) 1 0 9 + 1)) g = smP B g + (if g = 1 then (-1) else 0) + (if g = 6 then 1 else 0) + (if g = 8 then E 4 q 2 else 0) + (if g = 9 then E 4 q 2 else 0) := fun g => by
    rw [smP_o (by decide), smP_o (by decide), smP_up hh, smP_up hh, smP_up hq, smP_up hq, smP_up hq, smP_up hq, eP]
    simp only [up_app]
    simp [hne, Ne.symm hne]
    repeat' split
    all_goals omega
  have q1 : ∀ g, g ≠ 6 → smQ N (up (up (up (up (up (up (up (up E 4 q 0 (E 4 q 0 - E 4 q 2)) 4 q 1 (E 4 q 1 - 1)) 4 q 6 (E 4 q 6 + 1)) 4 q 9 (E 4 q 9 + E 4 q 2)) 4 h 0 (E 4 h 0 + E 4 q 2)) 4 h 8 (E 4 h 8 + E 4 q 2)) 10 b 13 (up (up (up (up (up (up E 4 q 0 (E 4 q 0 - E 4 q 2)) 4 q 1 (E 4 q 1 - 1)) 4 q 6 (E 4 q 6 + 1)) 4 q 9 (E 4 q 9 + E 4 q 2)) 4 h 0 (E 4 h 0 + E 4 q 2)) 4 h 8 (E 4 h 8 + E 4 q 2) 10 b 13 + 1)) 1 0 9 (up (up (up (up (up (up E 4 q 0 (E 4 q 0 - E 4 q 2)) 4 q 1 (E 4 q 1 - 1)) 4 q 6 (E 4 q 6 + 1)) 4 q 9 (E 4 q 9 + E 4 q 2)) 4 h 0 (E 4 h 0 + E 4 q 2)) 4 h 8 (E 4 h 8 + E 4 q 2) 1 0 9 + 1)) g = smQ N B g + (if g = 13 then 1 else 0) := fun g hg => by
    rw [smQ_o (by decide), smQ_up hb, smQ_o (by decide), smQ_o (by decide), smQ_o (by decide), smQ_o (by decide), smQ_o (by decide), smQ_o (by decide), eQ g hg]
    split <;> omega
  refine ⟨by omega, ?_, ?_, ?_, fun p hp => ?_, fun j hj => ?_, ?_⟩
  · simp only [up_app]; simp [e1]
  · unfold mon
    rw [p1, p1, p1, p1, p1, p1, p1]
    simp only [up_app]; simp [e1]; omega
  · rw [q1 _ (by decide), q1 _ (by decide), q1 _ (by decide)]; simp
  · simp only [up_app, e4]
    by_cases e : p = q
    · subst e; simp [hne]
    · by_cases e5 : p = h
      · subst e5; simp [Ne.symm hne]
      · simp [e, e5]
  · have hj6 : E 10 j 6 ≤ B 10 j 6 ∧ ∀ f, f ≠ 6 → E 10 j f = B 10 j f := by
      rw [← hE]
      refine ⟨?_, fun f h6 => by rw [up_f h6]⟩
      by_cases e : j = b
      · subst e; rw [up_same]; omega
      · rw [up_oth (by omega)]; exact Int.le_refl _
    refine ⟨?_, fun f h6 _ h13 _ => ?_⟩
    · rw [up_k (by decide), up_f (by decide), up_k (by decide), up_k (by decide), up_k (by decide), up_k (by decide), up_k (by decide), up_k (by decide)]; exact hj6.1
    · rw [up_k (by decide), up_f h13, up_k (by decide), up_k (by decide), up_k (by decide), up_k (by decide), up_k (by decide), up_k (by decide)]; exact hj6.2 f h6
  · rw [up_oth (by omega), up_oth (by omega), up_oth (by omega), up_oth (by omega), up_oth (by omega), up_oth (by omega), up_oth (by omega), up_oth (by omega)]
    exact e2
theorem TF.wasted {N h b : Nat} {B : xS} (hh : h < 4) (hb : b < N) : TF N B (wstS 0 h b (up B 10 b 6 (B 10 b 6 - 1))) 0 0 1 0 0 := by
  unfold wstS pnlS
  generalize hE : up B 10 b 6 (B 10 b 6 - 1) = E
  have e4 : E 4 = B 4 := by rw [← hE]; funext y f; rw [up_k (by decide)]
  have e1 : E 1 = B 1 := by rw [← hE]; funext y f; rw [up_k (by decide)]
  have e2 : E 2 0 = B 2 0 := by rw [← hE]; rw [up_oth (by omega)]
  have eP : ∀ g, smP E g = smP B g := fun g => by rw [← hE, smP_o (by decide)]
  have eQ : ∀ g, g ≠ 6 → smQ N E g = smQ N B g := fun g hg => by rw [← hE, smQ_up hb, if_neg hg]; omega
  generalize xmin (E 1 0 4) (E 4 h 0) = m
  have p1 : ∀ g, smP (up (up (up (up (up E 4 h 0 (E 4 h 0 - m)) 4 h 10 (E 4 h 10 + m)) 1 0 6 (E 1 0 6 + m)) 10 b 14 (up (up (up E 4 h 0 (E 4 h 0 - m)) 4 h 10 (E 4 h 10 + m)) 1 0 6 (E 1 0 6 + m) 10 b 14 + 1)) 1 0 10 (up (up (up E 4 h 0 (E 4 h 0 - m)) 4 h 10 (E 4 h 10 + m)) 1 0 6 (E 1 0 6 + m) 1 0 10 + 1)) g = smP B g + (if g = 0 then (-m) else 0) + (if g = 10 then m else 0) := fun g => by
    rw [smP_o (by decide), smP_o (by decide), smP_o (by decide), smP_up hh, smP_up hh, eP, up_f (by decide)]
    split <;> split <;> omega
  have q1 : ∀ g, g ≠ 6 → smQ N (up (up (up (up (up E 4 h 0 (E 4 h 0 - m)) 4 h 10 (E 4 h 10 + m)) 1 0 6 (E 1 0 6 + m)) 10 b 14 (up (up (up E 4 h 0 (E 4 h 0 - m)) 4 h 10 (E 4 h 10 + m)) 1 0 6 (E 1 0 6 + m) 10 b 14 + 1)) 1 0 10 (up (up (up E 4 h 0 (E 4 h 0 - m)) 4 h 10 (E 4 h 10 + m)) 1 0 6 (E 1 0 6 + m) 1 0 10 + 1)) g = smQ N B g + (if g = 14 then 1 else 0) := fun g hg => by
    rw [smQ_o (by decide), smQ_up hb, smQ_o (by decide), smQ_o (by decide), smQ_o (by decide), eQ g hg]
    split <;> omega
  refine ⟨by omega, ?_, ?_, ?_, fun p hp => ?_, fun j hj => ?_, ?_⟩
  · simp only [up_app]; simp [e1]
  · unfold mon
    rw [p1, p1, p1, p1, p1, p1, p1]
    simp only [up_app]; simp [e1]; omega
  · rw [q1 _ (by decide), q1 _ (by decide), q1 _ (by decide)]; simp
  · simp only [up_app, e4]
    by_cases e : p = h
    · subst e; simp
    · simp [e]
  · have hj6 : E 10 j 6 ≤ B 10 j 6 ∧ ∀ f, f ≠ 6 → E 10 j f = B 10 j f := by
      rw [← hE]
      refine ⟨?_, fun f h6 => by rw [up_f h6]⟩
      by_cases e : j = b
      · subst e; rw [up_same]; omega
      · rw [up_oth (by omega)]; exact Int.le_refl _
    refine ⟨?_, fun f h6 _ _ h14 => ?_⟩
    · rw [up_k (by decide), up_f (by decide), up_k (by decide), up_k (by decide), up_k (by decide)]; exact hj6.1
    · rw [up_k (by decide), up_f h14, up_k (by decide), up_k (by decide), up_k (by decide)]; exact hj6.2 f h6
  · rw [up_oth (by omega), up_oth (by omega), up_oth (by omega), up_oth (by omega), up_oth (by omega)]
    exact e2
