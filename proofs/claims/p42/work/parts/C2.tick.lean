/-! a tick in all its parts -/
theorem e32 (j : Nat) : 32 * 0 + j = j := by omega
theorem e08 (j : Nat) : 8 * 0 + j = j := by omega
def smP (S : xS) (g : Nat) : Int := sm (fun p => S 4 p g) 4
def smQ (N : Nat) (S : xS) (g : Nat) : Int := sm (fun j => S 10 j g) N
theorem sm_one {g h : Nat → Int} {i : Nat} : ∀ {n : Nat}, i < n → (∀ j, j < n → j ≠ i → h j = g j) → sm h n = sm g n + (h i - g i)
  | 0, hi, _ => absurd hi (Nat.not_lt_zero i)
  | n + 1, hi, e => by
    rw [sm_s, sm_s]
    by_cases c : i = n
    · subst c
      rw [sm_congr (g := h) (h := g) (fun j hj => e j (by omega) (by omega))]
      omega
    · rw [sm_one (g := g) (h := h) (i := i) (n := n) (by omega) (fun j hj hne => e j (by omega) hne), e n (by omega) (by omega)]
      omega
theorem smP_up {S : xS} {h f g : Nat} {v : Int} (hh : h < 4) : smP (up S 4 h f v) g = smP S g + (if g = f then v - S 4 h f else 0) := by
  unfold smP
  rw [sm_one (g := fun p => S 4 p g) (h := fun p => up S 4 h f v 4 p g) (i := h) hh (fun j _ hne => by show up S 4 h f v 4 j g = S 4 j g; rw [up_oth (by omega)])]
  show _ + (up S 4 h f v 4 h g - S 4 h g) = _
  by_cases c : g = f
  · subst c; rw [up_same, if_pos rfl]
  · rw [up_f c, if_neg c]; omega
theorem smP_o {S : xS} {k j f g : Nat} {v : Int} (hk : k ≠ 4) : smP (up S k j f v) g = smP S g := sm_congr (fun p _ => by show up S k j f v 4 p g = S 4 p g; rw [up_k (Ne.symm hk)])
theorem smQ_up {N : Nat} {S : xS} {h f g : Nat} {v : Int} (hh : h < N) : smQ N (up S 10 h f v) g = smQ N S g + (if g = f then v - S 10 h f else 0) := by
  unfold smQ
  rw [sm_one (g := fun p => S 10 p g) (h := fun p => up S 10 h f v 10 p g) (i := h) hh (fun j _ hne => by show up S 10 h f v 10 j g = S 10 j g; rw [up_oth (by omega)])]
  show _ + (up S 10 h f v 10 h g - S 10 h g) = _
  by_cases c : g = f
  · subst c; rw [up_same, if_pos rfl]
  · rw [up_f c, if_neg c]; omega
theorem smQ_o {N : Nat} {S : xS} {k j f g : Nat} {v : Int} (hk : k ≠ 10) : smQ N (up S k j f v) g = smQ N S g := sm_congr (fun p _ => by show up S k j f v 10 p g = S 10 p g; rw [up_k (Ne.symm hk)])
theorem sm_ge {g : Nat → Int} : ∀ {n h : Nat}, (∀ p, p < n → 0 ≤ g p) → h < n → 0 ≤ sm g n ∧ g h ≤ sm g n
  | 0, h, _, hh => absurd hh (Nat.not_lt_zero h)
  | n + 1, h, e, hh => by
    rw [sm_s]
    have h0 := e n (by omega)
    by_cases c : h = n
    · subst c
      have : 0 ≤ sm g h := by
        cases h with
        | zero => exact Int.le_refl 0
        | succ m => exact (sm_ge (n := m + 1) (h := 0) (fun p hp => e p (by omega)) (by omega)).1
      omega
    · have := sm_ge (n := n) (h := h) (fun p hp => e p (by omega)) (by omega)
      omega
/-- the money of all -/
def mon (C : xS) : Int := C 1 0 6 + smP C 0
/-- what a tick has done -/
def TF (N : Nat) (B A : xS) (dU dS dW dF dI : Int) : Prop :=
  (0 ≤ dU ∧ 0 ≤ dS ∧ 0 ≤ dW ∧ 0 ≤ dF ∧ 0 ≤ dI ∧ dU + dS + dW + dF + dI = 1) ∧
  (A 1 0 8 = B 1 0 8 + dU ∧ A 1 0 9 = B 1 0 9 + dS ∧ A 1 0 10 = B 1 0 10 + dW ∧ A 1 0 11 = B 1 0 11 + dF ∧ A 1 0 12 = B 1 0 12 + dI ∧ A 1 0 13 = B 1 0 13) ∧
  (smP A 1 = smP B 1 - 1 + dW + dI ∧ smP A 5 = smP B 5 + dU ∧ smP A 6 = smP B 6 + dS ∧ smP A 7 = smP B 7 + dF ∧ smP A 8 - smP A 9 = smP B 8 - smP B 9 ∧ mon A = mon B) ∧
  (smQ N A 12 = smQ N B 12 + dU ∧ smQ N A 13 = smQ N B 13 + dS ∧ smQ N A 14 = smQ N B 14 + dW) ∧
  (∀ p, p < 4 → (A 4 p 1 = B 4 p 1 ∨ A 4 p 1 = B 4 p 1 - 1) ∧ A 4 p 3 = B 4 p 3 ∧ A 4 p 4 = B 4 p 4) ∧
  (∀ j, j < N → A 10 j 6 ≤ B 10 j 6 ∧ ∀ f, f ≠ 6 → f ≠ 12 → f ≠ 13 → f ≠ 14 → A 10 j f = B 10 j f) ∧ A 2 0 = B 2 0
theorem TF.idle {N : Nat} {B : xS}  : TF N B (up B 1 0 12 (B 1 0 12 + 1)) 0 0 0 0 1 := by
  obtain ⟨A, hA⟩ : ∃ A, A = up B 1 0 12 (B 1 0 12 + 1) := ⟨_, rfl⟩
  rw [← hA]
  have p1 : ∀ g, smP A g = smP B g := fun g => by
    rw [hA]
    rw [smP_o (by decide)]
  have q1 : ∀ g, g ≠ 6 → smQ N A g = smQ N B g := fun g hg => by
    rw [hA]
    rw [smQ_o (by decide)]
  have v1 : ∀ f, f ≠ 7 → A 1 0 f = if f = 12 then B 1 0 12 + 1 else B 1 0 f := fun f hf => by
    rw [hA]
    simp only [up_app]
    simp [hf]
    (try ((repeat' split) <;> simp_all))
  have v4 : ∀ p f, f = 1 ∨ f = 3 ∨ f = 4 → A 4 p f = B 4 p f := fun p f hf => by
    rw [hA]
    simp only [up_app]
    rcases hf with rfl | rfl | rfl <;> simp
    all_goals (try ((repeat' split) <;> simp_all))
  have v10 : ∀ j f, f ≠ 12 → f ≠ 13 → f ≠ 14 → A 10 j f = B 10 j f := fun j f h1 h2 h3 => by
    rw [hA]
    simp only [up_app]
    simp [h1, h2, h3]
  have v2 : A 2 0 = B 2 0 := by
    rw [hA]
    funext f
    simp only [up_app]
    simp
  clear hA
  refine ⟨by omega, ?_, ?_, ?_, fun p hp => ?_, fun j hj => ?_, v2⟩
  · rw [v1 _ (by decide), v1 _ (by decide), v1 _ (by decide), v1 _ (by decide), v1 _ (by decide), v1 _ (by decide)]; simp
  · unfold mon; rw [v1 6 (by decide)]; simp only [p1]; simp <;> omega
  · simp only [q1 12 (by decide), q1 13 (by decide), q1 14 (by decide)]; simp
  · rw [v4 p 1 (by simp), v4 p 3 (by simp), v4 p 4 (by simp)]; simp
  · rw [v10 j 6 (by decide) (by decide) (by decide)]
    exact ⟨Int.le_refl _, fun f _ h1 h2 h3 => v10 j f h1 h2 h3⟩
theorem TF.free {N : Nat} {B : xS} {c : Nat} (hc : c < 4) : TF N B (frpS 0 c B) 0 0 0 1 0 := by
  obtain ⟨A, hA⟩ : ∃ A, A = frpS 0 c B := ⟨_, rfl⟩
  rw [← hA]
  have p1 : ∀ g, smP A g = smP B g + (if g = 1 then (-1) else 0) + (if g = 7 then 1 else 0) := fun g => by
    rw [hA]
    unfold frpS
    rw [e08, smP_o (by decide), smP_o (by decide), smP_up hc, smP_up hc]
    simp only [up_app]
    (try simp )
    (try ((repeat' split) <;> omega))
  have q1 : ∀ g, g ≠ 6 → smQ N A g = smQ N B g := fun g hg => by
    rw [hA]
    unfold frpS
    rw [smQ_o (by decide), smQ_o (by decide), smQ_o (by decide), smQ_o (by decide)]
  have v1 : ∀ f, f ≠ 7 → A 1 0 f = if f = 11 then B 1 0 11 + 1 else B 1 0 f := fun f hf => by
    rw [hA]
    unfold frpS
    simp only [up_app]
    simp [hf]
    (try ((repeat' split) <;> simp_all))
  have v4 : ∀ p f, f = 1 ∨ f = 3 ∨ f = 4 → A 4 p f = if f = 1 ∧ p = c then B 4 p 1 - 1 else B 4 p f := fun p f hf => by
    rw [hA]
    unfold frpS
    simp only [up_app]
    rcases hf with rfl | rfl | rfl <;> simp
    all_goals (try ((repeat' split) <;> simp_all))
  have v10 : ∀ j f, f ≠ 12 → f ≠ 13 → f ≠ 14 → A 10 j f = B 10 j f := fun j f h1 h2 h3 => by
    rw [hA]
    unfold frpS
    simp only [up_app]
    simp [h1, h2, h3]
  have v2 : A 2 0 = B 2 0 := by
    rw [hA]
    unfold frpS
    funext f
    simp only [up_app]
    simp
  clear hA
  refine ⟨by omega, ?_, ?_, ?_, fun p hp => ?_, fun j hj => ?_, v2⟩
  · rw [v1 _ (by decide), v1 _ (by decide), v1 _ (by decide), v1 _ (by decide), v1 _ (by decide), v1 _ (by decide)]; simp
  · unfold mon; rw [v1 6 (by decide)]; simp only [p1]; simp <;> omega
  · simp only [q1 12 (by decide), q1 13 (by decide), q1 14 (by decide)]; simp
  · rw [v4 p 1 (by simp), v4 p 3 (by simp), v4 p 4 (by simp)]
    by_cases e : p = c <;> simp [e]
  · rw [v10 j 6 (by decide) (by decide) (by decide)]
    exact ⟨Int.le_refl _, fun f _ h1 h2 h3 => v10 j f h1 h2 h3⟩
theorem TF.used {N : Nat} {B : xS} {h b : Nat} (hh : h < 4) (hb : b < N) : TF N B (usdS 0 h b (up B 10 b 6 (B 10 b 6 - 1))) 1 0 0 0 0 := by
  obtain ⟨A, hA⟩ : ∃ A, A = usdS 0 h b (up B 10 b 6 (B 10 b 6 - 1)) := ⟨_, rfl⟩
  rw [← hA]
  have p1 : ∀ g, smP A g = smP B g + (if g = 1 then (-1) else 0) + (if g = 5 then 1 else 0) := fun g => by
    rw [hA]
    unfold usdS
    rw [smP_o (by decide), smP_o (by decide), smP_up hh, smP_up hh, smP_o (by decide)]
    simp only [up_app]
    (try simp )
    (try ((repeat' split) <;> omega))
  have q1 : ∀ g, g ≠ 6 → smQ N A g = smQ N B g + (if g = 12 then 1 else 0) := fun g hg => by
    rw [hA]
    unfold usdS
    rw [smQ_o (by decide), smQ_up hb, smQ_o (by decide), smQ_o (by decide), smQ_up hb]
    simp only [up_app]
    (try simp [hg])
    (try ((repeat' split) <;> omega))
  have v1 : ∀ f, f ≠ 7 → A 1 0 f = if f = 8 then B 1 0 8 + 1 else B 1 0 f := fun f hf => by
    rw [hA]
    unfold usdS
    simp only [up_app]
    simp [hf]
    (try ((repeat' split) <;> simp_all))
  have v4 : ∀ p f, f = 1 ∨ f = 3 ∨ f = 4 → A 4 p f = if f = 1 ∧ p = h then B 4 p 1 - 1 else B 4 p f := fun p f hf => by
    rw [hA]
    unfold usdS
    simp only [up_app]
    rcases hf with rfl | rfl | rfl <;> simp
    all_goals (try ((repeat' split) <;> simp_all))
  have v10 : ∀ j f, f ≠ 12 → f ≠ 13 → f ≠ 14 → A 10 j f = if j = b ∧ f = 6 then B 10 b 6 - 1 else B 10 j f := fun j f h1 h2 h3 => by
    rw [hA]
    unfold usdS
    simp only [up_app]
    simp [h1, h2, h3]
  have v2 : A 2 0 = B 2 0 := by
    rw [hA]
    unfold usdS
    funext f
    simp only [up_app]
    simp
  clear hA
  refine ⟨by omega, ?_, ?_, ?_, fun p hp => ?_, fun j hj => ?_, v2⟩
  · rw [v1 _ (by decide), v1 _ (by decide), v1 _ (by decide), v1 _ (by decide), v1 _ (by decide), v1 _ (by decide)]; simp
  · unfold mon; rw [v1 6 (by decide)]; simp only [p1]; simp <;> omega
  · simp only [q1 12 (by decide), q1 13 (by decide), q1 14 (by decide)]; simp
  · rw [v4 p 1 (by simp), v4 p 3 (by simp), v4 p 4 (by simp)]
    by_cases e : p = h <;> simp [e]
  · rw [v10 j 6 (by decide) (by decide) (by decide)]
    refine ⟨?_, fun f h6 h1 h2 h3 => by rw [v10 j f h1 h2 h3, if_neg (fun z => h6 z.2)]⟩
    by_cases e : j = b
    · subst e; simp; omega
    · simp [e]
theorem TF.sold {N : Nat} {B : xS} {h q b : Nat} (hh : h < 4) (hq : q < 4) (hne : q ≠ h) (hb : b < N) (hc : B 4 h 0 + B 4 q 2 ≤ 1000000) : TF N B (sltS 0 h q b (up B 10 b 6 (B 10 b 6 - 1))) 0 1 0 0 0 := by
  have hm : xmin 1000000 (B 4 h 0 + B 4 q 2) = B 4 h 0 + B 4 q 2 := by unfold xmin; split <;> omega
  obtain ⟨A, hA⟩ : ∃ A, A = sltS 0 h q b (up B 10 b 6 (B 10 b 6 - 1)) := ⟨_, rfl⟩
  rw [← hA]
  have p1 : ∀ g, smP A g = smP B g + (if g = 1 then (-1) else 0) + (if g = 6 then 1 else 0) + (if g = 8 then B 4 q 2 else 0) + (if g = 9 then B 4 q 2 else 0) := fun g => by
    rw [hA]
    unfold sltS slcS
    rw [smP_o (by decide), smP_o (by decide), smP_up hh, smP_up hh, smP_up hq, smP_up hq, smP_up hq, smP_up hq, smP_o (by decide)]
    simp only [up_app]
    (try simp [hne, Ne.symm hne, hm])
    (try ((repeat' split) <;> omega))
  have q1 : ∀ g, g ≠ 6 → smQ N A g = smQ N B g + (if g = 13 then 1 else 0) := fun g hg => by
    rw [hA]
    unfold sltS slcS
    rw [smQ_o (by decide), smQ_up hb, smQ_o (by decide), smQ_o (by decide), smQ_o (by decide), smQ_o (by decide), smQ_o (by decide), smQ_o (by decide), smQ_up hb]
    simp only [up_app]
    (try simp [hg])
    (try ((repeat' split) <;> omega))
  have v1 : ∀ f, f ≠ 7 → A 1 0 f = if f = 9 then B 1 0 9 + 1 else B 1 0 f := fun f hf => by
    rw [hA]
    unfold sltS slcS
    simp only [up_app]
    simp [hf]
    (try ((repeat' split) <;> simp_all))
  have v4 : ∀ p f, f = 1 ∨ f = 3 ∨ f = 4 → A 4 p f = if f = 1 ∧ p = q then B 4 p 1 - 1 else B 4 p f := fun p f hf => by
    rw [hA]
    unfold sltS slcS
    simp only [up_app]
    rcases hf with rfl | rfl | rfl <;> simp
    all_goals (try ((repeat' split) <;> simp_all))
  have v10 : ∀ j f, f ≠ 12 → f ≠ 13 → f ≠ 14 → A 10 j f = if j = b ∧ f = 6 then B 10 b 6 - 1 else B 10 j f := fun j f h1 h2 h3 => by
    rw [hA]
    unfold sltS slcS
    simp only [up_app]
    simp [h1, h2, h3]
  have v2 : A 2 0 = B 2 0 := by
    rw [hA]
    unfold sltS slcS
    funext f
    simp only [up_app]
    simp
  clear hA
  refine ⟨by omega, ?_, ?_, ?_, fun p hp => ?_, fun j hj => ?_, v2⟩
  · rw [v1 _ (by decide), v1 _ (by decide), v1 _ (by decide), v1 _ (by decide), v1 _ (by decide), v1 _ (by decide)]; simp
  · unfold mon; rw [v1 6 (by decide)]; simp only [p1]; simp <;> omega
  · simp only [q1 12 (by decide), q1 13 (by decide), q1 14 (by decide)]; simp
  · rw [v4 p 1 (by simp), v4 p 3 (by simp), v4 p 4 (by simp)]
    by_cases e : p = q <;> simp [e]
  · rw [v10 j 6 (by decide) (by decide) (by decide)]
    refine ⟨?_, fun f h6 h1 h2 h3 => by rw [v10 j f h1 h2 h3, if_neg (fun z => h6 z.2)]⟩
    by_cases e : j = b
    · subst e; simp; omega
    · simp [e]
theorem TF.wasted {N : Nat} {B : xS} {h b : Nat} (hh : h < 4) (hb : b < N) : TF N B (wstS 0 h b (up B 10 b 6 (B 10 b 6 - 1))) 0 0 1 0 0 := by
  obtain ⟨A, hA⟩ : ∃ A, A = wstS 0 h b (up B 10 b 6 (B 10 b 6 - 1)) := ⟨_, rfl⟩
  rw [← hA]
  have p1 : ∀ g, smP A g = smP B g + (if g = 0 then (-xmin (B 1 0 4) (B 4 h 0)) else 0) + (if g = 10 then xmin (B 1 0 4) (B 4 h 0) else 0) := fun g => by
    rw [hA]
    unfold wstS pnlS
    rw [smP_o (by decide), smP_o (by decide), smP_o (by decide), smP_up hh, smP_up hh, smP_o (by decide)]
    simp only [up_app]
    (try simp )
    (try ((repeat' split) <;> omega))
  have q1 : ∀ g, g ≠ 6 → smQ N A g = smQ N B g + (if g = 14 then 1 else 0) := fun g hg => by
    rw [hA]
    unfold wstS pnlS
    rw [smQ_o (by decide), smQ_up hb, smQ_o (by decide), smQ_o (by decide), smQ_o (by decide), smQ_up hb]
    simp only [up_app]
    (try simp [hg])
    (try ((repeat' split) <;> omega))
  have v1 : ∀ f, f ≠ 7 → A 1 0 f = if f = 10 then B 1 0 10 + 1 else if f = 6 then B 1 0 6 + xmin (B 1 0 4) (B 4 h 0) else B 1 0 f := fun f hf => by
    rw [hA]
    unfold wstS pnlS
    simp only [up_app]
    simp [hf]
    (try ((repeat' split) <;> simp_all))
  have v4 : ∀ p f, f = 1 ∨ f = 3 ∨ f = 4 → A 4 p f = if f = 1 then B 4 p 1 else B 4 p f := fun p f hf => by
    rw [hA]
    unfold wstS pnlS
    simp only [up_app]
    rcases hf with rfl | rfl | rfl <;> simp
    all_goals (try ((repeat' split) <;> simp_all))
  have v10 : ∀ j f, f ≠ 12 → f ≠ 13 → f ≠ 14 → A 10 j f = if j = b ∧ f = 6 then B 10 b 6 - 1 else B 10 j f := fun j f h1 h2 h3 => by
    rw [hA]
    unfold wstS pnlS
    simp only [up_app]
    simp [h1, h2, h3]
  have v2 : A 2 0 = B 2 0 := by
    rw [hA]
    unfold wstS pnlS
    funext f
    simp only [up_app]
    simp
  clear hA
  refine ⟨by omega, ?_, ?_, ?_, fun p hp => ?_, fun j hj => ?_, v2⟩
  · rw [v1 _ (by decide), v1 _ (by decide), v1 _ (by decide), v1 _ (by decide), v1 _ (by decide), v1 _ (by decide)]; simp
  · unfold mon; rw [v1 6 (by decide)]; simp only [p1]; simp <;> omega
  · simp only [q1 12 (by decide), q1 13 (by decide), q1 14 (by decide)]; simp
  · rw [v4 p 1 (by simp), v4 p 3 (by simp), v4 p 4 (by simp)]; simp
  · rw [v10 j 6 (by decide) (by decide) (by decide)]
    refine ⟨?_, fun f h6 h1 h2 h3 => by rw [v10 j f h1 h2 h3, if_neg (fun z => h6 z.2)]⟩
    by_cases e : j = b
    · subst e; simp; omega
    · simp [e]
