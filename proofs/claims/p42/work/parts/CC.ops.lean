/-! what the changes of the law leave -/
theorem EX.chg {N N' : Nat} {C D : xS} (h : EX N C) (hr : ∀ j, j < N' → RQ (D 2 0 2) (D 10 j)) (e13 : D 1 0 13 = C 1 0 13) (e10 : D 1 0 10 = C 1 0 10) (e11 : D 1 0 11 = C 1 0 11) (q : ∀ g, g = 12 ∨ g = 13 ∨ g = 14 → smQ N' D g = smQ N C g) (p : ∀ g, g = 5 ∨ g = 6 ∨ g = 7 ∨ g = 8 ∨ g = 9 → smP D g = smP C g) (m : mon D = mon C) : EX N' D := by
  obtain ⟨a1, a2, a3, a4, a5, a6, a7, a8⟩ := h
  exact ⟨hr, by rw [e13]; exact a2, by rw [q 12 (by omega), p 5 (by omega)]; exact a3, by rw [q 13 (by omega), p 6 (by omega)]; exact a4, by rw [q 14 (by omega), e10]; exact a5, by rw [p 7 (by omega), e11]; exact a6, by rw [p 8 (by omega), p 9 (by omega)]; exact a7, by rw [m]; exact a8⟩
theorem BS.mo {q : Int} {C S : xS} (h : BS q C S) : mon S = mon C := by
  unfold mon smP
  rw [h.at (x := 1) (y := 0) (by decide) (by decide) (by unfold sct; omega)]
  congr 1
  exact sm_congr (fun p hp => by rw [h.at (x := 4) (y := p) (by decide) (by decide) (by unfold sct; omega)])
/-- a new promise -/
theorem add_at {N : Nat} {o p b d : Int} {C : xS} : (∀ k j, k ≠ 2 → k ≠ 10 → addT 0 N o p b d C k j = C k j) ∧ addT 0 N o p b d C 2 0 2 = C 2 0 2 ∧ (∀ j, j ≠ N → addT 0 N o p b d C 10 j = C 10 j) ∧ addT 0 N o p b d C 10 N = xbeg o p b d (C 2 0 2) := by
  refine ⟨fun k j h1 h2 => ?_, ?_, fun j hj => ?_, ?_⟩
  · funext f; unfold addT; rw [if_neg (by omega), if_neg (by omega)]
  · unfold addT; rw [if_neg (by omega), if_neg (by omega)]
  · funext f; unfold addT; rw [if_neg (by omega), if_neg (by omega)]
  · funext f; unfold addT; rw [if_neg (by omega), if_pos ⟨rfl, by omega⟩]
theorem smP_cg {C D : xS} (h : ∀ p, p < 4 → D 4 p = C 4 p) (g : Nat) : smP D g = smP C g := sm_congr (fun p hp => by show D 4 p g = C 4 p g; rw [h p hp])
theorem smQ_cg {N g : Nat} {C D : xS} (h : ∀ j, j < N → D 10 j g = C 10 j g) : smQ N D g = smQ N C g := sm_congr (fun j hj => h j hj)
theorem smQ_s {N g : Nat} {D : xS} : smQ (N + 1) D g = smQ N D g + D 10 N g := rfl
theorem EX.add {N : Nat} {o p b d : Int} {C : xS} (h : EX N C) (ht : 0 ≤ C 2 0 2) (hp : 0 ≤ p) (hb : 0 ≤ b) : EX (N + 1) (addT 0 N o p b d C) := by
  obtain ⟨a1, a2, a3, a4⟩ := add_at (N := N) (o := o) (p := p) (b := b) (d := d) (C := C)
  generalize addT 0 N o p b d C = D at a1 a2 a3 a4
  refine h.chg (fun j hj => ?_) (by rw [a1 1 0 (by decide) (by decide)]) (by rw [a1 1 0 (by decide) (by decide)]) (by rw [a1 1 0 (by decide) (by decide)]) (fun g hg => ?_) (fun g _ => smP_cg (fun p _ => a1 4 p (by decide) (by decide)) g) ?_
  · rw [a2]
    by_cases c : j = N
    · subst c
      rw [a4]
      have q0 : xbeg o p b d (C 2 0 2) 0 = 0 := rfl
      have q2 : xbeg o p b d (C 2 0 2) 2 = p := rfl
      have q3 : xbeg o p b d (C 2 0 2) 3 = b := rfl
      have q5 : xbeg o p b d (C 2 0 2) 5 = C 2 0 2 := rfl
      have q6 : xbeg o p b d (C 2 0 2) 6 = 0 := rfl
      have q7 : xbeg o p b d (C 2 0 2) 7 = -1 := rfl
      have q16 : xbeg o p b d (C 2 0 2) 16 = 0 := rfl
      unfold RQ
      rw [q0, q2, q3, q5, q6, q7, q16]
      exact ⟨fun z => by omega, hb, by omega, fun z => by omega, rfl⟩
    · rw [a3 j c]; exact h.1 j (by omega)
  · rw [smQ_s, smQ_cg (fun j hj => by rw [a3 j (by omega)]), a4]
    have : xbeg o p b d (C 2 0 2) g = 0 := by rcases hg with rfl | rfl | rfl <;> rfl
    omega
  · unfold mon
    rw [a1 1 0 (by decide) (by decide), smP_cg (fun p _ => a1 4 p (by decide) (by decide))]
/-- one row changed -/
theorem EX.row {N i : Nat} {G : Nat → Int} {C : xS} (h : EX N C) (hG : RQ (C 2 0 2) G) (e : ∀ g, g = 12 ∨ g = 13 ∨ g = 14 → G g = C 10 i g) : EX N (rwS 10 i G C) := by
  have a1 : ∀ k j, k ≠ 10 → rwS 10 i G C k j = C k j := fun k j hk => by funext f; unfold rwS; rw [if_neg (by omega)]
  have a3 : ∀ j, j ≠ i → rwS 10 i G C 10 j = C 10 j := fun j hj => by funext f; unfold rwS; rw [if_neg (by omega)]
  have a4 : rwS 10 i G C 10 i = G := by funext f; unfold rwS; rw [if_pos ⟨rfl, rfl⟩]
  generalize rwS 10 i G C = D at a1 a3 a4
  refine h.chg (fun j hj => ?_) (by rw [a1 1 0 (by decide)]) (by rw [a1 1 0 (by decide)]) (by rw [a1 1 0 (by decide)]) (fun g hg => smQ_cg (fun j hj => ?_)) (fun g _ => smP_cg (fun p _ => a1 4 p (by decide)) g) ?_
  · rw [a1 2 0 (by decide)]
    by_cases c : j = i
    · rw [c, a4]; exact hG
    · rw [a3 j c]; exact h.1 j hj
  · by_cases c : j = i
    · rw [c, a4]; exact e g hg
    · rw [a3 j c]
  · unfold mon
    rw [a1 1 0 (by decide), smP_cg (fun p _ => a1 4 p (by decide))]
theorem EX.fin {N i : Nat} {C : xS} (h : EX N C) (hi : i < N) (ht : 0 ≤ C 2 0 2) (h2 : 0 ≤ C 10 i 2) (h3 : 0 ≤ C 10 i 3) : EX N (rwS 10 i (xfin (C 10 i)) C) := by
  have h9 := h.1 i hi
  refine h.row ?_ (fun g hg => by rcases hg with rfl | rfl | rfl <;> rfl)
  unfold RQ at h9 ⊢
  have q0 : xfin (C 10 i) 0 = 1 := rfl
  have q2 : xfin (C 10 i) 2 = C 10 i 2 := rfl
  have q3 : xfin (C 10 i) 3 = C 10 i 3 := rfl
  have q5 : xfin (C 10 i) 5 = -1 := rfl
  have q6 : xfin (C 10 i) 6 = 0 := rfl
  have q7 : xfin (C 10 i) 7 = -1 := rfl
  have q9 : xfin (C 10 i) 9 = -1 := rfl
  have q10 : xfin (C 10 i) 10 = -1 := rfl
  have q11 : xfin (C 10 i) 11 = 0 := rfl
  have q16 : xfin (C 10 i) 16 = C 10 i 16 := rfl
  rw [q0, q2, q3, q5, q6, q7, q9, q10, q11, q16]
  exact ⟨fun _ => ⟨rfl, rfl, rfl, rfl, rfl⟩, h3, by omega, fun z => by omega, h9.2.2.2.2⟩
theorem up_rw (C : xS) (i f : Nat) (v : Int) : up C 10 i f v = rwS 10 i (fun g => if g = f then v else C 10 i g) C := by
  funext k j g
  unfold rwS
  rw [up_app]
  by_cases c : k = 10 ∧ j = i
  · rw [if_pos c, c.1, c.2]
    by_cases c2 : g = f
    · rw [if_pos ⟨rfl, rfl, c2⟩]; show v = (if g = f then v else C 10 i g); rw [if_pos c2]
    · rw [if_neg (fun z => c2 z.2.2)]; show C 10 i g = (if g = f then v else C 10 i g); rw [if_neg c2]
  · rw [if_neg (fun z => c ⟨z.1, z.2.1⟩), if_neg c]
theorem EX.ask {N i : Nat} {a : Int} {C : xS} (h : EX N C) (hi : i < N) (h0 : C 10 i 0 = 0) : EX N (up C 10 i 9 a) := by
  rw [up_rw]
  have h9 := h.1 i hi
  refine h.row ?_ (fun g hg => by rw [if_neg (by omega)])
  unfold RQ at h9 ⊢
  simp (decide := true) only [if_false, if_true]
  exact ⟨fun z => by omega, h9.2⟩
/-- a split -/
theorem div_at {N i : Nat} {a : Int} {C : xS} (hi : i < N) : (∀ k j, k ≠ 2 → k ≠ 10 → divS 0 N i a C k j = C k j) ∧ divS 0 N i a C 2 0 2 = C 2 0 2 ∧ (∀ j, j ≠ N → j ≠ i → divS 0 N i a C 10 j = C 10 j) ∧ divS 0 N i a C 10 i = xgr1 a (C 10 i) ∧ divS 0 N i a C 10 N = xgr2 a (C 10 i) (xbeg (C 10 i 1) (C 10 i 2) (C 10 i 3 - a) (C 10 i 4) (C 2 0 2)) := by
  refine ⟨fun k j h1 h2 => ?_, ?_, fun j hj hj2 => ?_, ?_, ?_⟩
  · funext f; unfold divS; rw [if_neg (by omega), if_neg (by omega), if_neg (by omega)]
  · unfold divS; rw [if_neg (by omega), if_neg (by omega), if_neg (by omega)]
  · funext f; unfold divS; rw [if_neg (by omega), if_neg (by omega), if_neg (by omega)]
  · funext f; unfold divS; rw [e32, if_pos ⟨rfl, rfl⟩]
  · funext f; unfold divS; rw [e32, e32, if_neg (by omega), if_pos ⟨rfl, rfl⟩]
theorem EX.div {N i : Nat} {a : Int} {C : xS} (h : EX N C) (hi : i < N) (h0 : C 10 i 0 = 0) (ha : 1 ≤ a ∧ a ≤ C 10 i 3 - 1) (h6 : 0 ≤ C 10 i 6) : EX (N + 1) (divS 0 N i a C) := by
  obtain ⟨a1, a2, a3, a4, a5⟩ := div_at (N := N) (i := i) (a := a) (C := C) hi
  generalize divS 0 N i a C = D at a1 a2 a3 a4 a5
  have h9 := h.1 i hi
  refine h.chg (fun j hj => ?_) (by rw [a1 1 0 (by decide) (by decide)]) (by rw [a1 1 0 (by decide) (by decide)]) (by rw [a1 1 0 (by decide) (by decide)]) (fun g hg => ?_) (fun g _ => smP_cg (fun p _ => a1 4 p (by decide) (by decide)) g) ?_
  · rw [a2]
    by_cases c : j = N
    · subst c
      rw [a5]
      generalize hR : xbeg (C 10 i 1) (C 10 i 2) (C 10 i 3 - a) (C 10 i 4) (C 2 0 2) = R
      have q0 : xgr2 a (C 10 i) R 0 = 0 := by rw [← hR]; rfl
      have q2 : xgr2 a (C 10 i) R 2 = C 10 i 2 := by rw [← hR]; rfl
      have q3 : xgr2 a (C 10 i) R 3 = C 10 i 3 - a := by rw [← hR]; rfl
      have q5 : xgr2 a (C 10 i) R 5 = C 10 i 5 := rfl
      have q6 : xgr2 a (C 10 i) R 6 = xmax 0 (C 10 i 6 - a) := rfl
      have q7 : xgr2 a (C 10 i) R 7 = C 10 i 7 := rfl
      have q8 : xgr2 a (C 10 i) R 8 = C 10 i 8 := rfl
      have q16 : xgr2 a (C 10 i) R 16 = 0 := by rw [← hR]; rfl
      unfold RQ at h9 ⊢
      rw [q0, q2, q3, q5, q6, q7, q8, q16]
      refine ⟨fun z => by omega, ?_, h9.2.2.1, h9.2.2.2.1, rfl⟩
      unfold xmax; split <;> omega
    · by_cases c2 : j = i
      · rw [c2, a4]
        have q0 : xgr1 a (C 10 i) 0 = C 10 i 0 := rfl
        have q2 : xgr1 a (C 10 i) 2 = C 10 i 2 := rfl
        have q3 : xgr1 a (C 10 i) 3 = a := rfl
        have q5 : xgr1 a (C 10 i) 5 = C 10 i 5 := rfl
        have q6 : xgr1 a (C 10 i) 6 = xmin (C 10 i 6) a := rfl
        have q7 : xgr1 a (C 10 i) 7 = C 10 i 7 := rfl
        have q8 : xgr1 a (C 10 i) 8 = C 10 i 8 := rfl
        have q16 : xgr1 a (C 10 i) 16 = C 10 i 16 := rfl
        unfold RQ at h9 ⊢
        rw [q0, q2, q3, q5, q6, q7, q8, q16]
        refine ⟨fun z => by omega, ?_, h9.2.2⟩
        unfold xmin; split <;> omega
      · rw [a3 j c c2]; exact h.1 j (by omega)
  · rw [smQ_s, a5]
    have e1 : smQ N D g = smQ N C g := smQ_cg (fun j hj => by
      by_cases c2 : j = i
      · rw [c2, a4]; rcases hg with rfl | rfl | rfl <;> rfl
      · rw [a3 j (by omega) c2])
    have e2 : xgr2 a (C 10 i) (xbeg (C 10 i 1) (C 10 i 2) (C 10 i 3 - a) (C 10 i 4) (C 2 0 2)) g = 0 := by rcases hg with rfl | rfl | rfl <;> rfl
    rw [e1, e2]; omega
  · unfold mon
    rw [a1 1 0 (by decide) (by decide), smP_cg (fun p _ => a1 4 p (by decide) (by decide))]
/-- a sale -/
theorem sel_all {N j q o : Nat} {T : Int} {C : xS} (hV : VS 0 4 N T C) (h : EX N C) (hj : j < N) (hq : q < 4) (ho : C 10 j 1 = (o : Int)) (hne : o ≠ q) (hp : 0 ≤ C 10 j 9) (hc : C 10 j 9 ≤ C 4 q 0) : EX N (selS 0 j q o C) ∧ mon (selS 0 j q o C) = mon C ∧ selS 0 j q o C 10 j 1 = (q : Int) ∧ selS 0 j q o C 10 j 9 = -1 ∧ selS 0 j q o C 5 0 1 = C 5 0 1 + 1 ∧ selS 0 j q o C 25 0 (8 * o + q) = C 25 0 (8 * o + q) + 1 ∧ (∀ f, f ≠ 8 * o + q → selS 0 j q o C 25 0 f = C 25 0 f) ∧ (∀ k, (k ≠ 1 ∧ k ≠ 4 ∧ k ≠ 5 ∧ k ≠ 10 ∧ k ≠ 25) → selS 0 j q o C k = C k) := by
  have ho4 : o < 4 := by have := (hV.O hj).1; omega
  have hm := h.2.2.2.2.2.2.2
  have hlo := hV.le0 ho4
  have hlq := hV.le0 hq
  have hg := hV.2.2.2.1
  unfold GQ at hg
  have hsum : C 4 q 0 + C 4 o 0 ≤ 20000 := by
    have h1 := sm_ge (g := fun p => if p = o then 0 else C 4 p 0) (n := 4) (h := q) (fun p hp => by split; exact Int.le_refl _; exact (hV.le0 hp).1) hq
    have h2 : sm (fun p => C 4 p 0) 4 = sm (fun p => if p = o then 0 else C 4 p 0) 4 + C 4 o 0 := by
      have h3 := sm_one (g := fun p => if p = o then 0 else C 4 p 0) (h := fun p => C 4 p 0) (i := o) (n := 4) ho4 (fun p _ hne => by rw [if_neg hne])
      rw [h3]
      rw [if_pos rfl]
      omega
    have h4 := h1.2
    rw [if_neg (Ne.symm hne)] at h4
    unfold mon smP at hm
    omega
  have hfee : 0 ≤ feeS 0 j C ∧ feeS 0 j C ≤ C 10 j 9 := by
    unfold feeS
    have a1 : 0 ≤ C 10 j 9 * C 1 0 5 := Int.mul_nonneg hp hg.2.2.1.1
    have a2 : C 10 j 9 * C 1 0 5 ≤ C 10 j 9 * 100 := Int.mul_le_mul_of_nonneg_left (by omega) hp
    rw [Int.tdiv_eq_ediv_of_nonneg a1]
    omega
  obtain ⟨D, hD⟩ : ∃ D, D = selS 0 j q o C := ⟨_, rfl⟩
  rw [← hD]
  unfold selS at hD
  simp only [e08] at hD
  have hx : xmin 1000000 (C 4 o 0 + (C 10 j 9 - feeS 0 j C)) = C 4 o 0 + (C 10 j 9 - feeS 0 j C) := by unfold xmin; split <;> omega
  rw [hx] at hD
  have p1 : ∀ g, smP D g = smP C g - (if g = 0 then feeS 0 j C else 0) := fun g => by
    rw [hD, smP_o (by decide), smP_o (by decide), smP_o (by decide), smP_o (by decide), smP_o (by decide), smP_o (by decide), smP_up ho4, smP_up hq]
    simp only [up_app]
    simp [hne, Ne.symm hne]
    split <;> omega
  have v1 : ∀ f, f ≠ 6 → D 1 0 f = C 1 0 f := fun f hf => by rw [hD]; simp only [up_app]; simp [hf]
  have v16 : D 1 0 6 = C 1 0 6 + feeS 0 j C := by rw [hD]; simp only [up_app]; simp
  have v10 : ∀ i f, f ≠ 1 → f ≠ 9 → D 10 i f = C 10 i f := fun i f h1 h9 => by rw [hD]; simp only [up_app]; simp [h1, h9]
  have v10o : ∀ i, i ≠ j → D 10 i = C 10 i := fun i hi => by funext f; rw [hD]; simp only [up_app]; simp [hi]
  have v101 : D 10 j 1 = (q : Int) := by rw [hD]; simp only [up_app]; simp
  have v109 : D 10 j 9 = -1 := by rw [hD]; simp only [up_app]; simp
  have v5 : D 5 0 1 = C 5 0 1 + 1 := by rw [hD]; simp only [up_app]; simp
  have v25 : D 25 0 (8 * o + q) = C 25 0 (8 * o + q) + 1 := by rw [hD]; simp only [up_app]; simp
  have v25o : ∀ f, f ≠ 8 * o + q → D 25 0 f = C 25 0 f := fun f hf => by rw [hD]; simp only [up_app]; simp [hf]
  have vo : ∀ k, (k ≠ 1 ∧ k ≠ 4 ∧ k ≠ 5 ∧ k ≠ 10 ∧ k ≠ 25) → D k = C k := fun k hk => by funext y f; rw [hD]; simp only [up_app]; simp [hk]
  have vm : mon D = mon C := by unfold mon; rw [v16, p1, if_pos rfl]; omega
  refine ⟨h.chg (fun i hi => ?_) (v1 13 (by decide)) (v1 10 (by decide)) (v1 11 (by decide)) (fun g hg => smQ_cg (fun i _ => v10 i g (by omega) (by omega))) (fun g hg => by rw [p1, if_neg (by omega)]; omega) vm, vm, v101, v109, v5, v25, v25o, vo⟩
  rw [vo 2 (by decide)]
  by_cases ci : i = j
  · rw [ci]
    have h9 := h.1 j hj
    unfold RQ at h9 ⊢
    rw [v10 j 0 (by decide) (by decide), v10 j 2 (by decide) (by decide), v10 j 3 (by decide) (by decide), v10 j 5 (by decide) (by decide), v10 j 6 (by decide) (by decide), v10 j 7 (by decide) (by decide), v10 j 8 (by decide) (by decide), v10 j 10 (by decide) (by decide), v10 j 11 (by decide) (by decide), v10 j 16 (by decide) (by decide), v109]
    exact ⟨fun z => ⟨(h9.1 z).1, (h9.1 z).2.1, rfl, (h9.1 z).2.2.2⟩, h9.2⟩
  · rw [v10o i ci]; exact h.1 i hi
/-- a lease -/
theorem lea_all {N j q o : Nat} {T k c : Int} {C : xS} (hV : VS 0 4 N T C) (h : EX N C) (hj : j < N) (h0 : C 10 j 0 = 0) (hq : q < 4) (ho : C 10 j 1 = (o : Int)) (hne : o ≠ q) (hc : 0 ≤ c ∧ c ≤ C 4 q 0) : EX N (leaS j q o k c C) ∧ mon (leaS j q o k c C) = mon C ∧ leaS j q o k c C 10 j 10 = (q : Int) ∧ leaS j q o k c C 10 j 11 = k ∧ (∀ k', (k' ≠ 4 ∧ k' ≠ 10) → leaS j q o k c C k' = C k') := by
  have ho4 : o < 4 := by have := (hV.O hj).1; omega
  have hm := h.2.2.2.2.2.2.2
  have hlo := hV.le0 ho4
  have hlq := hV.le0 hq
  have hg := hV.2.2.2.1
  unfold GQ at hg
  have hsum : C 4 q 0 + C 4 o 0 ≤ 20000 := by
    have h1 := sm_ge (g := fun p => if p = o then 0 else C 4 p 0) (n := 4) (h := q) (fun p hp => by split; exact Int.le_refl _; exact (hV.le0 hp).1) hq
    have h2 : sm (fun p => C 4 p 0) 4 = sm (fun p => if p = o then 0 else C 4 p 0) 4 + C 4 o 0 := by
      have h3 := sm_one (g := fun p => if p = o then 0 else C 4 p 0) (h := fun p => C 4 p 0) (i := o) (n := 4) ho4 (fun p _ hne => by rw [if_neg hne])
      rw [h3]
      rw [if_pos rfl]
      omega
    have h4 := h1.2
    rw [if_neg (Ne.symm hne)] at h4
    unfold mon smP at hm
    omega
  obtain ⟨D, hD⟩ : ∃ D, D = leaS j q o k c C := ⟨_, rfl⟩
  rw [← hD]
  unfold leaS at hD
  simp only [e08, e32] at hD
  have hx : xmin 1000000 (C 4 o 0 + c) = C 4 o 0 + c := by unfold xmin; split <;> omega
  rw [hx] at hD
  have p1 : ∀ g, smP D g = smP C g := fun g => by
    rw [hD, smP_o (by decide), smP_o (by decide), smP_up ho4, smP_up hq, up_oth (by omega)]
    split <;> omega
  have vo : ∀ k', (k' ≠ 4 ∧ k' ≠ 10) → D k' = C k' := fun k hk => by funext y f; rw [hD]; simp only [up_app]; simp [hk]
  have v10 : ∀ i f, f ≠ 10 → f ≠ 11 → D 10 i f = C 10 i f := fun i f h1 h9 => by rw [hD]; simp only [up_app]; simp [h1, h9]
  have v10o : ∀ i, i ≠ j → D 10 i = C 10 i := fun i hi => by funext f; rw [hD]; simp only [up_app]; simp [hi]
  have v1 : D 10 j 10 = (q : Int) := by rw [hD]; simp only [up_app]; simp
  have v2 : D 10 j 11 = k := by rw [hD]; simp only [up_app]; simp
  have vm : mon D = mon C := by unfold mon; rw [vo 1 (by decide), p1]
  refine ⟨h.chg (fun i hi => ?_) (by rw [vo 1 (by decide)]) (by rw [vo 1 (by decide)]) (by rw [vo 1 (by decide)]) (fun g hg => smQ_cg (fun i _ => v10 i g (by omega) (by omega))) (fun g _ => p1 g) vm, vm, v1, v2, vo⟩
  rw [vo 2 (by decide)]
  by_cases ci : i = j
  · rw [ci]
    have h9 := h.1 j hj
    unfold RQ at h9 ⊢
    rw [v10 j 0 (by decide) (by decide), v10 j 2 (by decide) (by decide), v10 j 3 (by decide) (by decide), v10 j 5 (by decide) (by decide), v10 j 6 (by decide) (by decide), v10 j 7 (by decide) (by decide), v10 j 8 (by decide) (by decide), v10 j 16 (by decide) (by decide)]
    exact ⟨fun z => by omega, h9.2⟩
  · rw [v10o i ci]; exact h.1 i hi
/-- bids, work -/
theorem EX.p {N i f : Nat} {v : Int} {C : xS} (h : EX N C) (hi : i < 4) (hf : f = 1 ∨ f = 2 ∨ f = 3 ∨ f = 4) : EX N (up C 4 i f v) := by
  have p1 : ∀ g, g ≠ f → smP (up C 4 i f v) g = smP C g := fun g hg => by rw [smP_up hi, if_neg hg]; omega
  refine h.chg (fun j hj => ?_) (up_k (by decide)) (up_k (by decide)) (up_k (by decide)) (fun g _ => smQ_o (by decide)) (fun g hg => p1 g (by omega)) ?_
  · rw [up_k (by decide), up_oth (by omega)]; exact h.1 j hj
  · unfold mon; rw [up_k (by decide), p1 0 (by omega)]
/-! predictions -/
theorem gb_fact {p d : Int} {N : Nat} {C : xS} : ∀ k : Nat, (0 ≤ gbF p d N C k ∧ gbF p d N C k ≤ (k : Int)) ∧ (0 < gbF p d N C k → accF 0 5 N p (gbF p d N C k) d C = true) ∧ ∀ b : Int, gbF p d N C k < b → b ≤ (k : Int) → ¬ accF 0 5 N p b d C = true
  | 0 => ⟨⟨Int.le_refl _, Int.le_refl _⟩, fun h => absurd h (by unfold gbF; decide), fun b h1 h2 => by unfold gbF at h1; omega⟩
  | k + 1 => by
    obtain ⟨h1, h2, h3⟩ := gb_fact (p := p) (d := d) (N := N) (C := C) k
    unfold gbF
    by_cases c : accF 0 5 N p ((k + 1 : Nat) : Int) d C = true
    · rw [if_pos c]
      exact ⟨⟨by omega, Int.le_refl _⟩, fun _ => c, fun b a1 a2 => by omega⟩
    · rw [if_neg c]
      refine ⟨⟨h1.1, by omega⟩, h2, fun b a1 a2 z => ?_⟩
      by_cases e : b = ((k + 1 : Nat) : Int)
      · rw [e] at z; exact c z
      · exact h3 b a1 (by omega) z
theorem div_dem {N i : Nat} {a t : Int} {C : xS} (hi : i < N) (h0 : C 10 i 0 = 0) : demF 0 (N + 1) t (divS 0 N i a C) = demF 0 N t C := by
  obtain ⟨a1, a2, a3, a4, a5⟩ := div_at (N := N) (i := i) (a := a) (C := C) hi
  generalize divS 0 N i a C = D at a1 a2 a3 a4 a5
  have hd : demF 0 N t D = demF 0 N t C + ((if D 10 (32 * 0 + i) 0 = 0 then xdem t (D 10 (32 * 0 + i)) else 0) - (if C 10 (32 * 0 + i) 0 = 0 then xdem t (C 10 (32 * 0 + i)) else 0)) := sm_one (g := fun j => if C 10 (32 * 0 + j) 0 = 0 then xdem t (C 10 (32 * 0 + j)) else 0) (h := fun j => if D 10 (32 * 0 + j) 0 = 0 then xdem t (D 10 (32 * 0 + j)) else 0) hi (fun j hj hne => by rw [e32, a3 j (by omega) hne])
  have hs : demF 0 (N + 1) t D = demF 0 N t D + (if D 10 (32 * 0 + N) 0 = 0 then xdem t (D 10 (32 * 0 + N)) else 0) := rfl
  rw [hs, hd, e32, e32, a4, a5]
  generalize hR : xbeg (C 10 i 1) (C 10 i 2) (C 10 i 3 - a) (C 10 i 4) (C 2 0 2) = R
  have q0 : xgr2 a (C 10 i) R 0 = 0 := by rw [← hR]; rfl
  have q2 : xgr2 a (C 10 i) R 2 = C 10 i 2 := by rw [← hR]; rfl
  have q3 : xgr2 a (C 10 i) R 3 = C 10 i 3 - a := by rw [← hR]; rfl
  have q4 : xgr2 a (C 10 i) R 4 = C 10 i 4 := by rw [← hR]; rfl
  have r0 : xgr1 a (C 10 i) 0 = C 10 i 0 := rfl
  have r2 : xgr1 a (C 10 i) 2 = C 10 i 2 := rfl
  have r3 : xgr1 a (C 10 i) 3 = a := rfl
  have r4 : xgr1 a (C 10 i) 4 = C 10 i 4 := rfl
  rw [q0, r0, h0, if_pos rfl, if_pos rfl]
  unfold xdem
  rw [q2, q3, q4, r2, r3, r4]
  split
  · omega
  · generalize Int.tdiv (t - C 10 i 4) (C 10 i 2) + 1 = z
    rw [Int.sub_mul]
    omega
