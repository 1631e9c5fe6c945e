/-! what is kept for ever: the calls -/
/-! what is kept for ever: the calls -/
theorem LQ.cg {c : Int} {F G : Nat → Int} (h : LQ c F) (e : ∀ f, tlf f → G f = F f) : LQ c G := by
  unfold LQ at h ⊢
  rw [e 0 (Or.inl rfl), e 2 (Or.inr (by omega)), e 3 (Or.inr (by omega)), e 4 (Or.inr (by omega)), e 5 (Or.inr (by omega)), e 6 (Or.inr (by omega)), e 7 (Or.inr (by omega))]
  exact h
theorem AN_cg {N : Nat} {b r p e b' r' p' e' : Nat → Nat} {d m : Nat} (h : ∀ j, j < N → b' j = b j ∧ r' j = r j ∧ p' j = p j ∧ e' j = e j) : AN N b' r' p' e' d m = AN N b r p e d m := sn_congr (fun j hj => by obtain ⟨h1, h2, h3, h4⟩ := h j hj; rw [h1, h2, h3, h4])
theorem VN_le {N N' : Nat} {b r p e W b' r' p' e' W' : Nat → Nat} (hW : ∀ d, W' d ≤ W d) (hA : ∀ d m, AN N' b' r' p' e' d m ≤ AN N b r p e d m) (h : ∀ m, VN N b r p e W (m + 1) (m + 1) = 0) : ∀ m, VN N' b' r' p' e' W' (m + 1) (m + 1) = 0 := fun m => by
  have a := vn_mono hW hA (d := m + 1) (m + 1)
  have b := h m
  omega
theorem Fut.cg {u v N : Nat} {C D : xS} (h : tlq u v N C D) (g : Fut v N D) : Fut u N C := by
  obtain ⟨e2, e⟩ := h
  have er : ∀ j, j < N → ∀ f, tlf f → rwT u C j f = rwT v D j f := e
  have el : ∀ j, j < N → lb (rwT u C) j = lb (rwT v D) j ∧ lr (D 2 v 2) (rwT u C) j = lr (D 2 v 2) (rwT v D) j ∧ lp (rwT u C) j = lp (rwT v D) j ∧ ld (rwT u C) j = ld (rwT v D) j := fun j hj => by
    unfold lb lr lp ld
    rw [er j hj 0 (Or.inl rfl), er j hj 2 (Or.inr (by omega)), er j hj 3 (Or.inr (by omega)), er j hj 4 (Or.inr (by omega)), er j hj 5 (Or.inr (by omega))]
    exact ⟨rfl, rfl, rfl, rfl⟩
  refine ⟨fun j hj => ?_, ?_, ?_⟩
  · rw [e2]; exact (g.1 j hj).cg (er j hj)
  · refine Nat.le_trans (Nat.le_of_eq (sn_congr (fun j hj => ?_))) g.2.1
    rw [(el j hj).1, (el j hj).2.2.1]
  · rw [e2]
    refine VN_le (fun d => Nat.le_of_eq (sn_congr (fun j hj => ?_))) (fun d m => Nat.le_of_eq (AN_cg el)) g.2.2
    unfold lw1 w1
    rw [er j hj 6 (Or.inr (by omega)), er j hj 7 (Or.inr (by omega))]
theorem Fut.tck {t N : Nat} {S : xS} (h : Fut t N S) : Fut t N (tckT t N S) := by
  have h0 := (mis_V h.1).mpr (h.2.2 0)
  refine ⟨tck_LR h.1 h0, ?_, fun m => ?_⟩
  · refine Nat.le_trans (Nat.le_of_eq (sn_congr (fun j hj => ?_))) h.2.1
    obtain ⟨e1, e2, e3⟩ := tck_lb (S := S) (t := t) hj h0
    rw [e1, e2]
  · rw [tck_V h.1 h0]; exact h.2.2 (m + 1)
theorem xfin_Q {c : Int} {F : Nat → Int} (h : LQ c F) (hc : 0 ≤ c) : LQ c (xfin F) := by
  have e0 : xfin F 0 = 1 := rfl
  have e2 : xfin F 2 = F 2 := rfl
  have e3 : xfin F 3 = F 3 := rfl
  have e4 : xfin F 4 = F 4 := rfl
  have e5 : xfin F 5 = -1 := rfl
  have e6 : xfin F 6 = 0 := rfl
  have e7 : xfin F 7 = -1 := rfl
  unfold LQ at h ⊢
  rw [e0, e2, e3, e4, e5, e6, e7]
  exact ⟨by omega, h.2.1, h.2.2.1, by omega, by omega, by omega⟩
theorem Fut.fin {t N i : Nat} {S : xS} (h : Fut t N S) (hi : i < N) (hc : 0 ≤ S 2 t 2) : Fut t N (rwS 10 (32 * t + i) (xfin (S 10 (32 * t + i))) S) := by
  have e2 : rwS 10 (32 * t + i) (xfin (S 10 (32 * t + i))) S 2 t 2 = S 2 t 2 := by unfold rwS; rw [if_neg (by omega)]
  have er : ∀ j, rwT t (rwS 10 (32 * t + i) (xfin (S 10 (32 * t + i))) S) j = if j = i then xfin (rwT t S i) else rwT t S j := fun j => by
    unfold rwT rwS
    by_cases c : j = i
    · rw [if_pos c]; funext f; rw [if_pos ⟨rfl, by omega⟩]
    · rw [if_neg c]; funext f; rw [if_neg (by omega)]
  generalize hS : rwS 10 (32 * t + i) (xfin (S 10 (32 * t + i))) S = S1 at e2 er
  have eb : ∀ j, j < N → lb (rwT t S1) j ≤ lb (rwT t S) j ∧ (j ≠ i → lr (S 2 t 2) (rwT t S1) j = lr (S 2 t 2) (rwT t S) j) ∧ lp (rwT t S1) j = lp (rwT t S) j ∧ ld (rwT t S1) j = ld (rwT t S) j ∧ (j = i → lb (rwT t S1) j = 0) := fun j hj => by
    unfold lb lr lp ld
    rw [er j]
    by_cases c : j = i
    · rw [if_pos c]
      subst c
      rw [show xfin (rwT t S j) 0 = 1 from rfl, if_neg (by decide)]
      exact ⟨Nat.zero_le _, fun z => absurd rfl z, rfl, rfl, fun _ => rfl⟩
    · rw [if_neg c]
      exact ⟨Nat.le_refl _, fun _ => rfl, rfl, rfl, fun z => absurd z c⟩
  refine ⟨fun j hj => ?_, ?_, ?_⟩
  · rw [e2, er j]
    split
    · exact xfin_Q (h.1 i hi) hc
    · exact h.1 j hj
  · refine Nat.le_trans (sn_le (fun j hj => ?_)) h.2.1
    obtain ⟨a1, a2, a3, a4, a5⟩ := eb j hj
    rw [a3]
    exact Nat.mul_le_mul_right _ a1
  · rw [e2]
    refine VN_le (fun d => sn_le (fun j hj => ?_)) (fun d m => sn_le (fun j hj => ?_)) h.2.2
    · unfold lw1
      rw [er j]
      split
      · unfold w1; rw [show xfin (rwT t S i) 6 = 0 from rfl]; split <;> exact Nat.zero_le _
      · exact Nat.le_refl _
    · obtain ⟨a1, a2, a3, a4, a5⟩ := eb j hj
      by_cases c : j = i
      · rw [a5 c]; split <;> exact Nat.zero_le _
      · rw [a2 c, a3, a4]
        split
        · exact a1
        · exact Nat.le_refl _
theorem sm_sn {g : Nat → Int} {f : Nat → Nat} : ∀ {n : Nat}, (∀ j, j < n → g j = (f j : Int)) → sm g n = (sn f n : Int)
  | 0, _ => rfl
  | n + 1, h => by
    rw [sm_s, sn, sm_sn (fun j hj => h j (by omega)), h n (by omega)]
    omega
theorem cyc_lC {t N : Nat} {S : xS} (hL : LR (S 2 t 2) (rwT t S) N) : cycT t N S = (lC (rwT t S) N : Int) := by
  unfold cycT lC
  refine sm_sn (fun j hj => ?_)
  obtain ⟨q0, q1, q2, q3, q4, q6⟩ := hL j hj
  show (if rwT t S j 0 = 0 then xtic (rwT t S j) else 0) = _
  unfold lb
  split
  · unfold xtic
    rw [if_neg (by have := q1.1; omega)]
    have e : rwT t S j 2 = ((lp (rwT t S) j : Nat) : Int) := by unfold lp; have := q1.1; omega
    have e3 : rwT t S j 3 = (((rwT t S j 3).toNat : Nat) : Int) := by omega
    rw [e, show (120 : Int) = ((120 : Nat) : Int) from rfl, ← Int.ofNat_tdiv]
    rw [Int.natCast_mul, ← e3]
  · rw [Nat.zero_mul]; rfl
theorem xbeg_Q {o p b d c : Int} (hp : perP p) (hb : 1 ≤ b ∧ b ≤ d ∧ d ≤ p) : LQ c (xbeg o p b d c) := by
  refine ⟨Or.inl rfl, hp, hb, ⟨fun _ => Int.le_refl _, ?_⟩, fun z => ?_, Int.le_refl _⟩
  · show c ≤ c + 120; omega
  · exact absurd z (by show ¬ (0 : Int) < 0; omega)
theorem add_LR {u N : Nat} {o p b d : Int} {S : xS} (hL : LR (S 2 u 2) (rwT u S) N) (hp : perP p) (hb : 1 ≤ b ∧ b ≤ d ∧ d ≤ p) : LR (addT u N o p b d S 2 u 2) (rwT u (addT u N o p b d S)) (N + 1) := by
  have e2 : addT u N o p b d S 2 u 2 = S 2 u 2 := by unfold addT; rw [if_neg (by omega), if_neg (by omega)]
  intro j hj
  rw [e2]
  by_cases c : j = N
  · subst c
    rw [show rwT u (addT u j o p b d S) j = xbeg o p b d (S 2 u 2) from by funext f; unfold rwT addT; rw [if_neg (by omega), if_pos ⟨rfl, rfl⟩]]
    exact xbeg_Q hp hb
  · rw [show rwT u (addT u N o p b d S) j = rwT u S j from by funext f; unfold rwT addT; rw [if_neg (by omega), if_neg (by omega)]]
    exact hL j (by omega)
theorem add_rN {u N : Nat} {o p b d : Int} {S : xS} : addT u N o p b d S 10 (32 * u + N) = xbeg o p b d (S 2 u 2) := by funext f; unfold addT; rw [if_neg (by omega), if_pos ⟨rfl, rfl⟩]
theorem add_ro {u N j : Nat} {o p b d : Int} {S : xS} (h : j ≠ N) : addT u N o p b d S 10 (32 * u + j) = S 10 (32 * u + j) := by funext f; unfold addT; rw [if_neg (by omega), if_neg (by omega)]
/-- an accepted promise -/
theorem Fut.acc {t u N : Nat} {p b d : Int} {S : xS} (h : accF t u N p b d S = true) (hL : LR (S 2 t 2) (rwT t S) N) (hp : perP p) (hb : 1 ≤ b ∧ b ≤ d ∧ d ≤ p) (o : Int) : Fut t (N + 1) (addT t N o p b d S) := by
  unfold accF at h
  rw [Bool.and_eq_true, decide_eq_true_iff] at h
  have hq := tlq.cpy (t := t) (u := u) (N := N) (C := S)
  have hL1 : LR (cpyT t u N S 2 u 2) (rwT u (cpyT t u N S)) N := fun j hj => by rw [hq.1]; exact (hL j hj).cg (hq.2 j hj)
  have hL2 := add_LR (o := -1) hL1 hp hb
  have hF := Fut.mk hL2 (by have := cyc_lC hL2; have := h.1; omega) h.2
  refine hF.cg ⟨?_, fun j hj f hf => ?_⟩
  · unfold addT
    rw [if_neg (by omega), if_neg (by omega), if_neg (by omega), if_neg (by omega)]
    exact hq.1.symm
  · by_cases c : j = N
    · subst c
      rw [add_rN, add_rN, hq.1]
      have h1 : f ≠ 1 := by unfold tlf at hf; omega
      unfold xbeg
      rw [if_neg h1, if_neg h1]
    · rw [add_ro c, add_ro c]
      exact (hq.2 j (by omega) f hf).symm

