/-! what is kept for ever: texts and copies -/
theorem Fut.of {t N : Nat} {C D : xS} (h : Fut t N D) (e2 : C 2 t = D 2 t) (e : ∀ j, j < N → C 10 (32 * t + j) = D 10 (32 * t + j)) : Fut t N C := h.cg (tlq.of (by rw [e2]) e)
theorem Fut.of3 {t N : Nat} {C D : xS} (h : Fut t N D) (e : ∀ a, a = 2 ∨ a = 10 → C a = D a) : Fut t N C := h.of (by rw [e 2 (Or.inl rfl)]) (fun j _ => by rw [e 10 (Or.inr rfl)])
theorem Fut.nx {n N : Nat} {S : xS} (h : Fut 4 N S) : Fut 4 N (nx n S) := h.of3 (fun a ha => nx_o (by omega))
theorem Fut.N {n N : Nat} {lo hi : Int} {S : xS} (h : Fut 4 N S) (hP : PT n S) (e : (rdN n lo hi S).1 = true) : Fut 4 N (rdN n lo hi S).2 := h.of3 (fun a ha => (rdN_P hP e).2.2 a (by omega))
theorem Fut.upo {t N k j f : Nat} {v : Int} {S : xS} (h : Fut t N S) (hk : k ≠ 2 ∧ k ≠ 10) : Fut t N (up S k j f v) := h.of3 (fun a ha => by funext y g; rw [up_k (by omega)])
theorem Fut.q {t N i f : Nat} {v : Int} {S : xS} (h : Fut t N S) (hf : ¬ tlf f) : Fut t N (up S 10 (32 * t + i) f v) := by
  refine h.cg ⟨by rw [up_k (by decide)], fun j hj g hg => ?_⟩
  rw [up_f (fun z => hf (by rw [← z]; exact hg))]
theorem Fut.pro {n N : Nat} {S : xS} (h : Fut 4 N S) (hP : PT n S) (e : (rdPro n S).1 = true) : Fut 4 N (rdPro n S).2 := by
  unfold rdPro at e ⊢
  split
  · rename_i c
    rw [if_pos c] at e
    obtain ⟨e1, q1⟩ := bnd_t e
    rw [q1] at e ⊢
    have p1 := (rdN_P hP e1).1
    obtain ⟨e2, q2⟩ := bnd_t e
    rw [q2] at e ⊢
    have p2 := (rdN_P p1 e2).1
    obtain ⟨e3, q3⟩ := bnd_t e
    rw [q3]
    refine Fut.nx ((((h.N hP e1).N p1 e2).N p2 e3).of3 (fun a ha => ?_))
    funext y g
    unfold entS
    rw [up_k (by omega)]
    unfold rwS
    rw [if_neg (by omega)]
  · rename_i c; rw [if_neg c] at e; cases e
theorem Fut.arr {n N : Nat} {S : xS} (h : Fut 4 N S) (hP : PT n S) (e : (rdArr n S).1 = true) : Fut 4 N (rdArr n S).2 := by
  unfold rdArr at e ⊢
  obtain ⟨e1, q1⟩ := bnd_t e
  rw [q1] at e ⊢
  have p1 := PT_up (k := 4) (j := 8 * 4 + (S 1 4 3 - 1).toNat) (f := 3) (v := (rdN n 0 60 S).2 3 0 9) (rdN_P hP e1).1 (by decide)
  obtain ⟨e2, q2⟩ := bnd_t e
  rw [q2]
  exact Fut.nx ((((h.N hP e1).upo (by decide)).N p1 e2).upo (by decide))
theorem Fut.pri {n k N : Nat} {T : Int} {S : xS} (h : Fut 4 N S) (hV : VP n k N T S) (e : (rdPri n S).1 = true) : Fut 4 N (rdPri n S).2 := by
  unfold rdPri at e ⊢
  obtain ⟨e1, q1⟩ := bnd_t e
  rw [q1]
  exact Fut.nx (Fut.q (f := 9) (h.N hV.1 e1) (by unfold tlf; omega))
theorem Fut.pen {n N : Nat} {S : xS} (h : Fut 4 N S) (hP : PT n S) (e : (rdPen n S).1 = true) : Fut 4 N (rdPen n S).2 := by
  unfold rdPen at e ⊢
  obtain ⟨e1, q1⟩ := bnd_t e
  rw [q1]
  exact Fut.nx ((h.N hP e1).upo (by decide))
theorem Fut.fee {n N : Nat} {S : xS} (h : Fut 4 N S) (hP : PT n S) (e : (rdFee n S).1 = true) : Fut 4 N (rdFee n S).2 := by
  unfold rdFee at e ⊢
  obtain ⟨e1, q1⟩ := bnd_t e
  rw [q1]
  exact Fut.nx ((h.N hP e1).upo (by decide))
theorem Fut.prm {n N : Nat} {S : xS} (h : Fut 4 N S) (hP : PT n S) (e : (rdPrm n N S).1 = true) : Fut 4 (N + 1) (rdPrm n N S).2 := by
  unfold rdPrm at e ⊢
  split
  · rename_i c
    rw [if_pos c] at e
    obtain ⟨e1, q1⟩ := bnd_t e
    rw [q1] at e ⊢
    have p1 := rdN_P hP e1
    obtain ⟨e2, q2⟩ := bnd_t e
    rw [q2] at e ⊢
    have p2 := rdN_P p1.1 e2
    split
    · rename_i c2
      rw [if_pos c2] at e
      obtain ⟨e3, q3⟩ := bnd_t e
      rw [q3] at e ⊢
      have p3 := rdN_P p2.1 e3
      obtain ⟨e4, q4⟩ := bnd_t e
      rw [q4] at e ⊢
      have p4 := rdN_P p3.1 e4
      split
      · rename_i c3
        exact Fut.nx (Fut.acc c3 ((((h.N hP e1).N p1.1 e2).N p2.1 e3).N p3.1 e4).1 c2 (by have z3 := p3.2.1; have z4 := p4.2.1; omega) _)
      · rename_i c3; rw [if_neg c3] at e; cases e
    · rename_i c2; rw [if_neg c2] at e; cases e
  · rename_i c; rw [if_neg c] at e; cases e
/-- a statement, what is kept for ever with it -/
theorem rdStm_F {n k N : Nat} {T : Int} {S : xS} (h : VP n k N T S) (g : Fut 4 N S) (hT : 0 ≤ T) (e : (rdStm n N S).1 = true) : ∃ k' N', VP n k' N' T (rdStm n N S).2 ∧ Fut 4 N' (rdStm n N S).2 := by
  unfold rdStm at e ⊢
  by_cases a : isW 0 S
  · rw [if_pos a] at e ⊢; exact ⟨k, N, rdPen_V h e, g.pen h.1 e⟩
  · rw [if_neg a] at e ⊢
    by_cases b : isW 1 S
    · rw [if_pos b] at e ⊢; exact ⟨k, N, rdFee_V h e, g.fee h.1 e⟩
    · rw [if_neg b] at e ⊢
      by_cases c : isW 2 S
      · rw [if_pos c] at e ⊢
        obtain ⟨e1, q1⟩ := bnd_t e
        obtain ⟨-, v1⟩ := rdPro_V h hT e1
        have g1 := g.pro h.1 e1
        rw [q1] at e ⊢
        split
        · rename_i c3; rw [if_pos c3] at e; exact ⟨k + 1, N, rdArr_V v1 (by omega) e, g1.arr v1.1 e⟩
        · exact ⟨k + 1, N, v1, g1⟩
      · rw [if_neg c] at e ⊢
        by_cases d : isW 4 S
        · rw [if_pos d] at e ⊢
          obtain ⟨e1, q1⟩ := bnd_t e
          obtain ⟨-, v1⟩ := rdPrm_V h e1
          have g1 := g.prm h.1 e1
          rw [q1] at e ⊢
          split
          · rename_i c3; rw [if_pos c3] at e; exact ⟨k, N + 1, rdPri_V v1 (by omega) e, g1.pri v1 e⟩
          · exact ⟨k, N + 1, v1, g1⟩
        · rw [if_neg d] at e; cases e
theorem Fut.x7 {N : Nat} {S1 S : xS} (h : Fut 4 N S) (hN : N ≤ 32) (hx : xtl 7 S1 S) : Fut 4 N S1 := h.of (hx 2 4 (by omega) (by omega)) (fun j hj => hx 10 (32 * 4 + j) (by omega) (by omega))
theorem chn_F {n : Nat} {T : Int} (hT : 0 ≤ T) : ∀ {f k N : Nat} {S : xS} {r : Bool × xS}, VP n k N T S → Fut 4 N S → chn n f S r → r.1 = true → ∃ k' N', VP n k' N' T r.2 ∧ Fut 4 N' r.2
  | 0, k, N, S, r, h, g, hc, he => by
    obtain ⟨-, e⟩ := hc
    subst e
    exact ⟨k, N, h, g⟩
  | f + 1, k, N, S, r, h, g, hc, he => by
    have hN : N = (S 2 4 1).toNat := by rw [h.2.1.1]; rfl
    rcases hc with ⟨-, e⟩ | ⟨-, S1, hx, hc⟩
    · subst e; exact ⟨k, N, h, g⟩
    · rw [← hN] at hx hc
      rcases hc with ⟨c1, c2, c3⟩ | ⟨-, -, e⟩ | ⟨-, e⟩
      · obtain ⟨k2, N2, v0, g0⟩ := rdStm_F h g hT c1
        have v1 := v0.x7 hx
        refine chn_F hT (rdSem_V v1 c2).1 (Fut.of3 (g0.x7 (by have := v0.2.2.1; omega) hx) (fun a ha => ?_)) c3 he
        unfold rdSem at c2 ⊢
        split
        · exact nx_o (by omega)
        · rename_i z; rw [if_neg z] at c2; cases c2
      · subst e; cases he
      · subst e; cases he
theorem Fut.cpy {u s n N : Nat} {S : xS} (hne : s ≠ u) (h : Fut u N S) : Fut s N (cpyS u s n N S) := by
  obtain ⟨e1, e2, e10, e4, e51, e52, e25⟩ := cpyS_at (n := n) (N := N) (S := S) hne
  refine h.cg ⟨?_, fun j hj f _ => ?_⟩
  · rw [e2]; unfold cpyT; rw [if_neg (by omega), if_pos ⟨rfl, rfl, rfl⟩]
  · rw [e10]; unfold cpyT; rw [if_neg (by omega), if_neg (by omega), if_pos ⟨rfl, by omega, by omega⟩, Nat.add_sub_cancel_left]

