/-! the class: what stays true while it reads -/
theorem VS.pros {s n N : Nat} {T o p b d : Int} {S : xS} (h : VS s n N T S) (hN : N < 20) (ho : 0 ≤ o ∧ o < n) (hp : 1 ≤ p ∧ p ≤ 120) (hb : 1 ≤ b) (hd : b ≤ d ∧ d ≤ p) : VS s n (N + 1) T (addT s N o p b d S) := by
  obtain ⟨hV, h2, h3, h4, h5, h6, h7⟩ := h
  have e : ∀ k, k ≠ 2 → k ≠ 10 → addT s N o p b d S k = S k := fun k hk hk2 => by funext j f; unfold addT; rw [if_neg (by omega), if_neg (by omega)]
  have et : addT s N o p b d S 2 s 2 = S 2 s 2 := by unfold addT; rw [if_neg (by omega), if_neg (by omega)]
  have htm := hV.2.2.1
  refine ⟨hV.add (by omega) hp (by omega) (by omega), by omega, h3, by rw [e 1 (by decide) (by decide)]; exact h4, fun q hq => by rw [e 4 (by decide) (by decide)]; exact h5 q hq, fun j hj => ?_, by rw [e 5 (by decide) (by decide), e 25 (by decide) (by decide)]; exact h7⟩
  rw [et]
  by_cases c : j = N
  · subst c
    have er : addT s j o p b d S 10 (32 * s + j) = xbeg o p b d (S 2 s 2) := by funext f; unfold addT; rw [if_neg (by omega), if_pos ⟨rfl, rfl⟩]
    rw [er]
    show (0 ≤ o ∧ o < n) ∧ ((0 : Int) < 0 → 0 ≤ (-1 : Int) ∧ (-1 : Int) < n) ∧ (-1 ≤ (-1 : Int) ∧ (-1 : Int) < n) ∧ (-1 ≤ (-1 : Int) ∧ (-1 : Int) ≤ 99999) ∧ (0 ≤ (0 : Int) ∧ (0 : Int) ≤ 50) ∧ ((0 : Int) < 0 → 0 ≤ (-1 : Int) ∧ (-1 : Int) < n) ∧ ((0 : Int) = 0 → (-1 : Int) = -1) ∧ (0 ≤ (0 : Int) ∧ 0 ≤ T) ∧ (0 ≤ (0 : Int) ∧ 0 ≤ T) ∧ (0 ≤ (0 : Int) ∧ 0 ≤ T) ∧ (b ≤ d ∧ d ≤ p) ∧ ((0 : Int) < 0 → S 2 s 2 < (-1 : Int))
    omega
  · have er : addT s N o p b d S 10 (32 * s + j) = S 10 (32 * s + j) := by funext f; unfold addT; rw [if_neg (by omega), if_neg (by omega)]
    rw [er]
    exact h6 j (by omega)
theorem VS.qrows {s n N j : Nat} {T : Int} {S : xS} {F : Nat → Int} (h : VS s n N T S) (hj : j < N) (hT : TQ (S 2 s 2) T F) (hO : OQ n (S 2 s 2) T F) : VS s n N T (rwS 10 (32 * s + j) F S) := by
  obtain ⟨⟨a1, a2, a3, a4⟩, h2, h3, h4, h5, h6, h7⟩ := h
  have e : ∀ k, k ≠ 10 → rwS 10 (32 * s + j) F S k = S k := fun k hk => by funext y f; unfold rwS; rw [if_neg (by omega)]
  refine ⟨⟨by rw [e 2 (by decide)]; exact a1, a2, by rw [e 2 (by decide)]; exact a3, fun i hi => ?_⟩, h2, h3, by rw [e 1 (by decide)]; exact h4, by rw [e 4 (by decide)]; exact h5, fun i hi => ?_, by rw [e 5 (by decide), e 25 (by decide)]; exact h7⟩
  · rw [e 2 (by decide)]
    by_cases c : i = j
    · subst c; rw [rwS_at]; exact hT
    · rw [rwS_oth (by omega)]; exact a4 i hi
  · rw [e 2 (by decide)]
    by_cases c : i = j
    · subst c; rw [rwS_at]; exact hO
    · rw [rwS_oth (by omega)]; exact h6 i hi
theorem VS.q9 {s n N j : Nat} {T v : Int} {S : xS} (h : VS s n N T S) (hj : j < N) (hv : -1 ≤ v ∧ v ≤ 99999) : VS s n N T (up S 10 (32 * s + j) 9 v) := by
  rw [up_rwS]
  have h1 := h.1.2.2.2 j hj
  have h2 := h.2.2.2.2.2.1 j hj
  refine h.qrows hj ?_ ?_
  · unfold TQ at h1 ⊢
    simp (decide := true) only [if_false]
    exact h1
  · unfold OQ at h2 ⊢
    simp (decide := true) only [if_true, if_false]
    omega
theorem VS.g4 {s n N : Nat} {T v : Int} {S : xS} (h : VS s n N T S) (hv : 0 ≤ v ∧ v ≤ 99) : VS s n N T (up S 1 s 4 v) := by
  refine h.chg (Int.le_refl _) (up_oth (by omega)) (up_oth (by omega)) (up_oth (by omega)) ?_ (fun p hp => by rw [up_oth (by omega)]; exact h.p hp) (fun j f _ _ _ _ => up_k (by decide)) (fun j hj => ?_)
  · have h9 := h.g
    rw [up_row]
    unfold GQ at h9 ⊢
    simp (decide := true) only [if_true, if_false]
    omega
  · have h9 := h.o hj
    unfold OQ at h9
    rw [up_k (by decide), up_k (by decide), up_k (by decide)]
    omega
theorem VS.g5 {s n N : Nat} {T v : Int} {S : xS} (h : VS s n N T S) (hv : 0 ≤ v ∧ v ≤ 50) : VS s n N T (up S 1 s 5 v) := by
  refine h.chg (Int.le_refl _) (up_oth (by omega)) (up_oth (by omega)) (up_oth (by omega)) ?_ (fun p hp => by rw [up_oth (by omega)]; exact h.p hp) (fun j f _ _ _ _ => up_k (by decide)) (fun j hj => ?_)
  · have h9 := h.g
    rw [up_row]
    unfold GQ at h9 ⊢
    simp (decide := true) only [if_true, if_false]
    omega
  · have h9 := h.o hj
    unfold OQ at h9
    rw [up_k (by decide), up_k (by decide), up_k (by decide)]
    omega
theorem VS_of {s n N : Nat} {T : Int} {S S1 : xS} (h : VS s n N T S) (e : ∀ a, a ≠ 3 → S1 a = S a) : VS s n N T S1 := by
  unfold VS VT at h ⊢
  rw [e 1 (by decide), e 2 (by decide), e 4 (by decide), e 5 (by decide), e 10 (by decide), e 25 (by decide)]
  exact h
theorem VS_7 {s n N : Nat} {T : Int} {S S1 : xS} (h : VS s n N T S) (hs : s < 7) (hx : xtl 7 S1 S) : VS s n N T S1 := by
  obtain ⟨⟨a1, a2, a3, a4⟩, h2, h3, h4, h5, h6, h7⟩ := h
  have e1 := hx 1 s (by omega) (by omega)
  have e2 := hx 2 s (by omega) (by omega)
  have e5 := hx 5 s (by omega) (by omega)
  have e25 := hx 25 s (by omega) (by omega)
  have e10 : ∀ j, j < N → S1 10 (32 * s + j) = S 10 (32 * s + j) := fun j hj => hx 10 (32 * s + j) (by omega) (by omega)
  have e4 : ∀ p, S1 4 (8 * s + p) = S 4 (8 * s + p) := fun p => hx 4 (8 * s + p) (by omega) (by omega)
  refine ⟨⟨by rw [e2]; exact a1, a2, by rw [e2]; exact a3, fun j hj => by rw [e2, e10 j hj]; exact a4 j hj⟩, h2, h3, by rw [e1]; exact h4, fun p hp => by rw [e4 p]; exact h5 p hp, fun j hj => by rw [e2, e10 j hj]; exact h6 j hj, by rw [e5, e25]; exact h7⟩
def VP (n k N : Nat) (T : Int) (S : xS) : Prop := PT n S ∧ VS 4 k N T S
theorem VP.nx {n k N : Nat} {T : Int} {S : xS} (h : VP n k N T S) : VP n k N T (nx n S) := ⟨h.1.nx, VS_of h.2 (fun a ha => nx_o ha)⟩
theorem VP.x7 {n k N : Nat} {T : Int} {S S1 : xS} (h : VP n k N T S) (hx : xtl 7 S1 S) : VP n k N T S1 := ⟨PT_xtl h.1 hx, VS_7 h.2 (by decide) hx⟩
theorem rdN_V {n k N : Nat} {T lo hi : Int} {S : xS} (h : VP n k N T S) (e : (rdN n lo hi S).1 = true) : VP n k N T (rdN n lo hi S).2 ∧ lo ≤ (rdN n lo hi S).2 3 0 9 ∧ (rdN n lo hi S).2 3 0 9 ≤ hi := by
  have p := rdN_P h.1 e
  exact ⟨⟨p.1, VS_of h.2 p.2.2⟩, p.2.1⟩
theorem bnd_t {r : Bool × xS} {f : xS → Bool × xS} (h : (bnd r f).1 = true) : r.1 = true ∧ bnd r f = f r.2 := by
  unfold bnd at h ⊢
  by_cases c : r.1 = true
  · exact ⟨c, by rw [if_pos c]⟩
  · rw [if_neg c] at h; cases h
theorem rdPen_V {n k N : Nat} {T : Int} {S : xS} (h : VP n k N T S) (e : (rdPen n S).1 = true) : VP n k N T (rdPen n S).2 := by
  have b := bnd_t e
  have p := rdN_V h b.1
  show VP n k N T (bnd _ _).2
  rw [b.2]
  exact VP.nx ⟨PT_up p.1.1 (by decide), p.1.2.g4 p.2⟩
theorem rdFee_V {n k N : Nat} {T : Int} {S : xS} (h : VP n k N T S) (e : (rdFee n S).1 = true) : VP n k N T (rdFee n S).2 := by
  have b := bnd_t e
  have p := rdN_V h b.1
  show VP n k N T (bnd _ _).2
  rw [b.2]
  exact VP.nx ⟨PT_up p.1.1 (by decide), p.1.2.g5 p.2⟩
theorem rdPri_V {n k N : Nat} {T : Int} {S : xS} (h : VP n k N T S) (hN : 1 ≤ N) (e : (rdPri n S).1 = true) : VP n k N T (rdPri n S).2 := by
  have b := bnd_t e
  have p := rdN_V h b.1
  show VP n k N T (bnd _ _).2
  rw [b.2]
  have h1 := p.1.2.1.1
  exact VP.nx ⟨PT_up p.1.1 (by decide), p.1.2.q9 (by omega) (by omega)⟩
theorem rdArr_V {n k N : Nat} {T : Int} {S : xS} (h : VP n k N T S) (hk : 1 ≤ k) (e : (rdArr n S).1 = true) : VP n k N T (rdArr n S).2 := by
  have b := bnd_t e
  have p := rdN_V h b.1
  have hn := h.2.g.1
  have e2 : (bnd (rdN n 0 60 (up (rdN n 0 60 S).2 4 (8 * 4 + (S 1 4 3 - 1).toNat) 3 ((rdN n 0 60 S).2 3 0 9))) (fun S2 => (true, nx n (up S2 4 (8 * 4 + (S 1 4 3 - 1).toNat) 4 (S2 3 0 9))))).1 = true := by
    have z := e
    unfold rdArr at z
    rw [b.2] at z
    exact z
  have b2 := bnd_t e2
  have q1 : VP n k N T (up (rdN n 0 60 S).2 4 (8 * 4 + (S 1 4 3 - 1).toNat) 3 ((rdN n 0 60 S).2 3 0 9)) := ⟨PT_up p.1.1 (by decide), p.1.2.pus (by omega) (by
    have z := p.1.2.p (p := (S 1 4 3 - 1).toNat) (by omega)
    unfold PQ at z ⊢
    simp (decide := true) only [if_true, if_false]
    omega)⟩
  have p2 := rdN_V q1 b2.1
  unfold rdArr
  rw [b.2]
  show VP n k N T (bnd _ _).2
  rw [b2.2]
  exact VP.nx ⟨PT_up p2.1.1 (by decide), p2.1.2.pus (by omega) (by
    have z := p2.1.2.p (p := (S 1 4 3 - 1).toNat) (by omega)
    unfold PQ at z ⊢
    simp (decide := true) only [if_true, if_false]
    omega)⟩
theorem rdPro_V {n k N : Nat} {T : Int} {S : xS} (h : VP n k N T S) (hT : 0 ≤ T) (e : (rdPro n S).1 = true) : k < 8 ∧ VP n (k + 1) N T (rdPro n S).2 := by
  have hn := h.2.g.1
  unfold rdPro at e ⊢
  by_cases c : S 1 4 3 < 8
  · rw [if_pos c] at e ⊢
    have b := bnd_t e
    have p := rdN_V h b.1
    rw [b.2] at e ⊢
    have b2 := bnd_t e
    have p2 := rdN_V p.1 b2.1
    rw [b2.2] at e ⊢
    have b3 := bnd_t e
    have p3 := rdN_V p2.1 b3.1
    rw [b3.2]
    have hn3 := p3.1.2.g.1
    refine ⟨by omega, ?_⟩
    dsimp only
    rw [hn3, Int.toNat_natCast]
    exact VP.nx ⟨PT_ent p3.1.1, p3.1.2.ent (by omega) hT p.2 p2.2 p3.2⟩
  · rw [if_neg c] at e; cases e
theorem rdPrm_V {n k N : Nat} {T : Int} {S : xS} (h : VP n k N T S) (e : (rdPrm n N S).1 = true) : N < 20 ∧ VP n k (N + 1) T (rdPrm n N S).2 := by
  have hn := h.2.g.1
  have hN := h.2.1.1
  unfold rdPrm at e ⊢
  by_cases c : S 2 4 1 < 20
  · rw [if_pos c] at e ⊢
    have b := bnd_t e
    have p := rdN_V h b.1
    rw [b.2] at e ⊢
    have b2 := bnd_t e
    have p2 := rdN_V p.1 b2.1
    rw [b2.2] at e ⊢
    try dsimp only at e ⊢
    by_cases c2 : perP ((rdN n 2 120 (rdN n 0 (S 1 4 3 - 1) S).2).2 3 0 9)
    · rw [if_pos c2] at e ⊢
      have b3 := bnd_t e
      have p3 := rdN_V p2.1 b3.1
      rw [b3.2] at e ⊢
      have b4 := bnd_t e
      have p4 := rdN_V p3.1 b4.1
      rw [b4.2] at e ⊢
      try dsimp only at e ⊢
      by_cases c3 : accF 4 7 N ((rdN n 2 120 (rdN n 0 (S 1 4 3 - 1) S).2).2 3 0 9) ((rdN n 1 120 (rdN n 2 120 (rdN n 0 (S 1 4 3 - 1) S).2).2).2 3 0 9) ((rdN n ((rdN n 1 120 (rdN n 2 120 (rdN n 0 (S 1 4 3 - 1) S).2).2).2 3 0 9) ((rdN n 2 120 (rdN n 0 (S 1 4 3 - 1) S).2).2 3 0 9) (rdN n 1 120 (rdN n 2 120 (rdN n 0 (S 1 4 3 - 1) S).2).2).2).2 3 0 9) (rdN n ((rdN n 1 120 (rdN n 2 120 (rdN n 0 (S 1 4 3 - 1) S).2).2).2 3 0 9) ((rdN n 2 120 (rdN n 0 (S 1 4 3 - 1) S).2).2 3 0 9) (rdN n 1 120 (rdN n 2 120 (rdN n 0 (S 1 4 3 - 1) S).2).2).2).2 = true
      · rw [if_pos c3]
        refine ⟨by omega, VP.nx ⟨?_, p4.1.2.pros (by omega) (by have z := p.2; omega) (by have z := p2.2; omega) (by have z := p3.2; omega) (by have z := p4.2; omega)⟩⟩
        have z := p4.1.1
        unfold PT at z ⊢
        rw [show addT 4 N ((rdN n 0 (S 1 4 3 - 1) S).2 3 0 9) ((rdN n 2 120 (rdN n 0 (S 1 4 3 - 1) S).2).2 3 0 9) ((rdN n 1 120 (rdN n 2 120 (rdN n 0 (S 1 4 3 - 1) S).2).2).2 3 0 9) ((rdN n ((rdN n 1 120 (rdN n 2 120 (rdN n 0 (S 1 4 3 - 1) S).2).2).2 3 0 9) ((rdN n 2 120 (rdN n 0 (S 1 4 3 - 1) S).2).2 3 0 9) (rdN n 1 120 (rdN n 2 120 (rdN n 0 (S 1 4 3 - 1) S).2).2).2).2 3 0 9) (rdN n ((rdN n 1 120 (rdN n 2 120 (rdN n 0 (S 1 4 3 - 1) S).2).2).2 3 0 9) ((rdN n 2 120 (rdN n 0 (S 1 4 3 - 1) S).2).2 3 0 9) (rdN n 1 120 (rdN n 2 120 (rdN n 0 (S 1 4 3 - 1) S).2).2).2).2 3 = (rdN n ((rdN n 1 120 (rdN n 2 120 (rdN n 0 (S 1 4 3 - 1) S).2).2).2 3 0 9) ((rdN n 2 120 (rdN n 0 (S 1 4 3 - 1) S).2).2 3 0 9) (rdN n 1 120 (rdN n 2 120 (rdN n 0 (S 1 4 3 - 1) S).2).2).2).2 3 by funext y g; unfold addT; rw [if_neg (by omega), if_neg (by omega)]]
        exact z
      · rw [if_neg c3] at e; cases e
    · rw [if_neg c2] at e; cases e
  · rw [if_neg c] at e; cases e
def rdStm (n N : Nat) (S : xS) : Bool × xS := if isW 0 S then rdPen n S else if isW 1 S then rdFee n S else if isW 2 S then bnd (rdPro n S) (fun S1 => if isW 3 S1 then rdArr n S1 else (true, S1)) else if isW 4 S then bnd (rdPrm n N S) (fun S1 => if isW 5 S1 then rdPri n S1 else (true, S1)) else (false, flS 1 S)
