/-! what is foretold, and what comes -/
theorem LIN.bid {T : Int} {N p : Nat} {b : Int} {C : xS} (h : LIN T N C) (hT : T ≤ 790000) (hp : p < 4) (hb : 0 ≤ b ∧ b ≤ 99) : LIN (T + 1500) N (up C 4 p 2 b) := by
  refine h.ivo hT (fun z => i_setBid (p := (p : Int)) (b := b) h.1 h.2.1 ⟨z, by omega⟩) (c := 0) (v := C 4 p 2) ?_ (h.2.2.1.p hp (by omega)) (fun z i hi => ?_) (up_k (by decide))
  · unfold o_setBid
    rw [if_pos ⟨by omega, by omega⟩, if_pos hb, Int.toNat_natCast, e08]
  · rw [up_k (by decide), up_k (by decide)]; exact h.2.2.2.2.2 z i hi
theorem LIN.wrk {T : Int} {N p : Nat} {b : Int} {C : xS} (h : LIN T N C) (hT : T ≤ 790000) (hp : p < 4) (hb : 1 ≤ b ∧ b ≤ 1000) : LIN (T + 1500) N (up C 4 p 1 (xmin 9999 (C 4 p 1 + b))) := by
  refine h.ivo hT (fun z => i_addWork (p := (p : Int)) (t := b) h.1 h.2.1 ⟨z, by omega⟩) (c := 0) (v := xmin 9999 (C 4 p 1 + b)) ?_ (h.2.2.1.p hp (by omega)) (fun z i hi => ?_) (up_k (by decide))
  · unfold o_addWork
    rw [if_pos ⟨by omega, by omega⟩, if_pos hb, Int.toNat_natCast, e08]
  · rw [up_k (by decide), up_k (by decide)]; exact h.2.2.2.2.2 z i hi
theorem LIN.its {T : Int} {N : Nat} {C : xS} (h : LIN T N C) : ∀ m : Nat, LIN (T + 3 * (m : Int)) N (itr (tckS 0 4 N) m C) ∧ C 1 0 10 ≤ itr (tckS 0 4 N) m C 1 0 10
  | 0 => ⟨h.mono (by omega), Int.le_refl _⟩
  | m + 1 => by
    obtain ⟨ih, ih2⟩ := h.its m
    obtain ⟨h1, h2, h3, h4, h5, h6⟩ := ih
    have hv := h1.itr 1
    have hg := h2.itr (n := 4) 1
    have he := h3.tck h1 h2
    obtain ⟨dU, dS, dW, dF, dI, hTF⟩ := tck_TFD h1 h2 h3.2.2.2.2.2.2.2
    have hfr := tckS_fr h1
    have ht := h1.1.2.2.1
    show LIN _ N (tckS 0 4 N (itr (tckS 0 4 N) m C)) ∧ _ ≤ tckS 0 4 N (itr (tckS 0 4 N) m C) 1 0 10
    generalize itr (tckS 0 4 N) m C = E at h1 h2 h3 h4 h5 h6 hv hg he hTF hfr ih2 ht
    have e3 : T + 3 * (m : Int) + 3 * ((1 : Nat) : Int) = T + 3 * ((m + 1 : Nat) : Int) := by omega
    rw [e3] at hv
    refine ⟨⟨hv, hg, he, fun i hi => ?_, fun j hj => ?_, fun z => ?_⟩, ?_⟩
    · rw [hfr 31 0 (by omega) (by omega) (by omega) (by omega) (by omega) (by omega)]; exact h4 i hi
    · rw [hfr 21 0 (by omega) (by omega) (by omega) (by omega) (by omega) (by omega)]; exact h5 j hj
    · have h9 := hTF.2.2.2.2.2.2.1; omega
    · have h9 := hTF.2.1.2.2.1; have h8 := hTF.1; omega
/-- the state E is at work, the state C is saved -/
def SV (N : Nat) (C E D : xS) : Prop := sq 0 0 4 N D E ∧ sq 2 0 4 N D C ∧ D 21 0 0 = 1 ∧ (∀ j, j < 2 → D 21 0 j = 0 ∨ D 21 0 j = 1) ∧ D 31 0 = C 31 0
section SVS
variable {N : Nat} {C E D S : xS} {q T : Int}
theorem SV.bs (h : SV N C E D) (hB : BS q D S) (hN : N ≤ 20) : SV N C E S := by
  obtain ⟨h1, h2, h3, h4, h5⟩ := h
  have e21 : S 21 0 = D 21 0 := hB.at (by decide) (by decide) (by unfold sct; omega)
  exact ⟨(hB.sq0 hN).tr h1, (hB.sq2 hN).tr h2, by rw [e21]; exact h3, fun j hj => by rw [e21]; exact h4 j hj, by rw [hB.at (x := 31) (y := 0) (by decide) (by decide) (by unfold sct; omega)]; exact h5⟩
theorem SV.V (h : SV N C E D) (hV : VS 0 4 N T E) : VS 0 4 N T D := h.1.V hV
theorem SV.L (h : SV N C E D) (hL : LIN T N E) (e31 : E 31 0 = C 31 0) : LIN T N D := h.1.L hL (by rw [e31]; exact h.2.2.2.2) h.2.2.2.1
theorem SV.p (h : SV N C E D) {p f : Nat} (hp : p < 4) (hf : f < 11) : D 4 p f = E 4 p f := by have h9 := h.1.2.2.1 p hp f hf; rw [e08] at h9; exact h9
theorem SV.tl (h : SV N C E D) : tlq 0 0 N D E := h.1.tl
theorem SV.run (h : SV N C E D) (hV : VS 0 4 N T E) (hVD : VS 0 4 N T D) (m : Nat) : SV N C (itr (tckS 0 4 N) m E) (itr (tckS 0 4 N) m D) := by
  obtain ⟨h1, h2, h3, h4, h5⟩ := h
  have hfr := itr_fr hVD m
  have hN := hVD.2.1
  refine ⟨h1.itr (by decide) hV m, (sq.of (hfr 1 2 (by omega) (by omega) (by omega) (by omega) (by omega) (by omega)) (hfr 2 2 (by omega) (by omega) (by omega) (by omega) (by omega) (by omega)) (fun p hp => hfr 4 _ (by omega) (by omega) (by omega) (by omega) (by omega) (by omega)) (fun j hj => hfr 10 _ (by omega) (by omega) (by omega) (by omega) (by omega) (by omega)) (hfr 5 2 (by omega) (by omega) (by omega) (by omega) (by omega) (by omega)) (hfr 25 2 (by omega) (by omega) (by omega) (by omega) (by omega) (by omega))).tr h2, ?_, fun j hj => ?_, ?_⟩
  · rw [hfr 21 0 (by omega) (by omega) (by omega) (by omega) (by omega) (by omega)]; exact h3
  · rw [hfr 21 0 (by omega) (by omega) (by omega) (by omega) (by omega) (by omega)]; exact h4 j hj
  · rw [hfr 31 0 (by omega) (by omega) (by omega) (by omega) (by omega) (by omega)]; exact h5
theorem SV.rst (h : SV N C E D) (hN : N ≤ 20) : SV N C C (cpyS 2 0 4 N D) := by
  obtain ⟨h1, h2, h3, h4, h5⟩ := h
  have hfr := cpyS_fr (u := 2) (s := 0) (n := 4) (N := N) (S := D) (by decide) (by omega)
  refine ⟨(sq.cpy (by decide)).tr h2, (sq.of (hfr 1 2 (by omega) (by omega) (by omega) (by omega) (by omega) (by omega)) (hfr 2 2 (by omega) (by omega) (by omega) (by omega) (by omega) (by omega)) (fun p hp => hfr 4 _ (by omega) (by omega) (by omega) (by omega) (by omega) (by omega)) (fun j hj => hfr 10 _ (by omega) (by omega) (by omega) (by omega) (by omega) (by omega)) (hfr 5 2 (by omega) (by omega) (by omega) (by omega) (by omega) (by omega)) (hfr 25 2 (by omega) (by omega) (by omega) (by omega) (by omega) (by omega))).tr h2, ?_, fun j hj => ?_, ?_⟩
  · rw [hfr 21 0 (by omega) (by omega) (by omega) (by omega) (by omega) (by omega)]; exact h3
  · rw [hfr 21 0 (by omega) (by omega) (by omega) (by omega) (by omega) (by omega)]; exact h4 j hj
  · rw [hfr 31 0 (by omega) (by omega) (by omega) (by omega) (by omega) (by omega)]; exact h5
theorem SV.bid (h : SV N C E D) {p : Nat} {b : Int} (hp : p < 4) : SV N C (up E 4 p 2 b) (up D 4 p 2 b) := by
  obtain ⟨h1, h2, h3, h4, h5⟩ := h
  have g1 := h1.u4 (q := p) (f := 2) (a := b) (b := b) rfl
  rw [e08] at g1
  refine ⟨g1, (sq.of (up_oth (by omega)) (up_oth (by omega)) (fun i hi => up_oth (by omega)) (fun j hj => up_oth (by omega)) (up_oth (by omega)) (up_oth (by omega))).tr h2, by rw [up_k (by decide)]; exact h3, fun j hj => by rw [up_k (by decide)]; exact h4 j hj, by rw [up_oth (by omega)]; exact h5⟩
/-- the state is saved -/
theorem SV.mk (hN : N ≤ 20) (h : sq 0 0 4 N S C) (e31 : S 31 0 = C 31 0) (e21 : ∀ j, j < 2 → S 21 0 j = 0 ∨ S 21 0 j = 1) : SV N C C (up (cpyS 0 2 4 N S) 21 0 0 1) := by
  have hfr := cpyS_fr (u := 0) (s := 2) (n := 4) (N := N) (S := S) (by decide) (by omega)
  refine ⟨(sq.of (D := S) ?_ ?_ (fun p hp => ?_) (fun j hj => ?_) ?_ ?_).tr h, ((sq.of (D := cpyS 0 2 4 N S) (up_oth (by omega)) (up_oth (by omega)) (fun p _ => up_oth (by omega)) (fun j _ => up_oth (by omega)) (up_oth (by omega)) (up_oth (by omega))).tr (sq.cpy (by decide))).tr h, up_same _ _ _ _ _, fun j hj => ?_, ?_⟩
  · rw [up_oth (by omega)]; exact hfr 1 0 (by omega) (by omega) (by omega) (by omega) (by omega) (by omega)
  · rw [up_oth (by omega)]; exact hfr 2 0 (by omega) (by omega) (by omega) (by omega) (by omega) (by omega)
  · rw [up_oth (by omega)]; exact hfr 4 _ (by omega) (by omega) (by omega) (by omega) (by omega) (by omega)
  · rw [up_oth (by omega)]; exact hfr 10 _ (by omega) (by omega) (by omega) (by omega) (by omega) (by omega)
  · rw [up_oth (by omega)]; exact hfr 5 0 (by omega) (by omega) (by omega) (by omega) (by omega) (by omega)
  · rw [up_oth (by omega)]; exact hfr 25 0 (by omega) (by omega) (by omega) (by omega) (by omega) (by omega)
  · by_cases c : j = 0
    · rw [c, up_same]; exact Or.inr rfl
    · rw [up_f c, hfr 21 0 (by omega) (by omega) (by omega) (by omega) (by omega) (by omega)]; exact e21 j hj
  · rw [up_oth (by omega), hfr 31 0 (by omega) (by omega) (by omega) (by omega) (by omega) (by omega)]; exact e31
end SVS
/-! the predictions in words of the present state -/
theorem fc_eq {q T : Int} {N p f m : Nat} {C S : xS} (hB : BS q C S) (hV : VS 0 4 N T C) (hp : p < 4) (hf : f < 11) : itr (tckS 1 4 N) m (cpyS 0 1 4 N S) 4 (8 * 1 + p) f = itr (tckS 0 4 N) m C 4 p f := by
  have h : sq 1 0 4 N (cpyS 0 1 4 N S) C := (sq.cpy (by decide)).tr (hB.sq0 hV.2.1)
  have h9 := (h.itr (by decide) hV m).2.2.1 p hp f hf
  rw [e08] at h9
  exact h9
theorem bid_R {T : Int} {N p f m : Nat} {b : Int} {C S : xS} (h : sq 0 0 4 N S C) (hV : VS 0 4 N T (up C 4 p 2 b)) (hp : p < 4) (hf : f < 11) : itr (tckS 0 4 N) m (up S 4 p 2 b) 4 p f = itr (tckS 0 4 N) m (up C 4 p 2 b) 4 p f := by
  have g1 := h.u4 (q := p) (f := 2) (a := b) (b := b) rfl
  rw [e08] at g1
  have h9 := (g1.itr (by decide) hV m).2.2.1 p hp f hf
  rw [e08] at h9
  exact h9
theorem bb_R {T : Int} {N p f m i : Nat} {C : xS} (hL : LIN T N C) (hT : T ≤ 790000) (hp : p < 4) (hf : f < 11) (hi : i < 100) : bbS p m 4 N C (i + 1) 4 (8 * 1 + p) f = itr (tckS 0 4 N) m (up C 4 p 2 (i : Int)) 4 p f := by
  have hV := hL.1
  have hX := bbX hV hp (m := m) i (by omega)
  have hN := hV.2.1
  have h0 : sq 0 0 4 N (bbS p m 4 N C i) C := sq.of (hX 1 0 (by omega) (by omega) (by omega) (by omega) (by omega) (by omega)) (hX 2 0 (by omega) (by omega) (by omega) (by omega) (by omega) (by omega)) (fun p hp => hX 4 _ (by omega) (by omega) (by omega) (by omega) (by omega) (by omega)) (fun j hj => hX 10 _ (by omega) (by omega) (by omega) (by omega) (by omega) (by omega)) (hX 5 0 (by omega) (by omega) (by omega) (by omega) (by omega) (by omega)) (hX 25 0 (by omega) (by omega) (by omega) (by omega) (by omega) (by omega))
  have h1 : sq 1 0 4 N (cpyS 0 1 4 N (bbS p m 4 N C i)) C := (sq.cpy (by decide)).tr h0
  have h2 := h1.u4 (q := p) (f := 2) (a := (i : Int)) (b := (i : Int)) rfl
  rw [e08] at h2
  have hVb := (hL.bid hT hp (b := (i : Int)) (by omega)).1
  have h9 := (h2.itr (by decide) hVb m).2.2.1 p hp f hf
  rw [e08] at h9
  exact h9
theorem bb_best {T : Int} {N p m : Nat} {C : xS} (hL : LIN T N C) (hT : T ≤ 790000) (hp : p < 4) : ∀ k : Nat, k < 100 → ∃ b : Nat, b ≤ k ∧ bbF p m 4 N C (k + 1) = ((b : Int), itr (tckS 0 4 N) m (up C 4 p 2 (b : Int)) 4 p 1, itr (tckS 0 4 N) m (up C 4 p 2 (b : Int)) 4 p 0) ∧ ∀ d : Nat, d ≤ k → itr (tckS 0 4 N) m (up C 4 p 2 (b : Int)) 4 p 1 < itr (tckS 0 4 N) m (up C 4 p 2 (d : Int)) 4 p 1 ∨ (itr (tckS 0 4 N) m (up C 4 p 2 (b : Int)) 4 p 1 = itr (tckS 0 4 N) m (up C 4 p 2 (d : Int)) 4 p 1 ∧ itr (tckS 0 4 N) m (up C 4 p 2 (d : Int)) 4 p 0 ≤ itr (tckS 0 4 N) m (up C 4 p 2 (b : Int)) 4 p 0)
  | 0, hk => by
    refine ⟨0, Nat.le_refl _, ?_, fun d hd => ?_⟩
    · unfold bbF
      rw [if_pos (show (bbF p m 4 N C 0).1 = -1 ∨ _ from Or.inl rfl), bb_R hL hT hp (by decide) (by omega), bb_R hL hT hp (by decide) (by omega)]
    · have : d = 0 := by omega
      subst this
      exact Or.inr ⟨rfl, Int.le_refl _⟩
  | k + 1, hk => by
    obtain ⟨b, h1, h2, h3⟩ := bb_best hL hT hp (m := m) k (by omega)
    have e : bbF p m 4 N C (k + 1 + 1) = if (bbF p m 4 N C (k + 1)).1 = -1 ∨ bbS p m 4 N C (k + 1 + 1) 4 (8 * 1 + p) 1 < (bbF p m 4 N C (k + 1)).2.1 ∨ (bbS p m 4 N C (k + 1 + 1) 4 (8 * 1 + p) 1 = (bbF p m 4 N C (k + 1)).2.1 ∧ (bbF p m 4 N C (k + 1)).2.2 < bbS p m 4 N C (k + 1 + 1) 4 (8 * 1 + p) 0) then (((k + 1 : Nat) : Int), bbS p m 4 N C (k + 1 + 1) 4 (8 * 1 + p) 1, bbS p m 4 N C (k + 1 + 1) 4 (8 * 1 + p) 0) else bbF p m 4 N C (k + 1) := rfl
    rw [e, h2, bb_R hL hT hp (by decide) hk, bb_R hL hT hp (by decide) hk]
    dsimp only
    generalize hR : (fun (d : Nat) (f : Nat) => itr (tckS 0 4 N) m (up C 4 p 2 (d : Int)) 4 p f) = R at *
    have r : ∀ (d f : Nat), itr (tckS 0 4 N) m (up C 4 p 2 (d : Int)) 4 p f = R d f := fun d f => by rw [← hR]
    simp only [r] at h3 ⊢
    by_cases c : (b : Int) = -1 ∨ R (k + 1) 1 < R b 1 ∨ (R (k + 1) 1 = R b 1 ∧ R b 0 < R (k + 1) 0)
    · rw [if_pos c]
      refine ⟨k + 1, Nat.le_refl _, rfl, fun d hd => ?_⟩
      by_cases hd2 : d = k + 1
      · subst hd2; exact Or.inr ⟨rfl, Int.le_refl _⟩
      · have := h3 d (by omega)
        omega
    · rw [if_neg c]
      refine ⟨b, by omega, rfl, fun d hd => ?_⟩
      by_cases hd2 : d = k + 1
      · subst hd2; omega
      · exact h3 d (by omega)
