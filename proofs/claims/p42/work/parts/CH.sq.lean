/-! the state u of C is the state v of D -/
def sq (u v n N : Nat) (C D : xS) : Prop := (∀ f, 3 ≤ f → f ≤ 13 → C 1 u f = D 1 v f) ∧ (C 2 u 1 = D 2 v 1 ∧ C 2 u 2 = D 2 v 2) ∧ (∀ p, p < n → ∀ f, f < 11 → C 4 (8 * u + p) f = D 4 (8 * v + p) f) ∧ (∀ j, j < N → ∀ f, f < 17 → C 10 (32 * u + j) f = D 10 (32 * v + j) f) ∧ (C 5 u 1 = D 5 v 1 ∧ C 5 u 2 = D 5 v 2) ∧ ∀ i, i < 64 → C 25 u i = D 25 v i
section SQ
variable {u v x n N : Nat} {C D E : xS}
theorem sq.tr (h : sq u v n N C D) (g : sq v x n N D E) : sq u x n N C E := by
  obtain ⟨a1, a2, a3, a4, a5, a6⟩ := h
  obtain ⟨b1, b2, b3, b4, b5, b6⟩ := g
  exact ⟨fun f h1 h2 => (a1 f h1 h2).trans (b1 f h1 h2), ⟨a2.1.trans b2.1, a2.2.trans b2.2⟩, fun p hp f hf => (a3 p hp f hf).trans (b3 p hp f hf), fun j hj f hf => (a4 j hj f hf).trans (b4 j hj f hf), ⟨a5.1.trans b5.1, a5.2.trans b5.2⟩, fun i hi => (a6 i hi).trans (b6 i hi)⟩
/-- one and the same state, in two stores -/
theorem sq.of (h1 : C 1 u = D 1 u) (h2 : C 2 u = D 2 u) (h4 : ∀ p, p < n → C 4 (8 * u + p) = D 4 (8 * u + p)) (h10 : ∀ j, j < N → C 10 (32 * u + j) = D 10 (32 * u + j)) (h5 : C 5 u = D 5 u) (h25 : C 25 u = D 25 u) : sq u u n N C D :=
  ⟨fun f _ _ => by rw [h1], ⟨by rw [h2], by rw [h2]⟩, fun p hp f _ => by rw [h4 p hp], fun j hj f _ => by rw [h10 j hj], ⟨by rw [h5], by rw [h5]⟩, fun i _ => by rw [h25]⟩
theorem sq.cpy (hne : u ≠ v) : sq u v n N (cpyS v u n N C) C := by
  obtain ⟨e1, e2, e10, e4, e51, e52, e25⟩ := cpyS_at (u := v) (s := u) (n := n) (N := N) (S := C) hne
  refine ⟨e1, ⟨?_, ?_⟩, fun p hp f _ => by rw [e4 p hp], fun j hj f _ => ?_, ⟨e51, e52⟩, e25⟩
  · rw [e2]; unfold cpyT; rw [if_pos ⟨rfl, rfl, rfl⟩]
  · rw [e2]; unfold cpyT; rw [if_neg (by omega), if_pos ⟨rfl, rfl, rfl⟩]
  · rw [e10]; unfold cpyT; rw [if_neg (by omega), if_neg (by omega), if_pos ⟨rfl, by omega, by omega⟩, Nat.add_sub_cancel_left]
theorem sq.u1 (h : sq u v n N C D) {f : Nat} {a b : Int} (e : a = b) : sq u v n N (up C 1 u f a) (up D 1 v f b) := by
  subst e
  obtain ⟨a1, a2, a3, a4, a5, a6⟩ := h
  refine ⟨fun g h1 h2 => ?_, ⟨by rw [up_k (by decide), up_k (by decide)]; exact a2.1, by rw [up_k (by decide), up_k (by decide)]; exact a2.2⟩, fun p hp g hg => by rw [up_k (by decide), up_k (by decide)]; exact a3 p hp g hg, fun j hj g hg => by rw [up_k (by decide), up_k (by decide)]; exact a4 j hj g hg, ⟨by rw [up_k (by decide), up_k (by decide)]; exact a5.1, by rw [up_k (by decide), up_k (by decide)]; exact a5.2⟩, fun i hi => by rw [up_k (by decide), up_k (by decide)]; exact a6 i hi⟩
  by_cases c : g = f
  · rw [c, up_same, up_same]
  · rw [up_f c, up_f c]; exact a1 g h1 h2
theorem sq.u4 (h : sq u v n N C D) {q f : Nat} {a b : Int} (e : a = b) : sq u v n N (up C 4 (8 * u + q) f a) (up D 4 (8 * v + q) f b) := by
  subst e
  obtain ⟨a1, a2, a3, a4, a5, a6⟩ := h
  refine ⟨fun g h1 h2 => by rw [up_k (by decide), up_k (by decide)]; exact a1 g h1 h2, ⟨by rw [up_k (by decide), up_k (by decide)]; exact a2.1, by rw [up_k (by decide), up_k (by decide)]; exact a2.2⟩, fun p hp g hg => ?_, fun j hj g hg => by rw [up_k (by decide), up_k (by decide)]; exact a4 j hj g hg, ⟨by rw [up_k (by decide), up_k (by decide)]; exact a5.1, by rw [up_k (by decide), up_k (by decide)]; exact a5.2⟩, fun i hi => by rw [up_k (by decide), up_k (by decide)]; exact a6 i hi⟩
  by_cases c : p = q ∧ g = f
  · rw [c.1, c.2, up_same, up_same]
  · rw [up_app, up_app, if_neg (by omega), if_neg (by omega)]; exact a3 p hp g hg
theorem sq.u10 (h : sq u v n N C D) {q f : Nat} {a b : Int} (e : a = b) : sq u v n N (up C 10 (32 * u + q) f a) (up D 10 (32 * v + q) f b) := by
  subst e
  obtain ⟨a1, a2, a3, a4, a5, a6⟩ := h
  refine ⟨fun g h1 h2 => by rw [up_k (by decide), up_k (by decide)]; exact a1 g h1 h2, ⟨by rw [up_k (by decide), up_k (by decide)]; exact a2.1, by rw [up_k (by decide), up_k (by decide)]; exact a2.2⟩, fun p hp g hg => by rw [up_k (by decide), up_k (by decide)]; exact a3 p hp g hg, fun j hj g hg => ?_, ⟨by rw [up_k (by decide), up_k (by decide)]; exact a5.1, by rw [up_k (by decide), up_k (by decide)]; exact a5.2⟩, fun i hi => by rw [up_k (by decide), up_k (by decide)]; exact a6 i hi⟩
  by_cases c : j = q ∧ g = f
  · rw [c.1, c.2, up_same, up_same]
  · rw [up_app, up_app, if_neg (by omega), if_neg (by omega)]; exact a4 j hj g hg
theorem sq.arr (h : sq u v n N C D) : sq u v n N (arrS u n C) (arrS v n D) := by
  obtain ⟨a1, a2, a3, a4, a5, a6⟩ := h
  have o : ∀ (s : Nat) (S : xS) k j, k ≠ 4 → arrS s n S k j = S k j := fun s S k j hk => by funext f; unfold arrS; rw [if_neg (by omega)]
  refine ⟨fun g h1 h2 => by rw [o _ _ _ _ (by decide), o _ _ _ _ (by decide)]; exact a1 g h1 h2, by rw [o _ _ _ _ (by decide), o _ _ _ _ (by decide)]; exact a2, fun p hp g hg => ?_, fun j hj g hg => by rw [o _ _ _ _ (by decide), o _ _ _ _ (by decide)]; exact a4 j hj g hg, by rw [o _ _ _ _ (by decide), o _ _ _ _ (by decide)]; exact a5, fun i hi => by rw [o _ _ _ _ (by decide), o _ _ _ _ (by decide)]; exact a6 i hi⟩
  unfold arrS
  by_cases c : g = 1
  · rw [if_pos ⟨rfl, by omega, by omega, c⟩, if_pos ⟨rfl, by omega, by omega, c⟩, a2.2, a3 p hp 3 (by decide), a3 p hp 4 (by decide), a3 p hp 1 (by decide)]
  · rw [if_neg (by omega), if_neg (by omega)]; exact a3 p hp g hg
theorem xrel_17 {F G : Nat → Int} (h : ∀ f, f < 17 → F f = G f) : ∀ f, f < 17 → xrel F f = xrel G f := fun f hf => by
  unfold xrel
  rw [h 5 (by decide), h 2 (by decide), h 3 (by decide), h 4 (by decide), h 15 (by decide), h 11 (by decide), h 10 (by decide), h 1 (by decide), h f hf]
theorem xmis_17 {t : Int} {F G : Nat → Int} (h : ∀ f, f < 17 → F f = G f) : ∀ f, f < 17 → xmis t F f = xmis t G f := fun f hf => by
  unfold xmis
  rw [h 6 (by decide), h 7 (by decide), h 16 (by decide), h f hf]
theorem sq.rel (h : sq u v n N C D) : sq u v n N (relT u N C) (relT v N D) := by
  obtain ⟨a1, a2, a3, a4, a5, a6⟩ := h
  have o : ∀ (s : Nat) (S : xS) k j, k ≠ 10 → relT s N S k j = S k j := fun s S k j hk => by funext f; unfold relT; rw [if_neg (by omega)]
  refine ⟨fun g h1 h2 => by rw [o _ _ _ _ (by decide), o _ _ _ _ (by decide)]; exact a1 g h1 h2, by rw [o _ _ _ _ (by decide), o _ _ _ _ (by decide)]; exact a2, fun p hp g hg => by rw [o _ _ _ _ (by decide), o _ _ _ _ (by decide)]; exact a3 p hp g hg, fun j hj g hg => ?_, by rw [o _ _ _ _ (by decide), o _ _ _ _ (by decide)]; exact a5, fun i hi => by rw [o _ _ _ _ (by decide), o _ _ _ _ (by decide)]; exact a6 i hi⟩
  have h17 := a4 j hj
  unfold relT
  by_cases c : C 10 (32 * u + j) 0 = 0 ∧ C 10 (32 * u + j) 5 = C 2 u 2
  · rw [if_pos ⟨rfl, by omega, by omega, c⟩, if_pos ⟨rfl, by omega, by omega, by rw [← h17 0 (by decide), ← h17 5 (by decide), ← a2.2]; exact c⟩]
    exact xrel_17 h17 g hg
  · rw [if_neg (fun z => c z.2.2.2), if_neg (fun z => c (by rw [h17 0 (by decide), h17 5 (by decide), a2.2]; exact z.2.2.2))]
    exact h17 g hg
theorem sq.tl (h : sq u v n N C D) : tlq u v N C D := ⟨h.2.1.2, fun j hj f hf => h.2.2.2.1 j hj f (by unfold tlf at hf; omega)⟩
theorem sq.gro (h : sq u v n N C D) : sq u v n N (groT u N C) (groT v N D) := by
  obtain ⟨a1, a2, a3, a4, a5, a6⟩ := h
  have o : ∀ (s : Nat) (S : xS) k j, k ≠ 10 → k ≠ 2 → groT s N S k j = S k j := fun s S k j hk h2 => by funext f; unfold groT; rw [if_neg (by omega), if_neg (by omega)]
  refine ⟨fun g h1 h2 => by rw [o _ _ _ _ (by decide) (by decide), o _ _ _ _ (by decide) (by decide)]; exact a1 g h1 h2, ⟨?_, ?_⟩, fun p hp g hg => by rw [o _ _ _ _ (by decide) (by decide), o _ _ _ _ (by decide) (by decide)]; exact a3 p hp g hg, fun j hj g hg => ?_, by rw [o _ _ _ _ (by decide) (by decide), o _ _ _ _ (by decide) (by decide)]; exact a5, fun i hi => by rw [o _ _ _ _ (by decide) (by decide), o _ _ _ _ (by decide) (by decide)]; exact a6 i hi⟩
  · unfold groT; rw [if_neg (by omega), if_neg (by omega), if_neg (by omega), if_neg (by omega)]; exact a2.1
  · unfold groT; rw [if_pos ⟨rfl, rfl, rfl⟩, if_pos ⟨rfl, rfl, rfl⟩, a2.2]
  · unfold groT; rw [if_neg (by omega), if_pos ⟨rfl, by omega, by omega⟩, if_neg (by omega), if_pos ⟨rfl, by omega, by omega⟩, a2.2]
    exact xmis_17 (a4 j hj) g hg
theorem sq.nxt (h : sq u v n N C D) (hn : 0 < n) : ∀ (k : Nat) (c : Int), -1 ≤ c → nxtS u n C k c = nxtS v n D k c
  | 0, _, _ => rfl
  | k + 1, c, hc => by
    unfold nxtS
    have hlt : (if c + 1 < n then c + 1 else 0).toNat < n := by split <;> omega
    rw [h.2.2.1 _ hlt 1 (by decide), h.nxt hn k _ (by split <;> omega)]
theorem sq.hbd (h : sq u v n N C D) : ∀ i : Nat, i ≤ n → hbdS u C i = hbdS v D i
  | 0, _ => rfl
  | i + 1, hi => by
    have h4 := h.2.2.1
    have ih := h.hbd i (by omega)
    unfold hbdS
    rw [ih, h4 i (by omega) 1 (by decide), h4 i (by omega) 2 (by decide), h4 i (by omega) 0 (by decide)]
    split
    · cases e : hbdS v D i with
      | none => rfl
      | some b =>
        have hb := (hbdS_lt e).1
        dsimp only
        rw [h4 b (by omega) 2 (by decide)]
    · rfl
theorem sq.act {T : Int} (h : sq u v n N C D) (hn : 0 < n) (hV : VS v n N T D) : sq u v n N (actS u n N C) (actS v n N D) := by
  have hb := h.tl.bst N (Nat.le_refl _)
  unfold actS
  rw [hb]
  cases e : bstT v D N with
  | none =>
    dsimp only
    have h7 := hV.2.2.2.1.2.2.2.2.1.1
    unfold freS
    rw [h.1 7 (by decide) (by decide), h.nxt hn n _ h7]
    split
    · exact h.u1 (by rw [h.1 12 (by decide) (by decide)])
    · rename_i hc
      have hr := nxtS_r (s := v) (n := n) (S := D) hn n (D 1 v 7) h7
      have hlt : (nxtS v n D n (D 1 v 7)).toNat < n := by omega
      generalize (nxtS v n D n (D 1 v 7)).toNat = c at hlt
      unfold frpS
      exact (((h.u4 (by rw [h.2.2.1 c hlt 1 (by decide)])).u4 (by rw [h.2.2.1 c hlt 7 (by decide)])).u1 (by rw [h.1 11 (by decide) (by decide)])).u1 rfl
  | some b =>
    dsimp only
    have hl := bstT_lt e
    have hO := hV.2.2.2.2.2.1 b hl.1
    have h8 := hO.2.1 hl.2
    have hD : sq u v n N (decT u (some b) C) (decT v (some b) D) := h.u10 (by rw [h.2.2.2.1 b hl.1 6 (by decide)])
    have e8 : ∀ (s : Nat) (S : xS), decT s (some b) S 10 (32 * s + b) 8 = S 10 (32 * s + b) 8 := fun s S => up_f (by decide)
    unfold useS
    rw [e8, e8, h.2.2.2.1 b hl.1 8 (by decide)]
    have hlt : (D 10 (32 * v + b) 8).toNat < n := by omega
    generalize (D 10 (32 * v + b) 8).toNat = c at hlt
    generalize decT u (some b) C = C1 at hD
    generalize decT v (some b) D = D1 at hD
    obtain ⟨a1, a2, a3, a4, a5, a6⟩ := id hD
    rw [a3 c hlt 1 (by decide)]
    split
    · unfold usdS
      exact (((hD.u4 (by rw [a3 c hlt 1 (by decide)])).u4 (by rw [a3 c hlt 5 (by decide)])).u10 (by rw [a4 b hl.1 12 (by decide)])).u1 (by rw [a1 8 (by decide) (by decide)])
    · rw [hD.hbd n (Nat.le_refl _)]
      cases eq : hbdS v D1 n with
      | none =>
        dsimp only
        unfold wstS
        have hp : sq u v n N (pnlS u (8 * u + c) C1) (pnlS v (8 * v + c) D1) := by
          unfold pnlS
          exact ((hD.u4 (by rw [a3 c hlt 0 (by decide), a1 4 (by decide) (by decide)])).u4 (by rw [a3 c hlt 0 (by decide), a3 c hlt 10 (by decide), a1 4 (by decide) (by decide)])).u1 (by rw [a3 c hlt 0 (by decide), a1 4 (by decide) (by decide), a1 6 (by decide) (by decide)])
        exact (hp.u10 (by rw [a4 b hl.1 14 (by decide)])).u1 (by rw [a1 10 (by decide) (by decide)])
      | some q =>
        dsimp only
        have hq := (hbdS_lt eq).1
        unfold sltS
        have hp : sq u v n N (slcS (8 * u + c) (8 * u + q) C1) (slcS (8 * v + c) (8 * v + q) D1) := by
          unfold slcS
          exact (((((hD.u4 (by rw [a3 q hq 0 (by decide), a3 q hq 2 (by decide)])).u4 (by rw [a3 q hq 1 (by decide)])).u4 (by rw [a3 q hq 6 (by decide)])).u4 (by rw [a3 q hq 9 (by decide), a3 q hq 2 (by decide)])).u4 (by rw [a3 c hlt 0 (by decide), a3 q hq 2 (by decide)])).u4 (by rw [a3 c hlt 8 (by decide), a3 q hq 2 (by decide)])
        exact (hp.u10 (by rw [a4 b hl.1 13 (by decide)])).u1 (by rw [a1 9 (by decide) (by decide)])
theorem sq.tck {T : Int} (h : sq u v n N C D) (hn : 0 < n) (hV : VS v n N T D) : sq u v n N (tckS u n N C) (tckS v n N D) := by
  have hB : sq u v n N (relT u N (arrS u n C)) (relT v N (arrS v n D)) := h.arr.rel
  have hA := hB.act hn (hV.arr.rel)
  unfold tckS endS
  exact hA.gro.u1 (by rw [hA.1 13 (by decide) (by decide), hA.tl.mis])
theorem sq.itr {T : Int} (h : sq u v n N C D) (hn : 0 < n) (hV : VS v n N T D) : ∀ i : Nat, sq u v n N (itr (tckS u n N) i C) (itr (tckS v n N) i D)
  | 0 => h
  | i + 1 => (h.itr hn hV i).tck hn (hV.itr i)
theorem sq.V {T : Int} (h : sq u v n N C D) (hV : VS v n N T D) : VS u n N T C := by
  obtain ⟨a1, a2, a3, a4, a5, a6⟩ := h
  obtain ⟨⟨b1, b2, b3, b4⟩, c, d, e, f, g, i⟩ := hV
  refine ⟨⟨by rw [a2.1]; exact b1, b2, by rw [a2.2]; exact b3, fun j hj => ?_⟩, c, d, ?_, fun p hp => ?_, fun j hj => ?_, ?_⟩
  · have h9 := b4 j hj
    have k := a4 j hj
    unfold TQ at h9 ⊢
    rw [a2.2, k 0 (by decide), k 2 (by decide), k 3 (by decide), k 4 (by decide), k 5 (by decide), k 6 (by decide), k 7 (by decide), k 15 (by decide), k 16 (by decide)]
    exact h9
  · unfold GQ at e ⊢
    rw [a1 3 (by decide) (by decide), a1 4 (by decide) (by decide), a1 5 (by decide) (by decide), a1 6 (by decide) (by decide), a1 7 (by decide) (by decide), a1 8 (by decide) (by decide), a1 9 (by decide) (by decide), a1 10 (by decide) (by decide), a1 11 (by decide) (by decide), a1 12 (by decide) (by decide), a1 13 (by decide) (by decide)]
    exact e
  · have h9 := f p hp
    have k := a3 p hp
    unfold PQ at h9 ⊢
    rw [k 0 (by decide), k 1 (by decide), k 2 (by decide), k 3 (by decide), k 4 (by decide), k 5 (by decide), k 6 (by decide), k 7 (by decide), k 8 (by decide), k 9 (by decide), k 10 (by decide)]
    exact h9
  · have h9 := g j hj
    have k := a4 j hj
    unfold OQ at h9 ⊢
    rw [a2.2, k 1 (by decide), k 2 (by decide), k 3 (by decide), k 4 (by decide), k 6 (by decide), k 7 (by decide), k 8 (by decide), k 9 (by decide), k 10 (by decide), k 11 (by decide), k 12 (by decide), k 13 (by decide), k 14 (by decide)]
    exact h9
  · obtain ⟨i1, i2, i3⟩ := i
    exact ⟨by rw [a5.1]; exact i1, by rw [a5.2]; exact i2, fun z hz => by rw [a6 z hz]; exact i3 z hz⟩
end SQ
/-- what holds between the rounds holds of each state that looks alike -/
theorem sq.L {T : Int} {N : Nat} {C D : xS} (h : sq 0 0 4 N C D) (hL : LIN T N D) (e31 : C 31 0 = D 31 0) (e21 : ∀ j, j < 2 → C 21 0 j = 0 ∨ C 21 0 j = 1) : LIN T N C := by
  obtain ⟨h1, h2, h3, h4, h5, h6⟩ := hL
  have hN := h1.2.1
  obtain ⟨a1, a2, a3, a4, a5, a6⟩ := id h
  have b3 : ∀ p, p < 4 → ∀ f, f < 11 → C 4 p f = D 4 p f := fun p hp f hf => by have h9 := a3 p hp f hf; rw [e08] at h9; exact h9
  have b4 : ∀ j, j < N → ∀ f, f < 17 → C 10 j f = D 10 j f := fun j hj f hf => by have h9 := a4 j hj f hf; rw [e32] at h9; exact h9
  have eP : ∀ g, g < 11 → smP C g = smP D g := fun g hg => sm_congr (fun p hp => b3 p hp g hg)
  have eQ : ∀ g, g < 17 → smQ N C g = smQ N D g := fun g hg => sm_congr (fun j hj => b4 j hj g hg)
  refine ⟨h.V h1, h2.cg h.tl, ?_, fun i hi => by rw [e31]; exact h4 i hi, e21, fun z j hj => ?_⟩
  · obtain ⟨x1, x2, x3, x4, x5, x6, x7, x8⟩ := h3
    refine ⟨fun j hj => ?_, by rw [a1 13 (by decide) (by decide)]; exact x2, by rw [eQ 12 (by decide), eP 5 (by decide)]; exact x3, by rw [eQ 13 (by decide), eP 6 (by decide)]; exact x4, by rw [eQ 14 (by decide), a1 10 (by decide) (by decide)]; exact x5, by rw [eP 7 (by decide), a1 11 (by decide) (by decide)]; exact x6, by rw [eP 8 (by decide), eP 9 (by decide)]; exact x7, by unfold mon at x8 ⊢; rw [a1 6 (by decide) (by decide), eP 0 (by decide)]; exact x8⟩
    have h9 := x1 j hj
    have k := b4 j hj
    unfold RQ at h9 ⊢
    rw [a2.2, k 0 (by decide), k 2 (by decide), k 3 (by decide), k 5 (by decide), k 6 (by decide), k 7 (by decide), k 8 (by decide), k 9 (by decide), k 10 (by decide), k 11 (by decide), k 16 (by decide)]
    exact h9
  · rw [b4 j hj 0 (by decide), b4 j hj 5 (by decide)]
    rw [a2.2] at z
    exact h6 z j hj
theorem BS.sq0 {q : Int} {C S : xS} {N : Nat} (h : BS q C S) (hN : N ≤ 20) : sq 0 0 4 N S C := sq.of (h.at (by decide) (by decide) (by unfold sct; omega)) (h.at (by decide) (by decide) (by unfold sct; omega)) (fun p hp => h.at (by decide) (by decide) (by unfold sct; omega)) (fun j hj => h.at (by decide) (by decide) (by unfold sct; omega)) (h.at (by decide) (by decide) (by unfold sct; omega)) (h.at (by decide) (by decide) (by unfold sct; omega))
theorem BS.sq2 {q : Int} {C S : xS} {N : Nat} (h : BS q C S) (hN : N ≤ 20) : sq 2 2 4 N S C := sq.of (h.at (by decide) (by decide) (by unfold sct; omega)) (h.at (by decide) (by decide) (by unfold sct; omega)) (fun p hp => h.at (by decide) (by decide) (by unfold sct; omega)) (fun j hj => h.at (by decide) (by decide) (by unfold sct; omega)) (h.at (by decide) (by decide) (by unfold sct; omega)) (h.at (by decide) (by decide) (by unfold sct; omega))
/-! the first of some -/
theorem frs_s2 {g : Nat → Bool} : ∀ (k i : Nat), frs g (k + 1) i = if frs g k i < 0 ∧ g (i + k) = true then ((i + k : Nat) : Int) else frs g k i
  | 0, i => by
    show (if g i = true then (i : Int) else -1) = _
    by_cases c : g i = true
    · rw [if_pos c, if_pos ⟨show (-1 : Int) < 0 by decide, c⟩]; rfl
    · rw [if_neg c, if_neg (fun z => c z.2)]; rfl
  | k + 1, i => by
    have ih := frs_s2 (g := g) k (i + 1)
    show (if g i = true then (i : Int) else frs g (k + 1) (i + 1)) = _
    have e : frs g (k + 1) i = if g i = true then (i : Int) else frs g k (i + 1) := rfl
    rw [e]
    by_cases c : g i = true
    · rw [if_pos c, if_pos c, if_neg (by omega)]
    · rw [if_neg c, if_neg c, ih, show i + 1 + k = i + (k + 1) by omega]
theorem frs_r {g : Nat → Bool} : ∀ (k i : Nat), frs g k i = -1 ∨ (∃ z : Nat, frs g k i = (z : Int) ∧ i ≤ z ∧ z < i + k ∧ g z = true)
  | 0, _ => Or.inl rfl
  | k + 1, i => by
    have e : frs g (k + 1) i = if g i = true then (i : Int) else frs g k (i + 1) := rfl
    rw [e]
    by_cases c : g i = true
    · rw [if_pos c]; exact Or.inr ⟨i, rfl, Nat.le_refl _, by omega, c⟩
    · rw [if_neg c]
      rcases frs_r (g := g) k (i + 1) with h | ⟨z, h1, h2, h3, h4⟩
      · exact Or.inl h
      · exact Or.inr ⟨z, h1, by omega, by omega, h4⟩
theorem frs_0 {g : Nat → Bool} {k : Nat} : frs g (k + 1) 0 = 0 ↔ g 0 = true := by
  have e : frs g (k + 1) 0 = if g 0 = true then ((0 : Nat) : Int) else frs g k 1 := rfl
  rw [e]
  by_cases c : g 0 = true
  · rw [if_pos c]; exact ⟨fun _ => c, fun _ => rfl⟩
  · rw [if_neg c]
    rcases frs_r (g := g) k 1 with h | ⟨z, h1, h2, h3, h4⟩
    · rw [h]; exact ⟨fun z => by omega, fun z => absurd z c⟩
    · rw [h1]; exact ⟨fun y => by omega, fun y => absurd y c⟩
theorem frs_cg {g h : Nat → Bool} : ∀ (k i : Nat), (∀ z, i ≤ z → z < i + k → g z = h z) → frs g k i = frs h k i
  | 0, _, _ => rfl
  | k + 1, i, e => by
    show (if g i = true then (i : Int) else frs g k (i + 1)) = (if h i = true then (i : Int) else frs h k (i + 1))
    rw [e i (Nat.le_refl _) (by omega), frs_cg k (i + 1) (fun z h1 h2 => e z (by omega) (by omega))]
