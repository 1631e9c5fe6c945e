/-! what a timeline's course rests on; more that holds on -/
def tlf (f : Nat) : Prop := f = 0 ∨ (2 ≤ f ∧ f ≤ 7)
def tlq (u v N : Nat) (C D : xS) : Prop := C 2 u 2 = D 2 v 2 ∧ ∀ j, j < N → ∀ f, tlf f → C 10 (32 * u + j) f = D 10 (32 * v + j) f
theorem tlq.rf {u N : Nat} {C : xS} : tlq u u N C C := ⟨rfl, fun _ _ _ _ => rfl⟩
theorem tlq.tr {u v z N : Nat} {C D E : xS} (h : tlq u v N C D) (g : tlq v z N D E) : tlq u z N C E := ⟨h.1.trans g.1, fun j hj f hf => (h.2 j hj f hf).trans (g.2 j hj f hf)⟩
theorem tlq.of {u N : Nat} {C D : xS} (h2 : C 2 u 2 = D 2 u 2) (h : ∀ j, j < N → C 10 (32 * u + j) = D 10 (32 * u + j)) : tlq u u N C D := ⟨h2, fun j hj f _ => by rw [h j hj]⟩
theorem tlq.xtl {u t N : Nat} {C D : xS} (h : xtl u D C) (hN : N ≤ 32) (hu : u ≠ t) : tlq t t N D C := ⟨by rw [h 2 t (by omega) (by omega)], fun j hj f _ => by rw [h 10 (32 * t + j) (by omega) (by omega)]⟩
theorem tlq.cpy {t u N : Nat} {C : xS} : tlq u t N (cpyT t u N C) C := by
  refine ⟨by unfold cpyT; rw [if_neg (by omega), if_pos ⟨rfl, rfl, rfl⟩], fun j hj f _ => ?_⟩
  unfold cpyT
  rw [if_neg (by omega), if_neg (by omega), if_pos ⟨rfl, by omega, by omega⟩, Nat.add_sub_cancel_left]
theorem xrel_tl {F G : Nat → Int} (h : ∀ f, tlf f → F f = G f) : ∀ f, tlf f → xrel F f = xrel G f := by
  intro f hf
  have a : f = 0 ∨ f = 2 ∨ f = 3 ∨ f = 4 ∨ f = 5 ∨ f = 6 ∨ f = 7 := by unfold tlf at hf; omega
  have k : ∀ x, x = 0 ∨ (2 ≤ x ∧ x ≤ 7) → F x = G x := fun x hx => h x hx
  rcases a with rfl | rfl | rfl | rfl | rfl | rfl | rfl
  · exact k 0 (by omega)
  · exact k 2 (by omega)
  · exact k 3 (by omega)
  · exact k 4 (by omega)
  · show F 5 + F 2 = G 5 + G 2; rw [k 5 (by omega), k 2 (by omega)]
  · exact k 3 (by omega)
  · show F 5 + F 4 = G 5 + G 4; rw [k 5 (by omega), k 4 (by omega)]
theorem tlq.rel {u v N : Nat} {C D : xS} (h : tlq u v N C D) : tlq u v N (relT u N C) (relT v N D) := by
  refine ⟨by rw [show relT u N C 2 u 2 = C 2 u 2 by unfold relT; rw [if_neg (by omega)], show relT v N D 2 v 2 = D 2 v 2 by unfold relT; rw [if_neg (by omega)]]; exact h.1, fun j hj f hf => ?_⟩
  have e0 := h.2 j hj 0 (Or.inl rfl)
  have e5 := h.2 j hj 5 (Or.inr (by decide))
  unfold relT
  by_cases c : C 10 (32 * u + j) 0 = 0 ∧ C 10 (32 * u + j) 5 = C 2 u 2
  · rw [if_pos ⟨rfl, by omega, by omega, c⟩, if_pos ⟨rfl, by omega, by omega, by rw [← e0, ← e5, ← h.1]; exact c⟩]
    exact xrel_tl (h.2 j hj) f hf
  · rw [if_neg (fun z => c z.2.2.2), if_neg (fun z => c (by rw [e0, e5, h.1]; exact z.2.2.2))]
    exact h.2 j hj f hf
theorem tlq.bst {u v N : Nat} {C D : xS} (h : tlq u v N C D) : ∀ i, i ≤ N → bstT u C i = bstT v D i
  | 0, _ => rfl
  | i + 1, hi => by
    have ih := h.bst i (by omega)
    have k : ∀ j, j ≤ i → C 10 (32 * u + j) 6 = D 10 (32 * v + j) 6 ∧ C 10 (32 * u + j) 7 = D 10 (32 * v + j) 7 := fun j hj => ⟨h.2 j (by omega) 6 (Or.inr (by decide)), h.2 j (by omega) 7 (Or.inr (by decide))⟩
    unfold bstT
    rw [(k i (Nat.le_refl _)).1, ih]
    cases hb : bstT v D i with
    | none => rfl
    | some b =>
      have hl := bstT_lt hb
      dsimp only
      rw [(k i (Nat.le_refl _)).2, (k b (by omega)).2]
theorem tlq.cho {u v N : Nat} {C D : xS} (h : tlq u v N C D) : tlq u v N (choT u N C) (choT v N D) := by
  unfold choT
  rw [h.bst N (Nat.le_refl _)]
  cases hb : bstT v D N with
  | none => exact h
  | some b =>
    have hl := bstT_lt hb
    unfold decT
    dsimp only
    refine ⟨by rw [up_k (by decide), up_k (by decide)]; exact h.1, fun j hj f hf => ?_⟩
    rw [up_app, up_app, h.2 b hl.1 6 (Or.inr (by decide))]
    by_cases c : j = b ∧ f = 6
    · rw [if_pos ⟨rfl, by omega, c.2⟩, if_pos ⟨rfl, by omega, c.2⟩]
    · rw [if_neg (by omega), if_neg (by omega)]; exact h.2 j hj f hf
theorem tlq.gro {u v N : Nat} {C D : xS} (h : tlq u v N C D) : tlq u v N (groT u N C) (groT v N D) := by
  refine ⟨by unfold groT; rw [if_pos ⟨rfl, rfl, rfl⟩, if_pos ⟨rfl, rfl, rfl⟩, h.1], fun j hj f hf => ?_⟩
  unfold groT
  rw [if_neg (by omega), if_pos ⟨rfl, by omega, by omega⟩, if_neg (by omega), if_pos ⟨rfl, by omega, by omega⟩]
  have e6 := h.2 j hj 6 (Or.inr (by decide))
  have e7 := h.2 j hj 7 (Or.inr (by decide))
  unfold xmis
  rw [e6, e7, h.1]
  have f16 : f ≠ 16 := by unfold tlf at hf; omega
  by_cases c : 0 < D 10 (32 * v + j) 6 ∧ D 10 (32 * v + j) 7 ≤ D 2 v 2 + 1
  · rw [if_pos c, if_pos c]
    by_cases c6 : f = 6
    · rw [if_pos c6, if_pos c6]
    · rw [if_neg c6, if_neg c6, if_neg f16, if_neg f16]; exact h.2 j hj f hf
  · rw [if_neg c, if_neg c]; exact h.2 j hj f hf
theorem tlq.mis {u v N : Nat} {C D : xS} (h : tlq u v N C D) : misT u N C = misT v N D := by
  unfold misT
  refine sm_congr (fun j hj => ?_)
  rw [h.2 j hj 6 (Or.inr (by decide)), h.2 j hj 7 (Or.inr (by decide)), h.1]
theorem tlq.tck {u v N : Nat} {C D : xS} (h : tlq u v N C D) : tlq u v N (tckT u N C) (tckT v N D) := h.rel.cho.gro
theorem tlq.ok {u v N : Nat} : ∀ {n : Nat} {C D : xS}, tlq u v N C D → okT u N n C = okT v N n D
  | 0, _, _, _ => rfl
  | n + 1, C, D, h => by
    unfold okT
    rw [h.rel.cho.mis, h.tck.ok]
theorem tlq.fre {u v N : Nat} : ∀ {n : Nat} {C D : xS}, tlq u v N C D → freT u N n C = freT v N n D
  | 0, _, _, _ => rfl
  | n + 1, C, D, h => by
    unfold freT
    rw [h.rel.bst N (Nat.le_refl _), h.tck.fre]
theorem xtic_tl {F G : Nat → Int} (h : ∀ f, tlf f → F f = G f) : xtic F = xtic G := by
  unfold xtic
  rw [h 2 (Or.inr (by decide)), h 3 (Or.inr (by decide))]
theorem tlq.add {u v N : Nat} {o p b d : Int} {C D : xS} (h : tlq u v N C D) : tlq u v (N + 1) (addT u N o p b d C) (addT v N o p b d D) := by
  refine ⟨by unfold addT; rw [if_neg (by omega), if_neg (by omega), if_neg (by omega), if_neg (by omega)]; exact h.1, fun j hj f hf => ?_⟩
  unfold addT
  by_cases c : j = N
  · subst c
    rw [if_neg (by omega), if_pos ⟨rfl, rfl⟩, if_neg (by omega), if_pos ⟨rfl, rfl⟩, h.1]
  · rw [if_neg (by omega), if_neg (by omega), if_neg (by omega), if_neg (by omega)]
    exact h.2 j (by omega) f hf
theorem tlq.cyc {u v N : Nat} {C D : xS} (h : tlq u v N C D) : cycT u N C = cycT v N D := by
  unfold cycT
  refine sm_congr (fun j hj => ?_)
  rw [h.2 j hj 0 (Or.inl rfl), xtic_tl (h.2 j hj)]
/-- wherever it is tried -/
theorem tlq.acc {t t' u u' N : Nat} {p b d : Int} {C D : xS} (h : tlq t t' N C D) : accF t u N p b d C = accF t' u' N p b d D := by
  have h1 : tlq u u' (N + 1) (addT u N (-1) p b d (cpyT t u N C)) (addT u' N (-1) p b d (cpyT t' u' N D)) := by
    refine tlq.add ⟨?_, fun j hj f hf => ?_⟩
    · rw [(tlq.cpy (t := t) (u := u) (N := N) (C := C)).1, (tlq.cpy (t := t') (u := u') (N := N) (C := D)).1]; exact h.1
    · rw [(tlq.cpy (t := t) (u := u) (N := N) (C := C)).2 j hj f hf, (tlq.cpy (t := t') (u := u') (N := N) (C := D)).2 j hj f hf]; exact h.2 j hj f hf
  unfold accF
  rw [h1.cyc, h1.ok]
theorem freS_o {s n : Nat} {C : xS} {k : Nat} (h1 : k ≠ 1) (h4 : k ≠ 4) : freS s n C k = C k := by
  funext j f
  unfold freS
  split
  · rw [up_k h1]
  · unfold frpS
    rw [up_k h1, up_k h1, up_k h4, up_k h4]
theorem useS_o {s n b : Nat} {C : xS} {k j f : Nat} (h1 : k ≠ 1) (h4 : k ≠ 4) (hf : k ≠ 10 ∨ f ≠ 12 ∧ f ≠ 13 ∧ f ≠ 14) : useS s n b C k j f = C k j f := by
  have e : ∀ (D : xS) (g : Nat) (v : Int), (g = 12 ∨ g = 13 ∨ g = 14) → up D 10 b g v k j f = D k j f := fun D g v hg => by rw [up_app, if_neg (by omega)]
  unfold useS
  split
  · unfold usdS
    rw [up_k h1, e _ _ _ (Or.inl rfl), up_k h4, up_k h4]
  · cases hbdS s C n with
    | none =>
      show wstS s _ b C k j f = _
      unfold wstS pnlS
      rw [up_k h1, e _ _ _ (Or.inr (Or.inr rfl)), up_k h1, up_k h4, up_k h4]
    | some q =>
      show sltS s _ _ b C k j f = _
      unfold sltS slcS
      rw [up_k h1, e _ _ _ (Or.inr (Or.inl rfl)), up_k h4, up_k h4, up_k h4, up_k h4, up_k h4, up_k h4]
/-- a tick of the state is a tick of its timeline -/
theorem tlq.act {s n N : Nat} {C : xS} : tlq s s N (actS s n N C) (choT s N C) := by
  unfold actS choT
  cases hb : bstT s C N with
  | none =>
    show tlq s s N (freS s n C) C
    exact ⟨by rw [freS_o (by decide) (by decide)], fun j _ f _ => by rw [freS_o (by decide) (by decide)]⟩
  | some b =>
    show tlq s s N (useS s n (32 * s + b) (decT s (some b) C)) (decT s (some b) C)
    exact ⟨by rw [useS_o (by decide) (by decide) (Or.inl (by decide))], fun j _ f hf => by rw [useS_o (by decide) (by decide) (Or.inr (by unfold tlf at hf; omega))]⟩
theorem tlq.tckS {s n N : Nat} {C : xS} : tlq s s N (tckS s n N C) (tckT s N C) := by
  have h1 : tlq s s N (arrS s n C) C := ⟨by rw [arrS_o (by decide)], fun j _ f _ => by rw [arrS_o (by decide)]⟩
  have h2 : tlq s s N (actS s n N (relT s N (arrS s n C))) (choT s N (relT s N C)) := tlq.act.tr h1.rel.cho
  have h3 : ∀ E : xS, tlq s s N (endS s N E) (groT s N E) := fun E => ⟨by unfold endS; rw [up_k (by decide)], fun j _ f _ => by unfold endS; rw [up_k (by decide)]⟩
  exact (h3 _).tr h2.gro
/-! a new promise, an ended one, a split one -/
theorem VS.pro {n N : Nat} {T o p b d : Int} {S : xS} (h : VS 0 n N T S) (hN : N < 20) (ho : 0 ≤ o ∧ o < n) (hp : 1 ≤ p ∧ p ≤ 120) (hb : 1 ≤ b) (hd : b ≤ d ∧ d ≤ p) : VS 0 n (N + 1) T (addT 0 N o p b d S) := by
  obtain ⟨hV, h2, h3, h4, h5, h6, h7⟩ := h
  have e : ∀ k, k ≠ 2 → k ≠ 10 → addT 0 N o p b d S k = S k := fun k hk hk2 => by funext j f; unfold addT; rw [if_neg (by omega), if_neg (by omega)]
  have et : addT 0 N o p b d S 2 0 2 = S 2 0 2 := by unfold addT; rw [if_neg (by omega), if_neg (by omega)]
  have htm := hV.2.2.1
  refine ⟨hV.add (by omega) hp (by omega) (by omega), by omega, h3, by rw [e 1 (by decide) (by decide)]; exact h4, fun q hq => by rw [e 4 (by decide) (by decide)]; exact h5 q hq, fun j hj => ?_, by rw [e 5 (by decide) (by decide), e 25 (by decide) (by decide)]; exact h7⟩
  rw [et]
  by_cases c : j = N
  · subst c
    have er : addT 0 j o p b d S 10 (32 * 0 + j) = xbeg o p b d (S 2 0 2) := by funext f; unfold addT; rw [if_neg (by omega), if_pos ⟨rfl, rfl⟩]
    rw [er]
    show (0 ≤ o ∧ o < n) ∧ ((0 : Int) < 0 → 0 ≤ (-1 : Int) ∧ (-1 : Int) < n) ∧ (-1 ≤ (-1 : Int) ∧ (-1 : Int) < n) ∧ (-1 ≤ (-1 : Int) ∧ (-1 : Int) ≤ 99999) ∧ (0 ≤ (0 : Int) ∧ (0 : Int) ≤ 50) ∧ ((0 : Int) < 0 → 0 ≤ (-1 : Int) ∧ (-1 : Int) < n) ∧ ((0 : Int) = 0 → (-1 : Int) = -1) ∧ (0 ≤ (0 : Int) ∧ 0 ≤ T) ∧ (0 ≤ (0 : Int) ∧ 0 ≤ T) ∧ (0 ≤ (0 : Int) ∧ 0 ≤ T) ∧ (b ≤ d ∧ d ≤ p) ∧ ((0 : Int) < 0 → S 2 0 2 < (-1 : Int))
    omega
  · have er : addT 0 N o p b d S 10 (32 * 0 + j) = S 10 (32 * 0 + j) := by funext f; unfold addT; rw [if_neg (by omega), if_neg (by omega)]
    rw [er]
    exact h6 j (by omega)
/-- one promise's row changes -/
theorem VS.qrow {n N j : Nat} {T : Int} {S : xS} {F : Nat → Int} (h : VS 0 n N T S) (hj : j < N) (hT : TQ (S 2 0 2) T F) (hO : OQ n (S 2 0 2) T F) : VS 0 n N T (rwS 10 (32 * 0 + j) F S) := by
  obtain ⟨⟨a1, a2, a3, a4⟩, h2, h3, h4, h5, h6, h7⟩ := h
  have e : ∀ k, k ≠ 10 → rwS 10 (32 * 0 + j) F S k = S k := fun k hk => by funext y f; unfold rwS; rw [if_neg (by omega)]
  refine ⟨⟨by rw [e 2 (by decide)]; exact a1, a2, by rw [e 2 (by decide)]; exact a3, fun i hi => ?_⟩, h2, h3, by rw [e 1 (by decide)]; exact h4, by rw [e 4 (by decide)]; exact h5, fun i hi => ?_, by rw [e 5 (by decide), e 25 (by decide)]; exact h7⟩
  · rw [e 2 (by decide)]
    by_cases c : i = j
    · subst c; rw [rwS_at]; exact hT
    · rw [rwS_oth (by omega)]; exact a4 i hi
  · rw [e 2 (by decide)]
    by_cases c : i = j
    · subst c; rw [rwS_at]; exact hO
    · rw [rwS_oth (by omega)]; exact h6 i hi
theorem VS.end {n N j : Nat} {T : Int} {S : xS} (h : VS 0 n N T S) (hj : j < N) : VS 0 n N T (rwS 10 (32 * 0 + j) (xfin (S 10 (32 * 0 + j))) S) := by
  have hT := h.t hj
  have hO := h.o hj
  have ht := h.1.2.2.1
  unfold TQ at hT
  unfold OQ at hO
  have eo : ∀ f, f ≠ 0 → f ≠ 5 → f ≠ 6 → f ≠ 7 → f ≠ 9 → f ≠ 10 → f ≠ 11 → xfin (S 10 (32 * 0 + j)) f = S 10 (32 * 0 + j) f := fun f f0 f5 f6 f7 f9 f10 f11 => by unfold xfin; rw [if_neg f0, if_neg f5, if_neg f6, if_neg f7, if_neg f9, if_neg f10, if_neg f11]
  have q0 : xfin (S 10 (32 * 0 + j)) 0 = 1 := rfl
  have q5 : xfin (S 10 (32 * 0 + j)) 5 = -1 := rfl
  have q6 : xfin (S 10 (32 * 0 + j)) 6 = 0 := rfl
  have q7 : xfin (S 10 (32 * 0 + j)) 7 = -1 := rfl
  have q9 : xfin (S 10 (32 * 0 + j)) 9 = -1 := rfl
  have q10 : xfin (S 10 (32 * 0 + j)) 10 = -1 := rfl
  have q11 : xfin (S 10 (32 * 0 + j)) 11 = 0 := rfl
  refine h.qrow hj ?_ ?_
  · unfold TQ
    rw [q0, q5, q6, q7, eo 2 (by decide) (by decide) (by decide) (by decide) (by decide) (by decide) (by decide), eo 3 (by decide) (by decide) (by decide) (by decide) (by decide) (by decide) (by decide), eo 4 (by decide) (by decide) (by decide) (by decide) (by decide) (by decide) (by decide), eo 15 (by decide) (by decide) (by decide) (by decide) (by decide) (by decide) (by decide), eo 16 (by decide) (by decide) (by decide) (by decide) (by decide) (by decide) (by decide)]
    omega
  · unfold OQ
    rw [q6, q7, q9, q10, q11, eo 1 (by decide) (by decide) (by decide) (by decide) (by decide) (by decide) (by decide), eo 2 (by decide) (by decide) (by decide) (by decide) (by decide) (by decide) (by decide), eo 3 (by decide) (by decide) (by decide) (by decide) (by decide) (by decide) (by decide), eo 4 (by decide) (by decide) (by decide) (by decide) (by decide) (by decide) (by decide), eo 8 (by decide) (by decide) (by decide) (by decide) (by decide) (by decide) (by decide), eo 12 (by decide) (by decide) (by decide) (by decide) (by decide) (by decide) (by decide), eo 13 (by decide) (by decide) (by decide) (by decide) (by decide) (by decide) (by decide), eo 14 (by decide) (by decide) (by decide) (by decide) (by decide) (by decide) (by decide)]
    omega
theorem VS.div {n N j : Nat} {T a : Int} {S : xS} (h : VS 0 n N T S) (hN : N < 20) (hj : j < N) (ha : 1 ≤ a ∧ a ≤ S 10 (32 * 0 + j) 3 - 1) (h0 : S 10 (32 * 0 + j) 0 = 0) : VS 0 n (N + 1) T (divS 0 N j a S) := by
  obtain ⟨⟨a1, a2, a3, a4⟩, h2, h3, h4, h5, h6, h7⟩ := h
  have e : ∀ k, k ≠ 10 → k ≠ 2 → divS 0 N j a S k = S k := fun k hk hk2 => by funext y f; unfold divS; rw [if_neg (by omega), if_neg (by omega), if_neg (by omega)]
  have e21 : divS 0 N j a S 2 0 1 = (N : Int) + 1 := by unfold divS; rw [if_neg (by omega), if_neg (by omega), if_pos ⟨rfl, rfl, rfl⟩]
  have e22 : divS 0 N j a S 2 0 2 = S 2 0 2 := by unfold divS; rw [if_neg (by omega), if_neg (by omega), if_neg (by omega)]
  have er : ∀ i, i ≠ j → i ≠ N → divS 0 N j a S 10 (32 * 0 + i) = S 10 (32 * 0 + i) := fun i hi hiN => by funext f; unfold divS; rw [if_neg (by omega), if_neg (by omega), if_neg (by omega)]
  have ej : divS 0 N j a S 10 (32 * 0 + j) = xgr1 a (S 10 (32 * 0 + j)) := by funext f; unfold divS; rw [if_pos ⟨rfl, rfl⟩]
  have eN : divS 0 N j a S 10 (32 * 0 + N) = xgr2 a (S 10 (32 * 0 + j)) (xbeg (S 10 (32 * 0 + j) 1) (S 10 (32 * 0 + j) 2) (S 10 (32 * 0 + j) 3 - a) (S 10 (32 * 0 + j) 4) (S 2 0 2)) := by funext f; unfold divS; rw [if_neg (by omega), if_pos ⟨rfl, rfl⟩]
  have hT := a4 j hj
  have hO := h6 j hj
  unfold TQ at hT
  unfold OQ at hO
  have hx := xmin_or (S 10 (32 * 0 + j) 6) a
  have hx2 := xmin_le (S 10 (32 * 0 + j) 6) a
  have hy := xmax_or 0 (S 10 (32 * 0 + j) 6 - a)
  have hy2 : 0 ≤ xmax 0 (S 10 (32 * 0 + j) 6 - a) := by unfold xmax; split <;> omega
  have p3 : xgr1 a (S 10 (32 * 0 + j)) 3 = a := rfl
  have p6 : xgr1 a (S 10 (32 * 0 + j)) 6 = xmin (S 10 (32 * 0 + j) 6) a := rfl
  have po : ∀ f, f ≠ 3 → f ≠ 6 → xgr1 a (S 10 (32 * 0 + j)) f = S 10 (32 * 0 + j) f := fun f f3 f6 => by unfold xgr1; rw [if_neg f3, if_neg f6]
  refine ⟨⟨by rw [e21]; omega, by omega, by rw [e22]; exact a3, fun i hi => ?_⟩, by omega, h3, by rw [e 1 (by decide) (by decide)]; exact h4, fun q hq => by rw [e 4 (by decide) (by decide)]; exact h5 q hq, fun i hi => ?_, by rw [e 5 (by decide) (by decide), e 25 (by decide) (by decide)]; exact h7⟩
  · rw [e22]
    by_cases c : i = j
    · subst c
      rw [ej]
      unfold TQ
      rw [po 0 (by decide) (by decide), po 2 (by decide) (by decide), p3, po 4 (by decide) (by decide), po 5 (by decide) (by decide), p6, po 7 (by decide) (by decide), po 15 (by decide) (by decide), po 16 (by decide) (by decide)]
      omega
    · by_cases c2 : i = N
      · subst c2
        rw [eN]
        generalize hF : S 10 (32 * 0 + j) = F at *
        show ((0 : Int) = 0 ∨ (0 : Int) = 1) ∧ (1 ≤ F 2 ∧ F 2 ≤ 120) ∧ (1 ≤ F 3 - a ∧ F 3 - a ≤ 120) ∧ (1 ≤ F 4 ∧ F 4 ≤ 120) ∧ (-1 ≤ F 5 ∧ F 5 ≤ S 2 0 2 + 120) ∧ (0 ≤ xmax 0 (F 6 - a) ∧ xmax 0 (F 6 - a) ≤ 120) ∧ (-1 ≤ F 7 ∧ F 7 ≤ S 2 0 2 + 120) ∧ (0 ≤ (0 : Int) ∧ 0 ≤ T) ∧ (0 ≤ (0 : Int) ∧ 0 ≤ T) ∧ (0 < xmax 0 (F 6 - a) → (0 : Int) = 0)
        omega
      · rw [er i c c2]; exact a4 i (by omega)
  · rw [e22]
    by_cases c : i = j
    · subst c
      rw [ej]
      unfold OQ
      rw [po 1 (by decide) (by decide), po 2 (by decide) (by decide), p3, po 4 (by decide) (by decide), p6, po 7 (by decide) (by decide), po 8 (by decide) (by decide), po 9 (by decide) (by decide), po 10 (by decide) (by decide), po 11 (by decide) (by decide), po 12 (by decide) (by decide), po 13 (by decide) (by decide), po 14 (by decide) (by decide)]
      omega
    · by_cases c2 : i = N
      · subst c2
        rw [eN]
        generalize hF : S 10 (32 * 0 + j) = F at *
        show (0 ≤ F 1 ∧ F 1 < n) ∧ (0 < xmax 0 (F 6 - a) → 0 ≤ F 8 ∧ F 8 < n) ∧ (-1 ≤ F 8 ∧ F 8 < n) ∧ (-1 ≤ (-1 : Int) ∧ (-1 : Int) ≤ 99999) ∧ (0 ≤ (0 : Int) ∧ (0 : Int) ≤ 50) ∧ ((0 : Int) < 0 → 0 ≤ (-1 : Int) ∧ (-1 : Int) < n) ∧ ((0 : Int) = 0 → (-1 : Int) = -1) ∧ (0 ≤ (0 : Int) ∧ 0 ≤ T) ∧ (0 ≤ (0 : Int) ∧ 0 ≤ T) ∧ (0 ≤ (0 : Int) ∧ 0 ≤ T) ∧ (F 3 - a ≤ F 4 ∧ F 4 ≤ F 2) ∧ (0 < xmax 0 (F 6 - a) → S 2 0 2 < F 7)
        omega
      · rw [er i c c2]; exact h6 i (by omega)

