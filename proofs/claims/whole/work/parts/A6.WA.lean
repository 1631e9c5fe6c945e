/-! the law: its catchers; what holds between the calls -/
/-! the law: its catchers; an int made a long -/
def wr (a : Int) : Int := (Int32.ofInt a).toInt
theorem wr_r (a : Int) : xr (wr a) := by
  unfold wr
  have h1 := Int32.le_toInt (Int32.ofInt a)
  have h2 := Int32.toInt_lt (Int32.ofInt a)
  exact ⟨h1, h2⟩
theorem wr_id {a : Int} (h : xr a) : wr a = a := xn_ti h
section XL
variable {w : xW} {mi : xM} {TG : xT} {k n pc pc' : Nat} {L st : List xV} {S : xS}
theorem xa_i2lw {a : Int} (h : xd mi.2.1 pc .i2l 1 pc') (kk : X w mi TG k n pc' L (xl (wr a) :: st) S) : X w mi TG k n pc L (xi a :: st) S := by
  have h9 := xa_i2l (a := wr a) h (wr_r a) kk
  intro p l e R s m args below meth c H locs cells slots MC MS ls hC hB hR hS hl hL hst
  have h8 := h9 p l e R s m args below meth c H locs cells slots MC MS ls hC hB hR hS hl hL (xok_of (v := xi (wr a)) trivial (xok_cons hst).2)
  rw [List.map_cons, show xc w.1 (xi (wr a)) = xc w.1 (xi a) from congrArg Value.int (Int32.ofInt_toInt _)] at h8
  exact h8
theorem xt_c0 {E : String} {a b c d : Nat} {t : List (Nat × Nat × Nat × Nat)} (ht : mi.2.2.2.2.1 = (a, b, c, d) :: t) (hx : (decide (a ≤ pc) && decide (pc < b)) = true) (h0 : d ≠ 0) (hlink : Cond.classLink mi.1 d E ∈ xtb) (hcast : (E, E) ∈ xcast) (kk : ∀ q, X w mi TG k n c L [xv (.ref q)] S) : XT w mi TG k n pc L st E S :=
  xt_catch [] ⟨a, b, c, d⟩ (tableOf t) (by rw [ht]; rfl) (fun z hz => nomatch hz) hx h0 hlink hcast kk
theorem xt_c1 {E E1 : String} {a1 b1 c1 d1 a b c d : Nat} {t : List (Nat × Nat × Nat × Nat)} (ht : mi.2.2.2.2.1 = (a1, b1, c1, d1) :: (a, b, c, d) :: t) (h1 : d1 ≠ 0) (hl1 : Cond.classLink mi.1 d1 E1 ∈ xtb) (hn1 : (E, E1) ∈ xnot) (hx : (decide (a ≤ pc) && decide (pc < b)) = true) (h0 : d ≠ 0) (hlink : Cond.classLink mi.1 d E ∈ xtb) (hcast : (E, E) ∈ xcast) (kk : ∀ q, X w mi TG k n c L [xv (.ref q)] S) : XT w mi TG k n pc L st E S :=
  xt_catch [⟨a1, b1, c1, d1⟩] ⟨a, b, c, d⟩ (tableOf t) (by rw [ht]; rfl) (fun z hz => by rw [List.mem_singleton.mp hz]; exact Or.inr ⟨h1, E1, hl1, hn1⟩) hx h0 hlink hcast kk
theorem xt_c2 {E E1 E2 : String} {a1 b1 c1 d1 a2 b2 c2 d2 a b c d : Nat} {t : List (Nat × Nat × Nat × Nat)} (ht : mi.2.2.2.2.1 = (a1, b1, c1, d1) :: (a2, b2, c2, d2) :: (a, b, c, d) :: t) (h1 : d1 ≠ 0) (hl1 : Cond.classLink mi.1 d1 E1 ∈ xtb) (hn1 : (E, E1) ∈ xnot) (h2 : d2 ≠ 0) (hl2 : Cond.classLink mi.1 d2 E2 ∈ xtb) (hn2 : (E, E2) ∈ xnot) (hx : (decide (a ≤ pc) && decide (pc < b)) = true) (h0 : d ≠ 0) (hlink : Cond.classLink mi.1 d E ∈ xtb) (hcast : (E, E) ∈ xcast) (kk : ∀ q, X w mi TG k n c L [xv (.ref q)] S) : XT w mi TG k n pc L st E S :=
  xt_catch [⟨a1, b1, c1, d1⟩, ⟨a2, b2, c2, d2⟩] ⟨a, b, c, d⟩ (tableOf t) (by rw [ht]; rfl) (fun z hz => by
    rcases List.mem_cons.mp hz with rfl | hz
    · exact Or.inr ⟨h1, E1, hl1, hn1⟩
    · rw [List.mem_singleton.mp hz]; exact Or.inr ⟨h2, E2, hl2, hn2⟩) hx h0 hlink hcast kk
end XL
/-! what holds between the calls -/
theorem VS.cls {s n N : Nat} {T : Int} {C D : xS} (h : VS s n N T C) (e : ∀ x y, (x = 1 ∧ y = s) ∨ (x = 2 ∧ y = s) ∨ (x = 4 ∧ 8 * s ≤ y ∧ y < 8 * s + 8) ∨ (x = 5 ∧ y = s) ∨ (x = 10 ∧ 32 * s ≤ y ∧ y < 32 * s + 32) ∨ (x = 25 ∧ y = s) → D x y = C x y) : VS s n N T D := by
  obtain ⟨⟨a1, a2, a3, a4⟩, b, c, d, f, g, i⟩ := h
  have e2 := e 2 s (by omega)
  refine ⟨⟨by rw [e2]; exact a1, a2, by rw [e2]; exact a3, fun j hj => ?_⟩, b, c, by rw [e 1 s (by omega)]; exact d, fun p hp => ?_, fun j hj => ?_, by rw [e 5 s (by omega), e 25 s (by omega)]; exact i⟩
  · rw [e2, e 10 (32 * s + j) (by omega)]; exact a4 j hj
  · rw [e 4 (8 * s + p) (by omega)]; exact f p hp
  · rw [e2, e 10 (32 * s + j) (by omega)]; exact g j hj
def TXI (c : Nat) (S : xS) : Prop := TB c S S ∧ S 30 0 20 = S 3 0 4 ∧ S 30 0 21 = S 3 0 5 ∧ (0 ≤ S 3 0 9 ∧ S 3 0 9 ≤ 10000000)
def SVI (T : Int) (S : xS) : Prop := ∀ i, i < 2 → (S 21 0 i = 0 ∨ S 21 0 i = 1) ∧ S 34 0 i = S 21 0 i ∧ (S 21 0 i = 1 → ∃ k N, VS (2 + i) k N T S ∧ Fut (2 + i) N S ∧ Rel (2 + i) k N S (fun f => S 33 0 (527 * i + f)))
def INV (T : Int) (n N c : Nat) (S : xS) : Prop := VS 0 n N T S ∧ Fut 0 N S ∧ Rel 0 n N S (S 31 0) ∧ TXI c S ∧ SVI T S
/-- what the class has left: the store of the answer, and the answer in the law's own array -/
def oS (v : Prop) (o : xO) (S1 : xS) : Prop := ∃ S', scr S' o.2.2.2.2 ∧ ((o.1 = 0 ∧ S1 = up S' 42 0 0 (wr o.2.1)) ∨ ((o.1 ≠ 0 ∨ v) ∧ S1 = S'))
theorem oS.at {v : Prop} {o : xO} {S1 : xS} (h : oS v o S1) : ∀ x y, x ≠ 42 → ¬ sct x y → S1 x y = o.2.2.2.2 x y := fun x y h1 h2 => by
  obtain ⟨S', hs, ⟨-, e⟩ | ⟨-, e⟩⟩ := h
  · rw [e, up_oth (by omega)]; exact hs x y h2
  · rw [e]; exact hs x y h2
theorem oS.m {v : Prop} {o : xO} {S1 S : xS} (h : oS v o S1) (hx : xts 0 o.2.2.2.2 S) {x y : Nat} (h1 : x ≠ 42) (h2 : ¬ sct x y) (h3 : ¬ (x = 1 ∧ y = 0)) (h4 : ¬ (x = 2 ∧ y = 0)) (h5 : ¬ (x = 4 ∧ y < 8)) (h6 : ¬ (x = 5 ∧ y = 0)) (h7 : ¬ (x = 10 ∧ y < 32)) (h8 : ¬ (x = 25 ∧ y = 0)) : S1 x y = S x y := (h.at x y h1 h2).trans (hx x y h3 h4 (by omega) h6 (by omega) h8)
theorem SVI.step {T T' : Int} {S X : xS} (h : SVI T S) (hT : T ≤ T') (e : ∀ x y, (x = 21 ∧ y = 0) ∨ (x = 34 ∧ y = 0) ∨ (x = 33 ∧ y = 0) ∨ (x = 1 ∧ (y = 2 ∨ y = 3)) ∨ (x = 2 ∧ (y = 2 ∨ y = 3)) ∨ (x = 4 ∧ 16 ≤ y ∧ y < 32) ∨ (x = 5 ∧ (y = 2 ∨ y = 3)) ∨ (x = 10 ∧ 64 ≤ y ∧ y < 128) ∨ (x = 25 ∧ (y = 2 ∨ y = 3)) → X x y = S x y) : SVI T' X := fun i hi => by
  obtain ⟨h1, h2, h3⟩ := h i hi
  rw [e 21 0 (by omega), e 34 0 (by omega)]
  refine ⟨h1, h2, fun z => ?_⟩
  obtain ⟨k, N, v, f, r⟩ := h3 z
  have ec : ∀ x y, (x = 1 ∧ y = 2 + i) ∨ (x = 2 ∧ y = 2 + i) ∨ (x = 4 ∧ 8 * (2 + i) ≤ y ∧ y < 8 * (2 + i) + 8) ∨ (x = 5 ∧ y = 2 + i) ∨ (x = 10 ∧ 32 * (2 + i) ≤ y ∧ y < 32 * (2 + i) + 32) ∨ (x = 25 ∧ y = 2 + i) → X x y = S x y := fun x y q => e x y (by omega)
  refine ⟨k, N, (v.cls ec).mono hT, f.of (ec 2 (2 + i) (by omega)) (fun j hj => ec 10 _ (by have := v.2.1; omega)), ?_⟩
  rw [e 33 0 (by omega)]
  exact r.cls v.2.2.1 v.2.1 ec
theorem oS.val {o : xO} {S1 : xS} (h : oS False o S1) (e : o.1 = 0) : S1 42 0 0 = wr o.2.1 := by
  obtain ⟨S', hs, ⟨-, e2⟩ | ⟨e2, -⟩⟩ := h
  · rw [e2, up_same]
  · exact absurd e (by rcases e2 with e2 | e2; exact e2; exact e2.elim)
/-- a call on both sides that leaves the texts and the saved states -/
theorem INV.step {T : Int} {n N c : Nat} {S S1 S2 : xS} {v : Prop} {o : xO} {M : Nat → Int} (h : INV T n N c S) (io : Ivo T S o) (a : oS v o S1) (f : rfr S2 S1) (r : Rel 0 o.2.2.1 o.2.2.2.1 o.2.2.2.2 M) : INV (T + 1500) o.2.2.1 o.2.2.2.1 c (stM M S2) := by
  obtain ⟨hv, hf, hr, ⟨⟨t1, t2, t3, t4⟩, t5, t6, t7⟩, hs⟩ := h
  obtain ⟨iv, iF, ix⟩ := io
  have eX : ∀ x y, (x < 30 ∨ x = 33 ∨ x = 34 ∨ 41 ≤ x) → stM M S2 x y = S1 x y := fun x y q => by rw [stM_k (by omega)]; exact f.1 x y q
  have e0 : ∀ x y, (x = 1 ∧ y = 0) ∨ (x = 2 ∧ y = 0) ∨ (x = 4 ∧ 8 * 0 ≤ y ∧ y < 8 * 0 + 8) ∨ (x = 5 ∧ y = 0) ∨ (x = 10 ∧ 32 * 0 ≤ y ∧ y < 32 * 0 + 32) ∨ (x = 25 ∧ y = 0) → stM M S2 x y = o.2.2.2.2 x y := fun x y q => (eX x y (by omega)).trans (a.at x y (by omega) (by unfold sct; omega))
  have eS : ∀ x y, (x < 30 ∨ x = 33 ∨ x = 34 ∨ x = 41) → ¬ sct x y → ¬ (x = 1 ∧ y = 0) → ¬ (x = 2 ∧ y = 0) → ¬ (x = 4 ∧ y < 8) → ¬ (x = 5 ∧ y = 0) → ¬ (x = 10 ∧ y < 32) → ¬ (x = 25 ∧ y = 0) → stM M S2 x y = S x y := fun x y q h1 h2 h3 h4 h5 h6 h7 => (eX x y (by omega)).trans (a.m ix (by omega) h1 h2 h3 h4 h5 h6 h7)
  have e30 : ∀ g, g = 14 ∨ g = 20 ∨ g = 21 → stM M S2 30 0 g = S 30 0 g := fun g hg => by rw [stM_k (by decide), f.2 g hg, a.m ix (by decide) (by unfold sct; omega) (by omega) (by omega) (by omega) (by omega) (by omega) (by omega)]
  have e3 : stM M S2 3 0 = S 3 0 := eS 3 0 (by omega) (by unfold sct; omega) (by omega) (by omega) (by omega) (by omega) (by omega) (by omega)
  refine ⟨iv.cls e0, iF.of (e0 2 0 (by omega)) (fun j hj => e0 10 _ (by have := iv.2.1; omega)), ?_, ⟨⟨by rw [e30 14 (by omega)]; exact t1, by rw [e3]; exact t2, t3, ?_⟩, by rw [e30 20 (by omega), e3]; exact t5, by rw [e30 21 (by omega), e3]; exact t6, by rw [e3]; exact t7⟩, ?_⟩
  · rw [stM_31]
    exact r.cls iv.2.2.1 iv.2.1 e0
  · rw [eS 24 0 (by omega) (by unfold sct; omega) (by omega) (by omega) (by omega) (by omega) (by omega) (by omega), eS 41 0 (by omega) (by unfold sct; omega) (by omega) (by omega) (by omega) (by omega) (by omega) (by omega)]
    exact t4
  · exact hs.step (by omega) (fun x y q => eS x y (by omega) (by unfold sct; omega) (by omega) (by omega) (by omega) (by omega) (by omega) (by omega))
