/-! what each call leaves -/
/-- what a call leaves of the state -/
def Ivo (T : Int) (C : xS) (o : xO) : Prop := VS 0 o.2.2.1 o.2.2.2.1 (T + 1500) o.2.2.2.2 ∧ Fut 0 o.2.2.2.1 o.2.2.2.2 ∧ xts 0 o.2.2.2.2 C
theorem Ivo.same {n N c : Nat} {T v : Int} {C : xS} (h : VS 0 n N T C) (g : Fut 0 N C) : Ivo T C (c, v, n, N, C) := ⟨h.mono (by omega), g, xts.rf⟩
theorem xts.rw4 {p : Nat} {F : Nat → Int} {S1 S2 : xS} (hp : p < 8) (h : xts 0 S2 S1) : xts 0 (rwS 4 (8 * 0 + p) F S2) S1 := fun x y h1 h2 h3 h4 h5 h6 => by
  rw [← h x y h1 h2 h3 h4 h5 h6]
  funext f
  unfold rwS
  rw [if_neg (by omega)]
theorem xts.rw10 {p : Nat} {F : Nat → Int} {S1 S2 : xS} (hp : p < 32) (h : xts 0 S2 S1) : xts 0 (rwS 10 (32 * 0 + p) F S2) S1 := fun x y h1 h2 h3 h4 h5 h6 => by
  rw [← h x y h1 h2 h3 h4 h5 h6]
  funext f
  unfold rwS
  rw [if_neg (by omega)]
theorem Fut.rw4 {N p : Nat} {F : Nat → Int} {S : xS} (h : Fut 0 N S) : Fut 0 N (rwS 4 p F S) := h.of3 (fun a ha => by funext y f; unfold rwS; rw [if_neg (by omega)])
theorem i_process {p a : Int} {n N : Nat} {T : Int} {C : xS} (h : VS 0 n N T C) (g : Fut 0 N C) (hT : 0 ≤ T ∧ T ≤ 800000) : Ivo T C (o_process p a n N C) := by
  unfold o_process
  repeat' split
  all_goals exact Ivo.same h g
theorem i_canAccept {p b d : Int} {n N : Nat} {T : Int} {C : xS} (h : VS 0 n N T C) (g : Fut 0 N C) (hT : 0 ≤ T ∧ T ≤ 800000) : Ivo T C (o_canAccept p b d n N C) := by
  unfold o_canAccept
  repeat' split
  all_goals exact Ivo.same h g
theorem i_greatestBudget {p d : Int} {n N : Nat} {T : Int} {C : xS} (h : VS 0 n N T C) (g : Fut 0 N C) (hT : 0 ≤ T ∧ T ≤ 800000) : Ivo T C (o_greatestBudget p d n N C) := by
  unfold o_greatestBudget
  repeat' split
  all_goals exact Ivo.same h g
theorem i_waitFor {p b d : Int} {n N : Nat} {T : Int} {C : xS} (h : VS 0 n N T C) (g : Fut 0 N C) (hT : 0 ≤ T ∧ T ≤ 800000) : Ivo T C (o_waitFor p b d n N C) := by
  unfold o_waitFor
  repeat' split
  all_goals exact Ivo.same h g
theorem i_told {j a : Int} {n N : Nat} {T : Int} {C : xS} (h : VS 0 n N T C) (g : Fut 0 N C) (hT : 0 ≤ T ∧ T ≤ 800000) : Ivo T C (o_told j a n N C) := by
  unfold o_told
  repeat' split
  all_goals exact Ivo.same h g
theorem i_count {a : Int} {n N : Nat} {T : Int} {C : xS} (h : VS 0 n N T C) (g : Fut 0 N C) (hT : 0 ≤ T ∧ T ≤ 800000) : Ivo T C (o_count a n N C) := by
  unfold o_count
  repeat' split
  all_goals exact Ivo.same h g
theorem i_sales {p q : Int} {n N : Nat} {T : Int} {C : xS} (h : VS 0 n N T C) (g : Fut 0 N C) (hT : 0 ≤ T ∧ T ≤ 800000) : Ivo T C (o_sales p q n N C) := by
  unfold o_sales
  repeat' split
  all_goals exact Ivo.same h g
theorem i_ticksToFinish {q m : Int} {n N : Nat} {T : Int} {C : xS} (h : VS 0 n N T C) (g : Fut 0 N C) (hT : 0 ≤ T ∧ T ≤ 800000) : Ivo T C (o_ticksToFinish q m n N C) := by
  unfold o_ticksToFinish
  repeat' split
  all_goals exact Ivo.same h g
theorem i_moneyAfter {q m : Int} {n N : Nat} {T : Int} {C : xS} (h : VS 0 n N T C) (g : Fut 0 N C) (hT : 0 ≤ T ∧ T ≤ 800000) : Ivo T C (o_moneyAfter q m n N C) := by
  unfold o_moneyAfter
  repeat' split
  all_goals exact Ivo.same h g
theorem i_bestBid {q m : Int} {n N : Nat} {T : Int} {C : xS} (h : VS 0 n N T C) (g : Fut 0 N C) (hT : 0 ≤ T ∧ T ≤ 800000) : Ivo T C (o_bestBid q m n N C) := by
  unfold o_bestBid
  repeat' split
  all_goals exact Ivo.same h g
theorem i_demand {a : Int} {n N : Nat} {T : Int} {C : xS} (h : VS 0 n N T C) (g : Fut 0 N C) (hT : 0 ≤ T ∧ T ≤ 800000) : Ivo T C (o_demand a n N C) := by
  unfold o_demand
  repeat' split
  all_goals exact Ivo.same h g
theorem i_isBounded {p b d : Int} {n N : Nat} {T : Int} {C : xS} (h : VS 0 n N T C) (g : Fut 0 N C) (hT : 0 ≤ T ∧ T ≤ 800000) : Ivo T C (o_isBounded p b d n N C) := by
  unfold o_isBounded
  repeat' split
  all_goals exact Ivo.same h g
theorem i_bank {n N : Nat} {T : Int} {C : xS} (h : VS 0 n N T C) (g : Fut 0 N C) (hT : 0 ≤ T ∧ T ≤ 800000) : Ivo T C (o_bank n N C) := Ivo.same h g
theorem i_partners {n N : Nat} {T : Int} {C : xS} (h : VS 0 n N T C) (g : Fut 0 N C) (hT : 0 ≤ T ∧ T ≤ 800000) : Ivo T C (o_partners n N C) := Ivo.same h g
theorem i_addProcess {a b c : Int} {n N : Nat} {T : Int} {C : xS} (h : VS 0 n N T C) (g : Fut 0 N C) (hT : 0 ≤ T ∧ T ≤ 800000) : Ivo T C (o_addProcess a b c n N C) := by
  have hn8 := h.2.2.1
  have hN20 := h.2.1
  unfold o_addProcess
  split
  · rename_i c1
    split
    · rename_i c2
      split
      · rename_i c3
        split
        · rename_i c4
          exact ⟨(h.ent (by omega) hT.1 c1 c2 c3).mono (by omega), Fut.upo (Fut.rw4 g) (by decide), xts.up1 (xts.rw4 (by omega) xts.rf)⟩
        · exact Ivo.same h g
      · exact Ivo.same h g
    · exact Ivo.same h g
  · exact Ivo.same h g
theorem i_setBid {p b : Int} {n N : Nat} {T : Int} {C : xS} (h : VS 0 n N T C) (g : Fut 0 N C) (hT : 0 ≤ T ∧ T ≤ 800000) : Ivo T C (o_setBid p b n N C) := by
  have hn8 := h.2.2.1
  have hN20 := h.2.1
  unfold o_setBid
  split
  · rename_i c1
    split
    · rename_i c2
      exact ⟨(h.pup (by omega) (by have z := h.p (p := p.toNat) (by omega); unfold PQ at z ⊢; simp (decide := true) only [if_true, if_false]; omega)).mono (by omega), g.upo (by decide), xts.up4 (by omega) xts.rf⟩
    · exact Ivo.same h g
  · exact Ivo.same h g
theorem i_setArrival {p e a : Int} {n N : Nat} {T : Int} {C : xS} (h : VS 0 n N T C) (g : Fut 0 N C) (hT : 0 ≤ T ∧ T ≤ 800000) : Ivo T C (o_setArrival p e a n N C) := by
  have hn8 := h.2.2.1
  have hN20 := h.2.1
  unfold o_setArrival
  split
  · rename_i c1
    split
    · rename_i c2
      split
      · rename_i c3
        have h1 := h.pup (p := p.toNat) (f := 3) (v := e) (by omega) (by have z := h.p (p := p.toNat) (by omega); unfold PQ at z ⊢; simp (decide := true) only [if_true, if_false]; omega)
        exact ⟨(h1.pup (by omega) (by have z := h1.p (p := p.toNat) (by omega); unfold PQ at z ⊢; simp (decide := true) only [if_true, if_false]; omega)).mono (by omega), (g.upo (by decide)).upo (by decide), xts.up4 (by omega) (xts.up4 (by omega) xts.rf)⟩
      · exact Ivo.same h g
    · exact Ivo.same h g
  · exact Ivo.same h g
theorem i_addWork {p t : Int} {n N : Nat} {T : Int} {C : xS} (h : VS 0 n N T C) (g : Fut 0 N C) (hT : 0 ≤ T ∧ T ≤ 800000) : Ivo T C (o_addWork p t n N C) := by
  have hn8 := h.2.2.1
  have hN20 := h.2.1
  unfold o_addWork
  split
  · rename_i c1
    split
    · rename_i c2
      exact ⟨(h.pup (by omega) (by have z := h.p (p := p.toNat) (by omega); unfold PQ at z ⊢; simp (decide := true) only [if_true, if_false]; unfold xmin; omega)).mono (by omega), g.upo (by decide), xts.up4 (by omega) xts.rf⟩
    · exact Ivo.same h g
  · exact Ivo.same h g
theorem i_promise {q p b d : Int} {n N : Nat} {T : Int} {C : xS} (h : VS 0 n N T C) (g : Fut 0 N C) (hT : 0 ≤ T ∧ T ≤ 800000) : Ivo T C (o_promise q p b d n N C) := by
  have hn8 := h.2.2.1
  have hN20 := h.2.1
  unfold o_promise
  split
  · rename_i c1
    split
    · rename_i c2
      split
      · rename_i c3
        split
        · rename_i c4
          obtain ⟨w1, w2, w3⟩ := c2
          have w4 := w1.1
          have w5 := w1.2.1
          exact ⟨(h.pro (by omega) (by omega) (by omega) (by omega) (by omega)).mono (by omega), Fut.acc c4 g.1 w1 (by omega) q, (addT_fr (by omega)).ts⟩
        · exact Ivo.same h g
      · exact Ivo.same h g
    · exact Ivo.same h g
  · exact Ivo.same h g
theorem i_end {j : Int} {n N : Nat} {T : Int} {C : xS} (h : VS 0 n N T C) (g : Fut 0 N C) (hT : 0 ≤ T ∧ T ≤ 800000) : Ivo T C (o_end j n N C) := by
  have hn8 := h.2.2.1
  have hN20 := h.2.1
  unfold o_end
  split
  · rename_i c1
    split
    · rename_i c2
      exact ⟨(h.end (by omega)).mono (by omega), Fut.fin (i := j.toNat) g (show j.toNat < N by omega) h.1.2.2.1.1, xts.rw10 (by omega) xts.rf⟩
    · exact Ivo.same h g
  · exact Ivo.same h g
theorem i_split {j a : Int} {n N : Nat} {T : Int} {C : xS} (h : VS 0 n N T C) (g : Fut 0 N C) (hT : 0 ≤ T ∧ T ≤ 800000) : Ivo T C (o_split j a n N C) := by
  have hn8 := h.2.2.1
  have hN20 := h.2.1
  unfold o_split
  split
  · rename_i c1
    split
    · rename_i c2
      split
      · rename_i c3
        exact ⟨(h.div c3.2 (by omega) c2 c3.1).mono (by omega), Fut.div g (by omega) c3.1 c2, fun x y h1 h2 h3 h4 h5 h6 => by funext f; show divS 0 N j.toNat a C x y f = C x y f; unfold divS; rw [if_neg (by omega), if_neg (by omega), if_neg (by omega)]⟩
      · exact Ivo.same h g
    · exact Ivo.same h g
  · exact Ivo.same h g
theorem i_setRules {p f : Int} {n N : Nat} {T : Int} {C : xS} (h : VS 0 n N T C) (g : Fut 0 N C) (hT : 0 ≤ T ∧ T ≤ 800000) : Ivo T C (o_setRules p f n N C) := by
  have hn8 := h.2.2.1
  have hN20 := h.2.1
  unfold o_setRules
  split
  · rename_i c1
    split
    · rename_i c2
      exact ⟨((h.g4 c1).g5 c2).mono (by omega), (g.upo (by decide)).upo (by decide), xts.up1 (xts.up1 xts.rf)⟩
    · exact Ivo.same h g
  · exact Ivo.same h g
theorem i_ask {j a : Int} {n N : Nat} {T : Int} {C : xS} (h : VS 0 n N T C) (g : Fut 0 N C) (hT : 0 ≤ T ∧ T ≤ 800000) : Ivo T C (o_ask j a n N C) := by
  have hn8 := h.2.2.1
  have hN20 := h.2.1
  unfold o_ask
  split
  · rename_i c1
    split
    · rename_i c2
      split
      · rename_i c3
        exact ⟨(h.q9 (by omega) c2).mono (by omega), g.q (by unfold tlf; omega), xts.up10 (by omega) xts.rf⟩
      · exact Ivo.same h g
    · exact Ivo.same h g
  · exact Ivo.same h g
theorem sel_F {N j q o : Nat} {C : xS} (g : Fut 0 N C) : Fut 0 N (selS 0 (32 * 0 + j) q o C) := by
  unfold selS
  refine Fut.q (f := 9) (Fut.q (f := 1) ?_ (by unfold tlf; omega)) (by unfold tlf; omega)
  exact (((((g.upo (by decide)).upo (by decide)).upo (by decide)).upo (by decide)).upo (by decide)).upo (by decide)
theorem sel_X {j q o : Nat} {C : xS} (hj : j < 32) (hq : q < 8) (ho : o < 8) : xts 0 (selS 0 (32 * 0 + j) q o C) C := fun x y h1 h2 h3 h4 h5 h6 => by
  unfold selS
  rw [up_oth (by omega), up_oth (by omega), up_oth (by omega), up_oth (by omega), up_oth (by omega), up_oth (by omega), up_oth (by omega), up_oth (by omega)]
theorem i_buy {j q : Int} {n N : Nat} {T : Int} {C : xS} (h : VS 0 n N T C) (g : Fut 0 N C) (hT : 0 ≤ T ∧ T ≤ 800000) : Ivo T C (o_buy j q n N C) := by
  have hn8 := h.2.2.1
  have hN20 := h.2.1
  unfold o_buy
  split
  · rename_i c1
    split
    · rename_i c2
      split
      · rename_i c3
        have ho := (h.o (j := j.toNat) (by omega))
        unfold OQ at ho
        obtain ⟨d1, d2, d3⟩ := c3
        exact ⟨(h.sel (by omega) (by omega) (by omega) d3 (by omega) (by omega)).mono (by omega), sel_F g, sel_X (by omega) (by omega) (by omega)⟩
      · exact Ivo.same h g
    · exact Ivo.same h g
  · exact Ivo.same h g
theorem i_buyCheapest {q : Int} {n N : Nat} {T : Int} {C : xS} (h : VS 0 n N T C) (g : Fut 0 N C) (hT : 0 ≤ T ∧ T ≤ 800000) : Ivo T C (o_buyCheapest q n N C) := by
  have hn8 := h.2.2.1
  have hN20 := h.2.1
  unfold o_buyCheapest
  split
  · rename_i c1
    split
    · exact Ivo.same h g
    · rename_i b hb
      obtain ⟨c2, d1, d2, d3⟩ := chpS_lt hb
      have ho := (h.o (j := b) (by omega))
      unfold OQ at ho
      exact ⟨(h.sel (by omega) (by omega) (by omega) d3 (by omega) (by omega)).mono (by omega), sel_F g, sel_X (by omega) (by omega) (by omega)⟩
  · exact Ivo.same h g
theorem i_lease {j q k a : Int} {n N : Nat} {T : Int} {C : xS} (h : VS 0 n N T C) (g : Fut 0 N C) (hT : 0 ≤ T ∧ T ≤ 800000) : Ivo T C (o_lease j q k a n N C) := by
  have hn8 := h.2.2.1
  have hN20 := h.2.1
  unfold o_lease
  split
  · rename_i c1
    split
    · rename_i c2
      split
      · rename_i c3
        split
        · rename_i c4
          have ho := (h.o (j := j.toNat) (by omega))
          unfold OQ at ho
          obtain ⟨d1, d2, d3, d4⟩ := c4
          have hk := Int.mul_nonneg (show 0 ≤ k by omega) c3.2.1
          exact ⟨(h.lea (by omega) (by omega) (by omega) (by omega) c3.1 ⟨hk, d4⟩).mono (by omega), Fut.q (f := 11) (Fut.q (f := 10) ((g.upo (by decide)).upo (by decide)) (by unfold tlf; omega)) (by unfold tlf; omega), xts.up10 (by omega) (xts.up10 (by omega) (xts.up4 (by omega) (xts.up4 (by omega) xts.rf)))⟩
        · exact Ivo.same h g
      · exact Ivo.same h g
    · exact Ivo.same h g
  · exact Ivo.same h g
theorem Fut.itr {n N : Nat} {C : xS} (g : Fut 0 N C) : ∀ i : Nat, Fut 0 N (itr (tckS 0 n N) i C)
  | 0 => g
  | i + 1 => (g.itr i).tck.cg tlq.tckS
theorem i_run {m : Int} {n N : Nat} {T : Int} {C : xS} (h : VS 0 n N T C) (g : Fut 0 N C) (hT : 0 ≤ T ∧ T ≤ 800000) : Ivo T C (o_run m n N C) := by
  have hn8 := h.2.2.1
  have hN20 := h.2.1
  unfold o_run
  split
  · rename_i c1
    exact ⟨(h.itr m.toNat).mono (by omega), g.itr m.toNat, itr_fr h m.toNat⟩
  · exact Ivo.same h g

