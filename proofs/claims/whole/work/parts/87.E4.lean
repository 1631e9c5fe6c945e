/-! the class: no error is written where none is -/
/-- no error is written -/
def E4 (S' S : xS) : Prop := S' 3 0 4 = S 3 0 4 ∧ S' 3 0 5 = S 3 0 5
theorem E4.tr {A B C : xS} (h : E4 A B) (g : E4 B C) : E4 A C := ⟨h.1.trans g.1, h.2.trans g.2⟩
theorem E4.of {A B : xS} (h : A 3 = B 3) : E4 A B := by unfold E4; rw [h]; exact ⟨rfl, rfl⟩
theorem E4.nx {n : Nat} {S : xS} : E4 (nx n S) S := ⟨rfl, rfl⟩
theorem E4.x7 {A B : xS} (h : xtl 7 A B) : E4 A B := by unfold E4; rw [h 3 0 (by omega) (by omega)]; exact ⟨rfl, rfl⟩
theorem E4.N {n : Nat} {lo hi : Int} {S : xS} (e : (rdN n lo hi S).1 = true) : E4 (rdN n lo hi S).2 S := by rw [(rdN_t e).1]; exact E4.nx
theorem E4.up {S : xS} {k j f : Nat} {v : Int} (h : k ≠ 3) : E4 (up S k j f v) S := E4.of (by funext y g; rw [up_k (Ne.symm h)])
theorem E4.ent {k : Nat} {m b d : Int} {S : xS} : E4 (entS 4 k m b d S) S := by
  refine E4.of ?_
  funext y g
  unfold entS
  rw [up_k (by decide)]
  unfold rwS
  rw [if_neg (by omega)]
theorem E4.add {N : Nat} {o p b d : Int} {S : xS} : E4 (addT 4 N o p b d S) S := E4.of (by funext y g; unfold addT; rw [if_neg (by omega), if_neg (by omega)])
theorem E4.pro {n : Nat} {S : xS} (e : (rdPro n S).1 = true) : E4 (rdPro n S).2 S := by
  unfold rdPro at e ⊢
  split
  · rename_i c
    rw [if_pos c] at e
    obtain ⟨e1, q1⟩ := bnd_t e
    rw [q1] at e ⊢
    obtain ⟨e2, q2⟩ := bnd_t e
    rw [q2] at e ⊢
    obtain ⟨e3, q3⟩ := bnd_t e
    rw [q3]
    exact E4.nx.tr (E4.ent.tr ((E4.N e3).tr ((E4.N e2).tr (E4.N e1))))
  · rename_i c; rw [if_neg c] at e; cases e
theorem E4.arr {n : Nat} {S : xS} (e : (rdArr n S).1 = true) : E4 (rdArr n S).2 S := by
  unfold rdArr at e ⊢
  obtain ⟨e1, q1⟩ := bnd_t e
  rw [q1] at e ⊢
  obtain ⟨e2, q2⟩ := bnd_t e
  rw [q2]
  exact E4.nx.tr ((E4.up (by decide)).tr ((E4.N e2).tr ((E4.up (by decide)).tr (E4.N e1))))
theorem E4.pri {n : Nat} {S : xS} (e : (rdPri n S).1 = true) : E4 (rdPri n S).2 S := by
  unfold rdPri at e ⊢
  obtain ⟨e1, q1⟩ := bnd_t e
  rw [q1]
  exact E4.nx.tr ((E4.up (by decide)).tr (E4.N e1))
theorem E4.pen {n : Nat} {S : xS} (e : (rdPen n S).1 = true) : E4 (rdPen n S).2 S := by
  unfold rdPen at e ⊢
  obtain ⟨e1, q1⟩ := bnd_t e
  rw [q1]
  exact E4.nx.tr ((E4.up (by decide)).tr (E4.N e1))
theorem E4.fee {n : Nat} {S : xS} (e : (rdFee n S).1 = true) : E4 (rdFee n S).2 S := by
  unfold rdFee at e ⊢
  obtain ⟨e1, q1⟩ := bnd_t e
  rw [q1]
  exact E4.nx.tr ((E4.up (by decide)).tr (E4.N e1))
theorem E4.prm {n N : Nat} {S : xS} (e : (rdPrm n N S).1 = true) : E4 (rdPrm n N S).2 S := by
  unfold rdPrm at e ⊢
  split
  · rename_i c
    rw [if_pos c] at e
    obtain ⟨e1, q1⟩ := bnd_t e
    rw [q1] at e ⊢
    obtain ⟨e2, q2⟩ := bnd_t e
    rw [q2] at e ⊢
    split
    · rename_i c2
      rw [if_pos c2] at e
      obtain ⟨e3, q3⟩ := bnd_t e
      rw [q3] at e ⊢
      obtain ⟨e4, q4⟩ := bnd_t e
      rw [q4] at e ⊢
      split
      · exact E4.nx.tr (E4.add.tr ((E4.N e4).tr ((E4.N e3).tr ((E4.N e2).tr (E4.N e1)))))
      · rename_i c3; rw [if_neg c3] at e; cases e
    · rename_i c2; rw [if_neg c2] at e; cases e
  · rename_i c; rw [if_neg c] at e; cases e
theorem E4.stm {n N : Nat} {S : xS} (e : (rdStm n N S).1 = true) : E4 (rdStm n N S).2 S := by
  unfold rdStm at e ⊢
  by_cases a : isW 0 S
  · rw [if_pos a] at e ⊢; exact E4.pen e
  · rw [if_neg a] at e ⊢
    by_cases b : isW 1 S
    · rw [if_pos b] at e ⊢; exact E4.fee e
    · rw [if_neg b] at e ⊢
      by_cases c : isW 2 S
      · rw [if_pos c] at e ⊢
        obtain ⟨e1, q1⟩ := bnd_t e
        rw [q1] at e ⊢
        split
        · rename_i c3; rw [if_pos c3] at e; exact (E4.arr e).tr (E4.pro e1)
        · exact E4.pro e1
      · rw [if_neg c] at e ⊢
        by_cases d : isW 4 S
        · rw [if_pos d] at e ⊢
          obtain ⟨e1, q1⟩ := bnd_t e
          rw [q1] at e ⊢
          split
          · rename_i c3; rw [if_pos c3] at e; exact (E4.pri e).tr (E4.prm e1)
          · exact E4.prm e1
        · rw [if_neg d] at e; cases e
theorem E4.sem {n : Nat} {S : xS} (e : (rdSem n S).1 = true) : E4 (rdSem n S).2 S := by
  unfold rdSem at e ⊢
  split
  · exact E4.nx
  · rename_i c; rw [if_neg c] at e; cases e
theorem E4.chn {n : Nat} : ∀ {f : Nat} {S : xS} {r : Bool × xS}, chn n f S r → r.1 = true → E4 r.2 S
  | 0, S, r, hc, he => by
    obtain ⟨-, e⟩ := hc
    subst e
    exact ⟨rfl, rfl⟩
  | f + 1, S, r, hc, he => by
    rcases hc with ⟨-, e⟩ | ⟨-, S1, hx, hc⟩
    · subst e; exact ⟨rfl, rfl⟩
    · rcases hc with ⟨c1, c2, c3⟩ | ⟨-, -, e⟩ | ⟨-, e⟩
      · exact (E4.chn c3 he).tr ((E4.sem c2).tr ((E4.x7 hx).tr (E4.stm c1)))
      · subst e; cases he
      · subst e; cases he
