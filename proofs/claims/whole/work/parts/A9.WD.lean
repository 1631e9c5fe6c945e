/-! the law: more of what its cases rest on -/
/-! the law: the rest of what its cases rest on -/
section XW
variable {w : xW} {mi : xM} {TG : xT} {k n pc pc' : Nat} {L st : List xV} {S : xS}
theorem xa_icmp_same {a : Int} {off : Int} {tgt : Nat} (h : xd mi.2.1 pc (.if_icmp .eq off) 3 pc') (ht : (pc : Int) + off = (tgt : Int)) (kk : X w mi TG k n tgt L st S) : X w mi TG k n pc L (xi a :: xi a :: st) S := by
  obtain ⟨hd, rfl⟩ := h
  intro p l e R s m args below meth c H locs cells slots MC MS ls hC hB hR hS hl hL hst
  exact lv_icmp_eq hC.1 hC.2.1 hd ht (fun _ => kk p l e R s m args below meth c H locs cells slots MC MS ls hC hB hR hS hl hL (xok_cons (xok_cons hst).2).2) (fun z => absurd rfl z)
theorem xa_lcmp_same {a : Int} (h : xd mi.2.1 pc .lcmp 1 pc') (kk : X w mi TG k n pc' L (xi 0 :: st) S) : X w mi TG k n pc L (xl a :: xl a :: st) S := by
  obtain ⟨hd, rfl⟩ := h
  intro p l e R s m args below meth c H locs cells slots MC MS ls hC hB hR hS hl hL hst
  have h9 := kk p l e R s m args below meth c H locs cells slots MC MS ls hC hB hR hS hl hL (xok_of (v := xi 0) trivial (xok_cons (xok_cons hst).2).2)
  have e : lg_cmp (Int64.ofInt a) (Int64.ofInt a) = Int32.ofInt 0 := by
    unfold lg_cmp
    rw [if_neg (fun z => absurd z (by rw [gt_iff_lt, Int64.lt_iff_toInt_lt]; omega)), if_pos rfl]
    rfl
  rw [List.map_cons, show xc w.1 (xi 0) = Value.int (lg_cmp (Int64.ofInt a) (Int64.ofInt a)) from congrArg Value.int e.symm] at h9
  exact W.lcmp hC.1 hC.2.1 hd h9
end XW
theorem SVI.mono {T T' : Int} {S : xS} (h : SVI T S) (hT : T ≤ T') : SVI T' S := h.step hT (fun _ _ _ => rfl)
theorem INV.mono {T T' : Int} {n N c : Nat} {S : xS} (h : INV T n N c S) (hT : T ≤ T') : INV T' n N c S := ⟨h.1.mono hT, h.2.1, h.2.2.1, h.2.2.2.1, h.2.2.2.2.mono hT⟩
/-- the same objects, but for the model's own fields and the law's array -/
theorem INV.eq {T : Int} {n N c : Nat} {S D : xS} (h : INV T n N c S) (e : ∀ x, x ≠ 30 → x ≠ 42 → D x = S x) (e30 : ∀ g, g = 14 ∨ g = 20 ∨ g = 21 → D 30 0 g = S 30 0 g) : INV T n N c D := by
  obtain ⟨hv, hf, hr, ⟨⟨t1, t2, t3, t4⟩, t5, t6, t7⟩, hs⟩ := h
  refine ⟨hv.cls (fun x y q => by rw [e x (by omega) (by omega)]), hf.of3 (fun a ha => e a (by omega) (by omega)), ?_, ⟨⟨by rw [e30 14 (by omega)]; exact t1, by rw [e 3 (by decide) (by decide)]; exact t2, t3, by rw [e 24 (by decide) (by decide), e 41 (by decide) (by decide)]; exact t4⟩, by rw [e30 20 (by omega), e 3 (by decide) (by decide)]; exact t5, by rw [e30 21 (by omega), e 3 (by decide) (by decide)]; exact t6, by rw [e 3 (by decide) (by decide)]; exact t7⟩, hs.step (by omega) (fun x y q => by rw [e x (by omega) (by omega)])⟩
  rw [e 31 (by decide) (by decide)]
  exact hr.cls hv.2.2.1 hv.2.1 (fun x y q => by rw [e x (by omega) (by omega)])
/-! what reading a text leaves -/
def fr3 (S' S : xS) : Prop := ∀ x y, x ≠ 3 → ¬ sct x y → S' x y = S x y
theorem fr3.rf {S : xS} : fr3 S S := fun _ _ _ _ => rfl
theorem fr3.tr {A B C : xS} (h : fr3 A B) (g : fr3 B C) : fr3 A C := fun x y a b => (h x y a b).trans (g x y a b)
theorem fr3.nx {n : Nat} {S : xS} : fr3 (nx n S) S := fun x y a _ => by rw [nx_o a]
theorem fr3.fl {c : Int} {S : xS} : fr3 (flS c S) S := fun x y a _ => by unfold flS; rw [up_oth (by omega), up_oth (by omega)]
theorem fr3.upo {S : xS} {k j f : Nat} {v : Int} (h : k = 3 ∨ sct k j) : fr3 (up S k j f v) S := fun x y a b => up_oth (fun z => by
  rcases h with h | h
  · omega
  · exact b (by rw [z.1, z.2]; exact h))
theorem fr3.N {n : Nat} {lo hi : Int} {S : xS} : fr3 (rdN n lo hi S).2 S := by
  unfold rdN
  split
  · split
    · exact fr3.nx
    · exact fr3.fl.tr fr3.nx
  · exact fr3.fl.tr fr3.nx
theorem fr3.bnd {r : Bool × xS} {f : xS → Bool × xS} {S : xS} (h : fr3 r.2 S) (g : ∀ S1, fr3 S1 S → fr3 (f S1).2 S) : fr3 (bnd r f).2 S := by
  unfold Jvm.Pilot.CPromiseMarketLaw_law_r1861_bf5391.bnd
  split
  · exact g _ h
  · exact h
theorem fr3.ent {k : Nat} {m b d : Int} {S : xS} : fr3 (entS 4 k m b d S) S := fun x y a c => by
  unfold entS
  rw [up_oth (fun z => c (by unfold sct; omega))]
  funext f
  unfold rwS
  rw [if_neg (fun z => c (by unfold sct; omega))]
theorem fr3.add {N : Nat} {o p b d : Int} {S : xS} : fr3 (addT 4 N o p b d S) S := fun x y a c => by
  funext f
  unfold addT
  rw [if_neg (fun z => c (by unfold sct; omega)), if_neg (fun z => c (by unfold sct; omega))]
theorem fr3.x7 {A B : xS} (h : xtl 7 A B) : fr3 A B := fun x y a c => h x y (fun z => c (by unfold sct; omega)) (fun z => c (by unfold sct; omega))
theorem fr3.pen {n : Nat} {S : xS} : fr3 (rdPen n S).2 S := fr3.bnd fr3.N (fun S1 h => (fr3.nx.tr (fr3.upo (Or.inr (by unfold sct; omega)))).tr h)
theorem fr3.fee {n : Nat} {S : xS} : fr3 (rdFee n S).2 S := fr3.bnd fr3.N (fun S1 h => (fr3.nx.tr (fr3.upo (Or.inr (by unfold sct; omega)))).tr h)
theorem fr3.pri {n : Nat} {S : xS} : fr3 (rdPri n S).2 S := fr3.bnd fr3.N (fun S1 h => (fr3.nx.tr (fr3.upo (Or.inr (by unfold sct; omega)))).tr h)
theorem fr3.arr {n : Nat} {S : xS} : fr3 (rdArr n S).2 S := fr3.bnd fr3.N (fun S1 h => fr3.bnd (fr3.N.tr ((fr3.upo (Or.inr (by unfold sct; omega))).tr h)) (fun S2 h2 => (fr3.nx.tr (fr3.upo (Or.inr (by unfold sct; omega)))).tr h2))
theorem fr3.pro {n : Nat} {S : xS} : fr3 (rdPro n S).2 S := by
  unfold rdPro
  split
  · exact fr3.bnd fr3.N (fun S1 h1 => fr3.bnd (fr3.N.tr h1) (fun S2 h2 => fr3.bnd (fr3.N.tr h2) (fun S3 h3 => (fr3.nx.tr fr3.ent).tr h3)))
  · exact fr3.fl
theorem fr3.prm {n N : Nat} {S : xS} : fr3 (rdPrm n N S).2 S := by
  unfold rdPrm
  split
  · refine fr3.bnd fr3.N (fun S1 h1 => fr3.bnd (fr3.N.tr h1) (fun S2 h2 => ?_))
    split
    · refine fr3.bnd (fr3.N.tr h2) (fun S3 h3 => fr3.bnd (fr3.N.tr h3) (fun S4 h4 => ?_))
      split
      · exact (fr3.nx.tr fr3.add).tr h4
      · exact fr3.fl.tr h4
    · exact fr3.fl.tr h2
  · exact fr3.fl
theorem fr3.stm {n N : Nat} {S : xS} : fr3 (rdStm n N S).2 S := by
  unfold rdStm
  split
  · exact fr3.pen
  · split
    · exact fr3.fee
    · split
      · refine fr3.bnd fr3.pro (fun S1 h1 => ?_)
        split
        · exact fr3.arr.tr h1
        · exact h1
      · split
        · refine fr3.bnd fr3.prm (fun S1 h1 => ?_)
          split
          · exact fr3.pri.tr h1
          · exact h1
        · exact fr3.fl
theorem fr3.sem {n : Nat} {S : xS} : fr3 (rdSem n S).2 S := by
  unfold rdSem
  split
  · exact fr3.nx
  · exact fr3.fl
theorem fr3.chn {n : Nat} : ∀ {f : Nat} {S : xS} {r : Bool × xS}, chn n f S r → fr3 r.2 S
  | 0, S, r, hc => by
    obtain ⟨-, e⟩ := hc
    subst e
    exact fr3.rf
  | f + 1, S, r, hc => by
    rcases hc with ⟨-, e⟩ | ⟨-, S1, hx, hc⟩
    · subst e; exact fr3.rf
    · have h1 := (fr3.x7 hx).tr fr3.stm
      rcases hc with ⟨c1, c2, c3⟩ | ⟨-, -, e⟩ | ⟨-, e⟩
      · exact (fr3.chn c3).tr (fr3.sem.tr h1)
      · subst e; exact fr3.sem.tr h1
      · subst e; exact h1
theorem fr3.pr0 {S : xS} : fr3 (pr0 S) S := fun x y a c => by
  unfold Jvm.Pilot.CPromiseMarketLaw_law_r1861_bf5391.pr0
  rw [up_oth (by omega), up_oth (by omega), up_oth (by omega)]
  funext f
  unfold sct at c
  unfold clrS
  rw [up_oth (by omega), up_oth (by omega), up_oth (by omega), up_oth (by omega), up_oth (by omega), up_oth (by omega), up_oth (by omega), up_oth (by omega), up_oth (by omega), up_oth (by omega), up_oth (by omega), up_oth (by omega), up_oth (by omega)]
  unfold clrV
  rw [if_neg (by omega), up_oth (by omega), up_oth (by omega)]
