/-! the two readers: one token -/
def cod (k : Int) : Int := if k = 0 then 0 else if k = 1 then 2 else if k = 2 then 3 else if k = 3 then 4 else 1
/-- the same text -/
def TB (n : Nat) (C S : xS) : Prop := S 30 0 14 = (n : Int) ∧ C 3 0 1 = (n : Int) ∧ n ≤ 700 ∧ BQ n (C 24 0) (S 41 0)
/-- the same token -/
def TR (n : Nat) (C S : xS) : Prop := TB n C S ∧ S 30 0 15 = C 3 0 8 ∧ S 30 0 16 = C 3 0 7 ∧ S 30 0 17 = cod (C 3 0 6) ∧ (C 3 0 6 = 2 → VR (C 3 0 9) (S 30 0 19)) ∧ (C 3 0 6 = 1 → S 30 0 18 = C 3 0 8 - C 3 0 7 ∧ (C 3 0 8 - C 3 0 7 ≤ 11 → S 30 0 22 = hsB (S 41 0) (C 3 0 7).toNat (C 3 0 8 - C 3 0 7).toNat) ∧ ∀ j, j < (C 3 0 8 - C 3 0 7).toNat → isL (C 24 0 ((C 3 0 7).toNat + j)))
theorem TB_mt {n : Nat} {C S : xS} {p s k l v d a b c e : Int} (h : TB n C S) : TB n (tk C a b c e) (mt S p s k l v d) := by
  obtain ⟨t1, t2, t3, t4⟩ := h
  refine ⟨t1, t2, t3, ?_⟩
  rw [tk_24, mt_41]
  exact t4
theorem TR_nx {n : Nat} {C S : xS} (h8 : 0 ≤ C 3 0 8 ∧ C 3 0 8 ≤ (n : Int)) (h : TB n C S) : TR n (nx n C) (nxR n (C 3 0 8).toNat S) := by
  have hT := h
  obtain ⟨t1, t2, t3, t4⟩ := h
  have hsp := t4.sp (n - (C 3 0 8).toNat) (C 3 0 8).toNat (by omega)
  have hr := spF_r (B := C 24 0) (n - (C 3 0 8).toNat) (C 3 0 8).toNat
  unfold nx nxS nxR
  rw [hsp]
  generalize spF (C 24 0) (n - (C 3 0 8).toNat) (C 3 0 8).toNat = q at hr
  by_cases c : n ≤ q
  · rw [if_pos c, show tkK (C 24 0) n q = 0 by unfold tkK; rw [if_pos c], show tkE (C 24 0) n q = q by unfold tkE; rw [if_pos c]]
    exact ⟨TB_mt hT, rfl, rfl, rfl, fun z => absurd z (show ¬ (0 : Int) = 2 by decide), fun z => absurd z (show ¬ (0 : Int) = 1 by decide)⟩
  · have hb := t4 q (by omega)
    rw [if_neg c]
    by_cases c1 : isL (C 24 0 q)
    · have hw := t4.wd (n - q) q (by omega)
      have hwr := wdF_r (B := C 24 0) (n - q) q
      rw [if_pos (show isL (S 41 0 q) by rw [hb.2]; exact (ub_L hb.1).mpr c1), show tkK (C 24 0) n q = 1 by unfold tkK; rw [if_neg c, if_pos c1], show tkE (C 24 0) n q = wdF (C 24 0) (n - q) q by unfold tkE; rw [if_neg c, if_pos c1], hw]
      refine ⟨TB_mt hT, rfl, rfl, rfl, fun z => absurd z (show ¬ (1 : Int) = 2 by decide), fun _ => ⟨?_, fun hle => ?_, fun j hj => ?_⟩⟩
      · show ((wdF (C 24 0) (n - q) q - q : Nat) : Int) = ((wdF (C 24 0) (n - q) q : Nat) : Int) - ((q : Nat) : Int)
        omega
      · have hle2 : ((wdF (C 24 0) (n - q) q : Nat) : Int) - ((q : Nat) : Int) ≤ 11 := hle
        have h9 := whF_hs (B := S 41 0) (s := q) (n - q) 0 (by rw [Nat.add_zero, hw]; omega)
        rw [Nat.add_zero, hw] at h9
        show whF (S 41 0) (n - q) q 0 0 = hsB (mt S _ _ _ _ _ _ 41 0) ((q : Nat) : Int).toNat (((wdF (C 24 0) (n - q) q : Nat) : Int) - ((q : Nat) : Int)).toNat
        rw [mt_41, show ((q : Nat) : Int).toNat = q by omega, show (((wdF (C 24 0) (n - q) q : Nat) : Int) - ((q : Nat) : Int)).toNat = wdF (C 24 0) (n - q) q - q by omega]
        exact h9
      · have hj2 : j < (((wdF (C 24 0) (n - q) q : Nat) : Int) - ((q : Nat) : Int)).toNat := hj
        show isL (tk C _ _ _ _ 24 0 (((q : Nat) : Int).toNat + j))
        rw [tk_24, show ((q : Nat) : Int).toNat = q by omega]
        exact wdF_L (n - q) q j (by omega)
    · rw [if_neg (fun z : isL (S 41 0 q) => c1 ((ub_L hb.1).mp (by rw [← hb.2]; exact z)))]
      by_cases c2 : isD (C 24 0 q)
      · have hv := t4.vl (n - q) q 0 0 (by omega) (Or.inl ⟨rfl, by decide, by decide⟩)
        rw [if_pos (show isD (S 41 0 q) by rw [hb.2]; exact (ub_D hb.1).mpr c2), show tkK (C 24 0) n q = 2 by unfold tkK; rw [if_neg c, if_neg c1, if_pos c2], show tkE (C 24 0) n q = dgF (C 24 0) (n - q) q by unfold tkE; rw [if_neg c, if_neg c1, if_pos c2], t4.dg (n - q) q (by omega), show tkV (C 24 0) n q (C 3 0 9) = vlF (C 24 0) (n - q) q 0 by unfold tkV; rw [if_neg c, if_neg c1, if_pos c2]]
        exact ⟨TB_mt hT, rfl, rfl, rfl, fun _ => hv, fun z => absurd z (show ¬ (2 : Int) = 1 by decide)⟩
      · rw [if_neg (fun z : isD (S 41 0 q) => c2 ((ub_D hb.1).mp (by rw [← hb.2]; exact z))), show tkE (C 24 0) n q = q + 1 by unfold tkE; rw [if_neg c, if_neg c1, if_neg c2], show ((q + 1 : Nat) : Int) = (q : Int) + 1 by omega]
        by_cases c3 : C 24 0 q = 59
        · rw [if_pos (show S 41 0 q = 59 by rw [hb.2]; exact (ub_59 hb.1).mpr c3), show tkK (C 24 0) n q = 3 by unfold tkK; rw [if_neg c, if_neg c1, if_neg c2, if_pos c3]]
          exact ⟨TB_mt hT, rfl, rfl, rfl, fun z => absurd z (show ¬ (3 : Int) = 2 by decide), fun z => absurd z (show ¬ (3 : Int) = 1 by decide)⟩
        · rw [if_neg (fun z : S 41 0 q = 59 => c3 ((ub_59 hb.1).mp (by rw [← hb.2]; exact z))), show tkK (C 24 0) n q = 4 by unfold tkK; rw [if_neg c, if_neg c1, if_neg c2, if_neg c3]]
          exact ⟨TB_mt hT, rfl, rfl, rfl, fun z => absurd z (show ¬ (4 : Int) = 2 by decide), fun z => absurd z (show ¬ (4 : Int) = 1 by decide)⟩
theorem cod_inj {k : Int} (h : 0 ≤ k ∧ k < 5) : (cod k = 0 ↔ k = 0) ∧ (cod k = 2 ↔ k = 1) ∧ (cod k = 3 ↔ k = 2) ∧ (cod k = 4 ↔ k = 3) := by
  rcases (show k = 0 ∨ k = 1 ∨ k = 2 ∨ k = 3 ∨ k = 4 by omega) with rfl | rfl | rfl | rfl | rfl <;> decide
theorem TR.word {n i : Nat} {C S : xS} (h : TR n C S) (hP : PT n C) (hi : i < 6) : isWR i S ↔ isW i C := by
  obtain ⟨⟨t1, t2, t3, t4⟩, a1, a2, a3, a4, a5⟩ := h
  obtain ⟨p1, p2, p3, p4, p5, p6⟩ := hP
  have hl := xslen_r i hi
  have hc := (cod_inj p6).2.1
  have hx : ∀ j, j < xslen.getD i 0 → isL (xchr i (0 + j)) := fun j hj => by rw [Nat.zero_add]; exact (xchr_ok i hi j hj).2.2.2
  constructor
  · intro z
    obtain ⟨z1, z2, z3⟩ := z
    have hk : C 3 0 6 = 1 := hc.mp (by rw [← a3]; exact z1)
    have b := a5 hk
    have hlen : C 3 0 8 - C 3 0 7 = ((xslen.getD i 0 : Nat) : Int) := by rw [← b.1]; exact z2
    have hn : (C 3 0 8 - C 3 0 7).toNat = xslen.getD i 0 := by omega
    have hh := b.2.1 (by omega)
    rw [hn, z3] at hh
    refine ⟨hk, hlen, (wEq_iff _).mpr (fun j hj => ?_)⟩
    have hL : ∀ j, j < xslen.getD i 0 → C 24 0 ((C 3 0 7).toNat + j) = S 41 0 ((C 3 0 7).toNat + j) ∧ isL (C 24 0 ((C 3 0 7).toNat + j)) := fun j hj => by
      have y := b.2.2 j (by omega)
      have y2 := t4 ((C 3 0 7).toNat + j) (by omega)
      exact ⟨by rw [y2.2, ub_p (by omega)], y⟩
    have e := (hs_inj (B := S 41 0) (B2 := xchr i) (s := (C 3 0 7).toNat) (s2 := 0) (xslen.getD i 0) (fun j hj => ⟨by rw [← (hL j hj).1]; exact (hL j hj).2, hx j hj⟩)).mp hh.symm j hj
    rw [(hL j hj).1, e, Nat.zero_add]
  · intro z
    obtain ⟨z1, z2, z3⟩ := z
    have b := a5 z1
    have hn : (C 3 0 8 - C 3 0 7).toNat = xslen.getD i 0 := by omega
    have hh := b.2.1 (by omega)
    rw [hn] at hh
    have hL : ∀ j, j < xslen.getD i 0 → C 24 0 ((C 3 0 7).toNat + j) = S 41 0 ((C 3 0 7).toNat + j) ∧ isL (C 24 0 ((C 3 0 7).toNat + j)) := fun j hj => by
      have y := b.2.2 j (by omega)
      have y2 := t4 ((C 3 0 7).toNat + j) (by omega)
      exact ⟨by rw [y2.2, ub_p (by omega)], y⟩
    refine ⟨by rw [a3]; exact hc.mpr z1, by rw [b.1]; exact z2, ?_⟩
    rw [hh]
    refine (hs_inj (B := S 41 0) (B2 := xchr i) (s := (C 3 0 7).toNat) (s2 := 0) (xslen.getD i 0) (fun j hj => ⟨by rw [← (hL j hj).1]; exact (hL j hj).2, hx j hj⟩)).mpr (fun j hj => ?_)
    rw [← (hL j hj).1, Nat.zero_add]
    exact (wEq_iff _).mp z3 j hj
