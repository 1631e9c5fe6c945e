/-! free ticks of the timeline: by the backlog alone; a split, an end -/
theorem sm_shift {f : Nat → Int} : ∀ n : Nat, sm f (n + 1) = f 0 + sm (fun m => f (m + 1)) n
  | 0 => by rw [sm_s]; show sm f 0 + f 0 = f 0 + 0; rw [show sm f 0 = 0 from rfl]; omega
  | n + 1 => by rw [sm_s, sm_shift n, sm_s]; omega
def frV (c : Int) (R : Nat → Nat → Int) (N d m : Nat) : Nat := lV c R N d m + AN N (lb R) (lr c R) (lp R) (ld R) d m
theorem bst_none {t N : Nat} {S : xS} {c : Int} {d : Nat} (hL : LR c (rwT t S) N) (hc : S 2 t 2 = c) (hd : 120 ≤ d) : (bstT t (relT t N S) N = none) ↔ frV c (rwT t S) N d 0 = 0 := by
  subst hc
  have e : frV (S 2 t 2) (rwT t S) N d 0 = sn (lw1 (S 2 t 2) (rwT t (relT t N S)) d) N := by
    show lW (S 2 t 2) (rwT t S) N d + AN N _ _ _ _ d 0 = _
    unfold lW AN
    rw [← sn_add]
    refine (sn_congr (fun j hj => ?_)).symm
    show w1 _ _ (rwT t (relT t N S) j) = _
    rw [rwT_rel hj]
    exact rrl_w (hL j hj)
  rw [e, sn_nil]
  have hw : ∀ j, j < N → (lw1 (S 2 t 2) (rwT t (relT t N S)) d j = 0 ↔ ¬ 0 < relT t N S 10 (32 * t + j) 6) := fun j hj => by
    have hq := hL j hj
    have h6 : rwT t (relT t N S) j = rrl (S 2 t 2) (rwT t S j) := rwT_rel hj
    unfold lw1 w1
    have h7 : rrl (S 2 t 2) (rwT t S j) 6 = relT t N S 10 (32 * t + j) 6 := by rw [← h6]; rfl
    rw [h6, h7]
    unfold LQ at hq
    have h8 : 0 < relT t N S 10 (32 * t + j) 6 → rrl (S 2 t 2) (rwT t S j) 7 ≤ S 2 t 2 + (d : Int) := fun z => by
      rw [← h7] at z
      unfold rrl at z ⊢
      split
      · rename_i cc
        show rwT t S j 5 + rwT t S j 4 ≤ _
        obtain ⟨a1, ⟨a2, a3, a4⟩, a5, a6, a7, a8⟩ := hq
        omega
      · rename_i cc
        rw [if_neg cc] at z
        obtain ⟨a1, ⟨a2, a3, a4⟩, a5, a6, a7, a8⟩ := hq
        have := a7 z
        omega
    by_cases z : 0 < relT t N S 10 (32 * t + j) 6
    · rw [if_pos (h8 z)]; omega
    · split <;> omega
  constructor
  · intro hb j hj
    refine (hw j hj).mpr ?_
    have h9 := bstT_bsg t (relT t N S) N
    rw [hb] at h9
    exact bsg_none h9 j hj
  · intro hb
    cases hq : bstT t (relT t N S) N with
    | none => rfl
    | some b =>
      have hl := bstT_lt hq
      exact absurd hl.2 ((hw b hl.1).mp (hb b hl.1))
theorem freT_V {t N : Nat} : ∀ {n : Nat} {S : xS} {d : Nat}, Fut t N S → n + 120 ≤ d → freT t N n S = sm (fun m => if frV (S 2 t 2) (rwT t S) N d m = 0 then 1 else 0) n
  | 0, _, _, _, _ => rfl
  | n + 1, S, d, h, hd => by
    have hm : misT t N (cR t N S) = 0 := by
      have h2 := h.ok 1
      rw [okT, Bool.and_eq_true, decide_eq_true_iff] at h2
      exact h2.1
    obtain ⟨d', rfl⟩ : ∃ d', d = d' + 1 := ⟨d - 1, by omega⟩
    rw [freT, sm_shift, freT_V (n := n) (S := tckT t N S) (d := d') h.tck (by omega)]
    have h1 := bst_none (t := t) (N := N) (S := S) (d := d' + 1) h.1 rfl (by omega)
    have h2 : ∀ m, frV (tckT t N S 2 t 2) (rwT t (tckT t N S)) N d' m = frV (S 2 t 2) (rwT t S) N (d' + 1) (m + 1) := fun m => by
      unfold frV
      rw [tck_V h.1 hm, tck_A h.1 hm]
    have h3 : sm (fun m => if frV (tckT t N S 2 t 2) (rwT t (tckT t N S)) N d' m = 0 then (1 : Int) else 0) n = sm (fun m => if frV (S 2 t 2) (rwT t S) N (d' + 1) (m + 1) = 0 then (1 : Int) else 0) n := sm_congr (fun m _ => by rw [h2])
    rw [h3]
    congr 1
    by_cases c : bstT t (relT t N S) N = none
    · rw [if_pos c, if_pos (h1.mp c)]
    · rw [if_neg c, if_neg (fun z => c (h1.mpr z))]
theorem sm_mono {f g : Nat → Int} : ∀ {n : Nat}, (∀ j, j < n → f j ≤ g j) → sm f n ≤ sm g n
  | 0, _ => Int.le_refl _
  | n + 1, h => by rw [sm_s, sm_s]; have := h n (by omega); have := sm_mono (n := n) (fun j hj => h j (by omega)); omega
theorem freT_le {t N N' n : Nat} {S S1 : xS} (h : Fut t N S) (h1 : Fut t N' S1) (e2 : S1 2 t 2 = S 2 t 2) (hW : ∀ d, lW (S 2 t 2) (rwT t S1) N' d ≤ lW (S 2 t 2) (rwT t S) N d) (hA : ∀ d m, AN N' (lb (rwT t S1)) (lr (S 2 t 2) (rwT t S1)) (lp (rwT t S1)) (ld (rwT t S1)) d m ≤ AN N (lb (rwT t S)) (lr (S 2 t 2) (rwT t S)) (lp (rwT t S)) (ld (rwT t S)) d m) : freT t N n S ≤ freT t N' n S1 := by
  rw [freT_V (d := n + 120) h (Nat.le_refl _), freT_V (d := n + 120) h1 (Nat.le_refl _), e2]
  refine sm_mono (fun m _ => ?_)
  have h3 : frV (S 2 t 2) (rwT t S1) N' (n + 120) m ≤ frV (S 2 t 2) (rwT t S) N (n + 120) m := Nat.add_le_add (vn_mono hW hA m) (hA _ _)
  split
  · rw [if_pos (by omega)]; exact Int.le_refl _
  · split <;> decide
theorem div_WA {t N i : Nat} {a : Int} {S : xS} (h : Fut t N S) (hi : i < N) (h0 : S 10 (32 * t + i) 0 = 0) (ha : 1 ≤ a ∧ a ≤ S 10 (32 * t + i) 3 - 1) : divS t N i a S 2 t 2 = S 2 t 2 ∧ (∀ d, lW (S 2 t 2) (rwT t (divS t N i a S)) (N + 1) d = lW (S 2 t 2) (rwT t S) N d) ∧ ∀ d m, AN (N + 1) (lb (rwT t (divS t N i a S))) (lr (S 2 t 2) (rwT t (divS t N i a S))) (lp (rwT t (divS t N i a S))) (ld (rwT t (divS t N i a S))) d m = AN N (lb (rwT t S)) (lr (S 2 t 2) (rwT t S)) (lp (rwT t S)) (ld (rwT t S)) d m := by
  have e2 : divS t N i a S 2 t 2 = S 2 t 2 := by unfold divS; rw [if_neg (by omega), if_neg (by omega), if_neg (by omega)]
  have ei : rwT t (divS t N i a S) i = xgr1 a (rwT t S i) := by funext f; unfold rwT divS; rw [if_pos ⟨rfl, rfl⟩]
  have eN : rwT t (divS t N i a S) N = xgr2 a (rwT t S i) (xbeg (S 10 (32 * t + i) 1) (S 10 (32 * t + i) 2) (S 10 (32 * t + i) 3 - a) (S 10 (32 * t + i) 4) (S 2 t 2)) := by funext f; unfold rwT divS; rw [if_neg (by omega), if_pos ⟨rfl, rfl⟩]
  have eo : ∀ j, j < N → j ≠ i → rwT t (divS t N i a S) j = rwT t S j := fun j hj hn => by funext f; unfold rwT divS; rw [if_neg (by omega), if_neg (by omega), if_neg (by omega)]
  generalize divS t N i a S = S1 at e2 ei eN eo
  generalize hF : rwT t S i = F at ei eN
  have e0 : F 0 = 0 := by rw [← hF]; exact h0
  have e3 : 1 ≤ a ∧ a ≤ F 3 - 1 := by rw [← hF]; exact ha
  have i0 : rwT t S1 i 0 = 0 := by rw [ei]; exact e0
  have i2 : rwT t S1 i 2 = F 2 := by rw [ei]; rfl
  have i3 : rwT t S1 i 3 = a := by rw [ei]; rfl
  have i4 : rwT t S1 i 4 = F 4 := by rw [ei]; rfl
  have i5 : rwT t S1 i 5 = F 5 := by rw [ei]; rfl
  have i6 : rwT t S1 i 6 = xmin (F 6) a := by rw [ei]; rfl
  have i7 : rwT t S1 i 7 = F 7 := by rw [ei]; rfl
  have n0 : rwT t S1 N 0 = 0 := by rw [eN]; rfl
  have n2 : rwT t S1 N 2 = F 2 := by rw [eN, ← hF]; rfl
  have n3 : rwT t S1 N 3 = F 3 - a := by rw [eN, ← hF]; rfl
  have n4 : rwT t S1 N 4 = F 4 := by rw [eN, ← hF]; rfl
  have n5 : rwT t S1 N 5 = F 5 := by rw [eN]; rfl
  have n6 : rwT t S1 N 6 = xmax 0 (F 6 - a) := by rw [eN]; rfl
  have n7 : rwT t S1 N 7 = F 7 := by rw [eN]; rfl
  have hQ := h.1 i hi
  rw [hF] at hQ
  obtain ⟨q0, q1, q2, q3, q4, q6⟩ := id hQ
  have bi : lb (rwT t S1) i + lb (rwT t S1) N = lb (rwT t S) i := by
    unfold lb
    rw [i0, n0, hF, e0, if_pos rfl, if_pos rfl, if_pos rfl, i3, n3]
    omega
  have pi' : lp (rwT t S1) i = lp (rwT t S) i ∧ lp (rwT t S1) N = lp (rwT t S) i ∧ ld (rwT t S1) i = ld (rwT t S) i ∧ ld (rwT t S1) N = ld (rwT t S) i ∧ lr (S 2 t 2) (rwT t S1) i = lr (S 2 t 2) (rwT t S) i ∧ lr (S 2 t 2) (rwT t S1) N = lr (S 2 t 2) (rwT t S) i := by
    unfold lp ld lr
    rw [i2, n2, i4, n4, i5, n5, hF]
    exact ⟨rfl, rfl, rfl, rfl, rfl, rfl⟩
  obtain ⟨p1, p2, p3, p4, p5, p6⟩ := pi'
  have mm : (xmin (F 6) a).toNat + (xmax 0 (F 6 - a)).toNat = (F 6).toNat ∧ 0 ≤ xmin (F 6) a ∧ 0 ≤ xmax 0 (F 6 - a) ∧ (0 < xmin (F 6) a → 0 < F 6) ∧ (0 < xmax 0 (F 6 - a) → 0 < F 6) := by
    unfold xmin xmax
    split <;> split <;> omega
  refine ⟨e2, fun d => ?_, fun d m => ?_⟩
  · unfold lW
    rw [sn]
    refine sn_two hi (fun j hj hn => ?_) _ ?_
    · unfold lw1; rw [eo j hj hn]
    · unfold lw1 w1
      rw [i6, i7, n6, n7, hF]
      split
      · exact mm.1
      · rfl
  · unfold AN
    rw [sn]
    refine sn_two hi (fun j hj hn => ?_) _ ?_
    · unfold lb lr lp ld; rw [eo j hj hn]
    · show (if _ then _ else _) + (if _ then _ else _) = (if _ then _ else _)
      rw [p1, p2, p3, p4, p5, p6]
      split
      · exact bi
      · rfl
theorem div_fre {N i : Nat} {a : Int} {S : xS} (h : Fut 0 N S) (hi : i < N) (h0 : S 10 i 0 = 0) (ha : 1 ≤ a ∧ a ≤ S 10 i 3 - 1) : freT 0 (N + 1) 360 (divS 0 N i a S) = freT 0 N 360 S := by
  have h0' : S 10 (32 * 0 + i) 0 = 0 := by rw [e32]; exact h0
  have ha' : 1 ≤ a ∧ a ≤ S 10 (32 * 0 + i) 3 - 1 := by rw [e32]; exact ha
  obtain ⟨e2, eW, eA⟩ := div_WA h hi h0' ha'
  refine Int.le_antisymm ?_ ?_
  · exact freT_le (h.div hi h0' ha') h e2.symm (fun d => by rw [e2]; exact Nat.le_of_eq (eW d).symm) (fun d m => by rw [e2]; exact Nat.le_of_eq (eA d m).symm)
  · exact freT_le h (h.div hi h0' ha') e2 (fun d => Nat.le_of_eq (eW d)) (fun d m => Nat.le_of_eq (eA d m))
theorem fin_WA {t N i : Nat} {S : xS} (h : Fut t N S) (hi : i < N) (hc : 0 ≤ S 2 t 2) : rwS 10 (32 * t + i) (xfin (S 10 (32 * t + i))) S 2 t 2 = S 2 t 2 ∧ (∀ d, lW (S 2 t 2) (rwT t (rwS 10 (32 * t + i) (xfin (S 10 (32 * t + i))) S)) N d ≤ lW (S 2 t 2) (rwT t S) N d) ∧ ∀ d m, AN N (lb (rwT t (rwS 10 (32 * t + i) (xfin (S 10 (32 * t + i))) S))) (lr (S 2 t 2) (rwT t (rwS 10 (32 * t + i) (xfin (S 10 (32 * t + i))) S))) (lp (rwT t (rwS 10 (32 * t + i) (xfin (S 10 (32 * t + i))) S))) (ld (rwT t (rwS 10 (32 * t + i) (xfin (S 10 (32 * t + i))) S))) d m ≤ AN N (lb (rwT t S)) (lr (S 2 t 2) (rwT t S)) (lp (rwT t S)) (ld (rwT t S)) d m := by
  have e2 : rwS 10 (32 * t + i) (xfin (S 10 (32 * t + i))) S 2 t 2 = S 2 t 2 := by unfold rwS; rw [if_neg (by omega)]
  have er : ∀ j, rwT t (rwS 10 (32 * t + i) (xfin (S 10 (32 * t + i))) S) j = if j = i then xfin (rwT t S i) else rwT t S j := fun j => by
    unfold rwT rwS
    by_cases c : j = i
    · rw [if_pos c]; funext f; rw [if_pos ⟨rfl, by omega⟩]
    · rw [if_neg c]; funext f; rw [if_neg (by omega)]
  generalize hS : rwS 10 (32 * t + i) (xfin (S 10 (32 * t + i))) S = S1 at e2 er
  have eb : ∀ j, j < N → lb (rwT t S1) j ≤ lb (rwT t S) j ∧ (j ≠ i → lr (S 2 t 2) (rwT t S1) j = lr (S 2 t 2) (rwT t S) j) ∧ lp (rwT t S1) j = lp (rwT t S) j ∧ ld (rwT t S1) j = ld (rwT t S) j ∧ (j = i → lb (rwT t S1) j = 0) := fun j hj => by
    unfold lb lr lp ld
    rw [er j]
    by_cases c : j = i
    · rw [if_pos c]
      subst c
      rw [show xfin (rwT t S j) 0 = 1 from rfl, if_neg (by decide)]
      exact ⟨Nat.zero_le _, fun z => absurd rfl z, rfl, rfl, fun _ => rfl⟩
    · rw [if_neg c]
      exact ⟨Nat.le_refl _, fun _ => rfl, rfl, rfl, fun z => absurd z c⟩
  subst hS
  refine ⟨e2, fun d => sn_le (fun j hj => ?_), fun d m => sn_le (fun j hj => ?_)⟩
  · unfold lw1
    rw [er j]
    split
    · unfold w1; rw [show xfin (rwT t S i) 6 = 0 from rfl]; split <;> exact Nat.zero_le _
    · exact Nat.le_refl _
  · obtain ⟨a1, a2, a3, a4, a5⟩ := eb j hj
    by_cases c : j = i
    · rw [a5 c]; split <;> exact Nat.zero_le _
    · rw [a2 c, a3, a4]
      split
      · exact a1
      · exact Nat.le_refl _
theorem end_fre {N i : Nat} {S : xS} (h : Fut 0 N S) (hi : i < N) (hc : 0 ≤ S 2 0 2) : freT 0 N 360 S ≤ freT 0 N 360 (rwS 10 i (xfin (S 10 i)) S) := by
  obtain ⟨e2, eW, eA⟩ := fin_WA h hi hc
  have hf := h.fin hi hc
  rw [e32] at e2 eW eA hf
  exact freT_le h hf e2 eW eA
