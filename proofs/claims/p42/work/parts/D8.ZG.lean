/-! the world is made -/
/-! the world is made -/
theorem arrV_ext {c : ClassId} {n : Nat} {f g : Nat → Value} (h : ∀ j, j < n → f j = g j) : arrV c n f = arrV c n g := by
  unfold arrV
  congr 1
  exact congrArg Array.ofFn (funext fun j => h j.1 j.2)
theorem va_extq {D : va_G} {cl : List vw_C} {a n : Nat} {c : ClassId} {f g : Nat → Option Nat} {H : Heap} (h : va_at D cl (a, .inl (c, n, .inr (.inr (.inr (.inr f))))) H) (e : ∀ j, j < n → f j = g j) : va_at D cl (a, .inl (c, n, .inr (.inr (.inr (.inr g))))) H := by
  show H[a]? = some (vp_cell _ _)
  rw [vp_cell_q, ← arrV_ext (f := fun j => va_rf (f j)) (fun j hj => by rw [e j hj])]
  exact h
/-- the store at the start -/
def xS0 : xS := fun k _ f => if k = 1 then (if f = 4 then 5 else if f = 5 then 10 else if f = 7 then -1 else 0) else if k = 3 then (if f = 5 then -1 else 0) else if k = 31 then (if f < 15 then perA f else 0) else 0
theorem zfin_at {w : xW} {k j : Nat} {H : Heap} (hv : xval k j = true) (hk : k < 50) (h : va_at w.2.1 vwCl (w.1 k j, zfin w (zc3 w) k j) H) : va_at w.2.1 vwCl (w.1 k j, xce w k j (xS0 k j)) H := by
  unfold xval at hv
  split at hv
  · exact h
  · exact h
  · exact h
  · exact h
  · exact h
  · exact h
  · exact h
  · refine va_extq h (fun f hf => ?_)
    show (if f = 1 then some (w.1 1 3) else if f = 0 then some (w.1 1 2) else none) = some (w.1 1 (2 + f))
    rcases (show f = 0 ∨ f = 1 by omega) with rfl | rfl <;> rfl
  · exact h
  · refine va_extq h (fun f hf => ?_)
    show (if f < 8 then some (w.1 4 (8 * j + f)) else none) = some (w.1 4 (8 * j + f))
    rw [if_pos hf]
  · refine va_extq h (fun f hf => ?_)
    show (if f < 21 then some (w.1 10 (32 * j + f)) else none) = some (w.1 10 (32 * j + f))
    rw [if_pos hf]
  · exact h
  · exact h
  · obtain rfl : j = 0 := by simpa using hv
    exact h
  · exact h
  · exact h
  · exfalso; simp at hv; omega
def zDf : zD := zDL ([] ++ [(30, 0)])
theorem zDf_all : ∀ q ∈ xLL, q ∈ zDf := by decide +kernel
theorem perA_r (f : Nat) : 0 ≤ perA f ∧ perA f ≤ 120 := by
  unfold perA
  by_cases h : f < 15
  · have b' : f = 0 ∨ f = 1 ∨ f = 2 ∨ f = 3 ∨ f = 4 ∨ f = 5 ∨ f = 6 ∨ f = 7 ∨ f = 8 ∨ f = 9 ∨ f = 10 ∨ f = 11 ∨ f = 12 ∨ f = 13 ∨ f = 14 := by omega
    rcases b' with rfl | rfl | rfl | rfl | rfl | rfl | rfl | rfl | rfl | rfl | rfl | rfl | rfl | rfl | rfl <;> decide
  · rw [List.getD_eq_getElem?_getD, List.getElem?_eq_none (by show 15 ≤ f; omega)]
    decide
theorem xWR0 : xWR xS0 := by
  have h : ∀ k j f, xr (xS0 k j f) := fun k j f => by
    unfold xS0
    have hp := perA_r f
    split
    · split
      · decide
      · split
        · decide
        · split <;> decide
    · split
      · split <;> decide
      · split
        · split
          · omega
          · decide
        · decide
  exact ⟨fun k j f => by have := h k j f; omega, fun k j f _ => h k j f⟩
theorem xRep_of {w : xW} {z : Nat} {H : Heap} (h : zRep w zDf (zfin w (zc3 w)) z H) : xRep w xS0 H := by
  obtain ⟨hP, hD, hN, hz⟩ := h
  refine ⟨fun i q hi => ?_, ⟨fun i j p q hi hj e => ?_, fun i q hi => ?_⟩, xWR0⟩
  · unfold xwl at hi
    rw [List.getElem?_map] at hi
    cases hq : xLL[i]? with
    | none => rw [hq] at hi; cases hi
    | some a =>
      rw [hq] at hi
      cases hi
      obtain ⟨k, j⟩ := a
      have hm := List.mem_of_getElem? hq
      obtain ⟨i2, -, hi2⟩ := zwl_in (w := w) (E := zfin w (zc3 w)) (zDf_all _ hm)
      exact zfin_at (xLL_of hm).1 (xLL_of hm).2 (hP i2 _ hi2)
  · unfold xwl at hi hj
    rw [List.getElem?_map] at hi hj
    cases hq : xLL[i]? with
    | none => rw [hq] at hi; cases hi
    | some a =>
      cases hq2 : xLL[j]? with
      | none => rw [hq2] at hj; cases hj
      | some b =>
        rw [hq] at hi
        rw [hq2] at hj
        cases hi
        cases hj
        obtain ⟨k1, j1⟩ := a
        obtain ⟨k2, j2⟩ := b
        obtain ⟨i1, d1, hi1⟩ := zwl_in (w := w) (E := zfin w (zc3 w)) (zDf_all _ (List.mem_of_getElem? hq))
        obtain ⟨i2, d2, hi2⟩ := zwl_in (w := w) (E := zfin w (zc3 w)) (zDf_all _ (List.mem_of_getElem? hq2))
        have e9 := hD.1 i1 i2 _ _ hi1 hi2 e
        rw [e9, d2] at d1
        cases d1
        obtain ⟨l1, e1⟩ := List.getElem?_eq_some_iff.mp hq
        obtain ⟨l2, e2⟩ := List.getElem?_eq_some_iff.mp hq2
        exact (List.getElem_inj xLL_nd).mp (e1.trans e2.symm)
  · unfold xwl at hi
    rw [List.getElem?_map] at hi
    cases hq : xLL[i]? with
    | none => rw [hq] at hi; cases hi
    | some a =>
      rw [hq] at hi
      cases hi
      obtain ⟨k, j⟩ := a
      obtain ⟨i2, -, hi2⟩ := zwl_in (w := w) (E := zfin w (zc3 w)) (zDf_all _ (List.mem_of_getElem? hq))
      exact (show xfr w (w.1 k j) from hD.2 i2 _ hi2)
theorem Z.toX {w : xW} {qq : Prop} {mi : xM} {TG : xT} {k n pc : Nat} {L st : List xV} {z : Nat} (h : X w mi TG k n pc L st xS0) : Z w qq mi TG k n pc L st zDf (zfin w (zc3 w)) z := fun p l e R s m args below meth c H locs cells slots MC MS ls hC hB hR hS hl hL hst => h p l e R s m args below meth c H locs cells slots MC MS ls hC hB (xRep_of hR.1) hS hl hL hst
/-- the law up to its call -/
theorem zl_law {w : xW} {TG : xT} {b k n : Nat} (hw : zPl w (b + 1)) (h : X w mL_law TG k n 7 [xp 52 0] [xp 30 0] xS0) : Z w False mL_law TG (252 + k) (4678 + n) 0 [xp 52 0] [] [] (zfin w zc0) b := by
  refine Z.fresh (fun hf => ?_)
  refine za_new (x := 30) (y := 0) (T := TL) (N := 5) (C := RL) (ci := 7) (ty0 := tyL) (fs := [.null, .null, .int 0, .null, .null]) eL_law_0 (zw_3 (xtb_in (i := 18) (by decide +kernel) (by decide +kernel)) (xtb_in (i := 19) (by decide +kernel) (by decide +kernel)) li_RL) xin_X9 tyL_ok rfl (fun j hj => by rcases (show j = 0 ∨ j = 1 ∨ j = 2 ∨ j = 3 ∨ j = 4 by omega) with rfl | rfl | rfl | rfl | rfl <;> rfl) (by decide) (by rw [hw _ _ (by decide)]; rfl) (hf _ _ (by rw [hw _ _ (by decide)]; exact Nat.le_refl _)) (by omega) ?_
  refine Z.ce zfin_c ?_
  refine Z.ce (show _ = zfin w zc0 from rfl) ?_
  refine za_dup eL_law_3 rfl ?_
  refine za_callI (y := yL_init) (mi' := mL_init) (k1 := 251) (n1 := 4673) eL_law_4 (zw_4 lRL_235 zi_L li_RL zc_L) rfl rfl rfl ⟨zd_L, by decide, by decide⟩ (Nat.le_of_ble_eq_true rfl) (by omega) (k_L_init hw (List.mem_append_right _ List.mem_cons_self)) ?_ rfl
  refine Z.toX (X_mono h (by omega) (by omega))
