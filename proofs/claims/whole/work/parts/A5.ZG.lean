/-! the world is made -/
/-! the world is made -/
theorem arrV_ext {c : ClassId} {n : Nat} {f g : Nat → Value} (h : ∀ j, j < n → f j = g j) : arrV c n f = arrV c n g := by
  unfold arrV
  congr 1
  exact congrArg Array.ofFn (funext fun j => h j.1 j.2)
theorem va_extq {D : va_G} {cl : List vw_C} {a n : Nat} {c : ClassId} {f g : Nat → Option Nat} {H : Heap} (h : va_at D cl (a, .inl (c, n, .inr (.inr (.inr (.inr f))))) H) (e : ∀ j, j < n → f j = g j) : va_at D cl (a, .inl (c, n, .inr (.inr (.inr (.inr g))))) H := by
  show H[a]? = some (vp_cell _ _)
  rw [vp_cell_q, ← arrV_ext (f := fun j => va_rf (f j)) (fun j hj => by rw [e j hj])]
  exact h
/-- the store at the start -/
def xS0 : xS := fun k _ f => if k = 1 then (if f = 4 then 5 else if f = 5 then 10 else if f = 7 then -1 else 0) else if k = 3 then (if f = 5 then -1 else 0) else if k = 30 then (if f = 21 then -1 else 0) else if k = 31 then (if f = 5 then -1 else if f = 4 then 10 else if f = 3 then 5 else 0) else 0
theorem zst_eq : zst = fun f => Int64.ofInt (xS0 31 0 f) := by
  funext f
  show zst f = Int64.ofInt (if f = 5 then -1 else if f = 4 then 10 else if f = 3 then 5 else 0)
  unfold zst vp_updL
  split
  · rfl
  · split
    · rfl
    · split <;> rfl
theorem zfin_at {w : xW} {k j : Nat} {H : Heap} (hv : xval k j = true) (hk : k < 50) (h : va_at w.2.1 vwCl (w.1 k j, zfin w k j) H) : va_at w.2.1 vwCl (w.1 k j, xce w k j (xS0 k j)) H := by
  unfold xval at hv
  split at hv
  · exact h
  · exact h
  · exact h
  · exact h
  · exact h
  · exact h
  · exact h
  · refine va_extq h (fun f hf => ?_)
    show (if f = 1 then some (w.1 1 3) else if f = 0 then some (w.1 1 2) else none) = some (w.1 1 (2 + f))
    rcases (show f = 0 ∨ f = 1 by omega) with rfl | rfl <;> rfl
  · exact h
  · refine va_extq h (fun f hf => ?_)
    show (if f < 8 then some (w.1 4 (8 * j + f)) else none) = some (w.1 4 (8 * j + f))
    rw [if_pos hf]
  · refine va_extq h (fun f hf => ?_)
    show (if f < 21 then some (w.1 10 (32 * j + f)) else none) = some (w.1 10 (32 * j + f))
    rw [if_pos hf]
  · exact h
  · exact h
  · exact h
  · show va_at w.2.1 vwCl (w.1 31 j, .inl (w.2.2.1 1, (527, .inr (.inl fun f => Int64.ofInt (xS0 31 0 f))))) H
    rw [← zst_eq]
    exact h
  · exact h
  · exact h
  · exact h
  · exact h
  · exact h
  · exact h
  · exact h
  · exact h
  · exact h
  · exact h
  · exact h
  · exfalso; simp at hv; omega
def zDf : zD := zD8 (zD7 ([] ++ [(0, 0)]) ++ [(30, 0)]) ++ [(42, 0)]
theorem zDf_all : ∀ q ∈ xLL, q ∈ zDf := by decide +kernel
theorem xWR0 : xWR xS0 := by
  have h : ∀ k j f, xr (xS0 k j f) := fun k j f => by
    unfold xS0
    split
    · split
      · decide
      · split
        · decide
        · split <;> decide
    · split
      · split <;> decide
      · split
        · split <;> decide
        · split
          · split
            · decide
            · split
              · decide
              · split <;> decide
          · decide
  exact ⟨fun k j f => by have := h k j f; omega, fun k j f _ => h k j f⟩
theorem xRep_of {w : xW} {z : Nat} {H : Heap} (h : zRep w zDf (zfin w) z H) : xRep w xS0 H := by
  obtain ⟨hP, hD, hN, hz⟩ := h
  refine ⟨fun i q hi => ?_, ⟨fun i j p q hi hj e => ?_, fun i q hi => ?_⟩, xWR0⟩
  · unfold xwl at hi
    rw [List.getElem?_map] at hi
    cases hq : xLL[i]? with
    | none => rw [hq] at hi; cases hi
    | some a =>
      rw [hq] at hi
      cases hi
      obtain ⟨k, j⟩ := a
      have hm := List.mem_of_getElem? hq
      obtain ⟨i2, -, hi2⟩ := zwl_in (w := w) (E := zfin w) (zDf_all _ hm)
      exact zfin_at (xLL_of hm).1 (xLL_of hm).2 (hP i2 _ hi2)
  · unfold xwl at hi hj
    rw [List.getElem?_map] at hi hj
    cases hq : xLL[i]? with
    | none => rw [hq] at hi; cases hi
    | some a =>
      cases hq2 : xLL[j]? with
      | none => rw [hq2] at hj; cases hj
      | some b =>
        rw [hq] at hi
        rw [hq2] at hj
        cases hi
        cases hj
        obtain ⟨k1, j1⟩ := a
        obtain ⟨k2, j2⟩ := b
        obtain ⟨i1, d1, hi1⟩ := zwl_in (w := w) (E := zfin w) (zDf_all _ (List.mem_of_getElem? hq))
        obtain ⟨i2, d2, hi2⟩ := zwl_in (w := w) (E := zfin w) (zDf_all _ (List.mem_of_getElem? hq2))
        have e9 := hD.1 i1 i2 _ _ hi1 hi2 e
        rw [e9, d2] at d1
        cases d1
        obtain ⟨l1, e1⟩ := List.getElem?_eq_some_iff.mp hq
        obtain ⟨l2, e2⟩ := List.getElem?_eq_some_iff.mp hq2
        exact (List.getElem_inj xLL_nd).mp (e1.trans e2.symm)
  · unfold xwl at hi
    rw [List.getElem?_map] at hi
    cases hq : xLL[i]? with
    | none => rw [hq] at hi; cases hi
    | some a =>
      rw [hq] at hi
      cases hi
      obtain ⟨k, j⟩ := a
      obtain ⟨i2, -, hi2⟩ := zwl_in (w := w) (E := zfin w) (zDf_all _ (List.mem_of_getElem? hq))
      exact (show xfr w (w.1 k j) from hD.2 i2 _ hi2)
theorem Z.toX {w : xW} {qq : Prop} {mi : xM} {TG : xT} {k n pc : Nat} {L st : List xV} {z : Nat} (h : X w mi TG k n pc L st xS0) : Z w qq mi TG k n pc L st zDf (zfin w) z := fun p l e R s m args below meth c H locs cells slots MC MS ls hC hB hR hS hl hL hst => h p l e R s m args below meth c H locs cells slots MC MS ls hC hB (xRep_of hR.1) hS hl hL hst
theorem X_room {w : xW} {mi : xM} {TG : xT} {k n k1 n1 pc : Nat} {L st : List xV} {S : xS} (h : X w mi TG k1 n1 pc L st S) (hk : k1 ≤ k ∧ n1 ≤ n) : X w mi TG k n pc L st S := fun p l e R s m args below meth c H locs cells slots MC MS ls hC hB => h p l e R s m args below meth c H locs cells slots MC MS ls hC (by omega)
/-- the law up to its loop -/
theorem zl_law {w : xW} {TG : xT} {b k n : Nat} (hw : zPl w b) (h : X w mL_law TG k n 23 [xp 52 0, xp 0 0, xp 30 0, xp 42 0, xi 0, xj, xj, xj, xj] [] xS0) : Z w False mL_law TG (262 + k) (7614 + n) 0 [xp 52 0, xj, xj, xj, xj, xj, xj, xj, xj] [] [] (zfin w) b := by
  refine Z.fresh (fun hf => ?_)
  refine za_new (x := 0) (y := 0) (T := TX7) (N := 7) (C := RX7) (ci := 6) (ty0 := tyX7) (fs := [.null, .null, .null, .null, .null, .null, .null]) eL_law_0 (zw_3 (xtb_in (i := 23) (by decide +kernel) (by decide +kernel)) (xtb_in (i := 24) (by decide +kernel) (by decide +kernel)) li_RX7) xin_X7 tyX7_ok rfl (fun j hj => by rcases (show j = 0 ∨ j = 1 ∨ j = 2 ∨ j = 3 ∨ j = 4 ∨ j = 5 ∨ j = 6 by omega) with rfl | rfl | rfl | rfl | rfl | rfl | rfl <;> rfl) (by decide) (by rw [hw _ _ (by decide)]; rfl) (hf _ _ (by rw [hw _ _ (by decide)]; exact Nat.le_refl _)) (by omega) ?_
  refine za_dup eL_law_3 rfl ?_
  refine za_callI (y := yX7_init) (mi' := mX7_init) (k1 := 248) (n1 := 4647) eL_law_4 (zw_4 (xtb_in (i := 25) (by decide +kernel) (by decide +kernel)) zi_X7 li_RX7 zc_X7) rfl rfl rfl ⟨zd_X7, by decide, by decide⟩ (Nat.le_of_ble_eq_true rfl) (by omega) (k_X7_init hw (List.mem_append_right _ List.mem_cons_self)) ?_ rfl
  refine za_astoreN (i := 1) eL_law_7 rfl (Nat.le_of_ble_eq_true rfl) (xpre_s rfl rfl) ?_
  refine Z.fresh (fun hf => ?_)
  refine za_new (x := 30) (y := 0) (T := TX8) (N := 23) (C := RX8) (ci := 7) (ty0 := tyX8) (fs := [.null, .null, .null, .null, .int 0, .null, .null, .null, .null, .null, .null, .int 0, .int 0, .null, .int 0, .int 0, .int 0, .int 0, .int 0, .int 0, .int 0, .int 0, .long 0]) eL_law_8 (zw_3 (xtb_in (i := 1104) (by decide +kernel) (by decide +kernel)) (xtb_in (i := 1105) (by decide +kernel) (by decide +kernel)) li_RX8) xin_X8 tyX8_ok rfl (fun j hj => by rcases (show j = 0 ∨ j = 1 ∨ j = 2 ∨ j = 3 ∨ j = 4 ∨ j = 5 ∨ j = 6 ∨ j = 7 ∨ j = 8 ∨ j = 9 ∨ j = 10 ∨ j = 11 ∨ j = 12 ∨ j = 13 ∨ j = 14 ∨ j = 15 ∨ j = 16 ∨ j = 17 ∨ j = 18 ∨ j = 19 ∨ j = 20 ∨ j = 21 ∨ j = 22 by omega) with rfl | rfl | rfl | rfl | rfl | rfl | rfl | rfl | rfl | rfl | rfl | rfl | rfl | rfl | rfl | rfl | rfl | rfl | rfl | rfl | rfl | rfl | rfl <;> rfl) (by decide) (by rw [hw _ _ (by decide)]; rfl) (hf _ _ (by rw [hw _ _ (by decide)]; exact Nat.le_refl _)) (by omega) ?_
  refine za_dup eL_law_11 rfl ?_
  refine za_callI (y := yX8_init) (mi' := mX8_init) (k1 := 11) (n1 := 2936) eL_law_12 (zw_4 (xtb_in (i := 1106) (by decide +kernel) (by decide +kernel)) zi_X8 li_RX8 zc_X8) rfl rfl rfl ⟨zd_X8, by decide, by decide⟩ (Nat.le_of_ble_eq_true rfl) (by omega) (k_X8_init hw (List.mem_append_right _ List.mem_cons_self)) ?_ rfl
  refine za_astoreN (i := 2) eL_law_15 rfl (Nat.le_of_ble_eq_true rfl) (xpre_s rfl rfl) ?_
  refine za_iconst eL_law_16 ?_
  refine Z.fresh (fun hf => ?_)
  refine za_newa (x := 42) (y := 0) (N := 1) (t := 1) (ty := .long) (a0 := (1, .inr (.inl fun _ => 0))) eL_law_17 (xtb_in (i := 1187) (by decide +kernel) (by decide +kernel)) rfl rfl (fun _ _ => rfl) (fun c => vp_cell_l c 1 _) rfl (by decide) (Nat.le_of_ble_eq_true rfl) (by decide) (by rw [hw _ _ (by decide)]; rfl) (hf _ _ (by rw [hw _ _ (by decide)]; exact Nat.le_refl _)) (by omega) ?_
  refine Z.ce (zup_id rfl) ?_
  refine za_astoreN (i := 3) eL_law_19 rfl (Nat.le_of_ble_eq_true rfl) (xpre_s rfl rfl) ?_
  refine za_iconst eL_law_20 ?_
  refine za_istore (i := 4) eL_law_21 (Nat.le_of_ble_eq_true rfl) (xpre_s rfl rfl) ?_
  exact Z.toX (X_room h (by omega))
