theorem li_RX3 : Cond.initialized RX3 ∈ xtb := xtb_in (i := 7) (by decide +kernel) (by decide +kernel)
/-! the constructors of SetupText and PromiseMarket -/
/-! the constructors of SetupText and PromiseMarket -/
theorem Z.ce {w : xW} {qq : Prop} {mi : xM} {TG : xT} {k n pc : Nat} {L st : List xV} {D : zD} {E E2 : zE} {z : Nat} (e : E = E2) (h : Z w qq mi TG k n pc L st D E2 z) : Z w qq mi TG k n pc L st D E z := e ▸ h
theorem Z.cz {w : xW} {qq : Prop} {mi : xM} {TG : xT} {k n pc : Nat} {L st : List xV} {D : zD} {E : zE} {z z2 : Nat} (e : z = z2) (h : Z w qq mi TG k n pc L st D E z2) : Z w qq mi TG k n pc L st D E z := e ▸ h
theorem zup_id {X : zE} {k j : Nat} {e : va_E} (h : X k j = e) : zup X k j e = X := by
  funext a b
  unfold zup
  split
  · rename_i c; obtain ⟨rfl, rfl⟩ := c; exact h.symm
  · rfl
theorem zup_zup {X : zE} {k j : Nat} {e e2 : va_E} : zup (zup X k j e) k j e2 = zup X k j e2 := by
  funext a b
  unfold zup
  split
  · rfl
  · rfl
theorem zup_ne {X : zE} {k j a b : Nat} {e : va_E} (h : ¬ (a = k ∧ b = j)) : zup X k j e a b = X a b := by unfold zup; rw [if_neg h]
theorem zS_id {w : xW} {cL : va_E} {s : Nat} {X : zE} {e : va_E} (h : ∀ k j, (k = 1 ∧ j = s) ∨ zmi s k j → X k j = zfin w cL k j) : zS w s (zup X 1 s e) 8 = X := by
  funext k j
  by_cases c : (k = 1 ∧ j = s) ∨ zmi s k j
  · rw [zS_fin c]; exact (h k j c).symm
  · rw [zS_o c, zup_ne (fun z => c (Or.inl z))]
theorem zT_id {w : xW} {cL : va_E} {t : Nat} {X : zE} {e : va_E} (h : ∀ k j, (k = 2 ∧ j = t) ∨ (k = 23 ∧ j = t) ∨ (k = 10 ∧ 32 * t ≤ j ∧ j < 32 * t + 21) → X k j = zfin w cL k j) : zT w t (zup X 2 t e) 21 = X := by
  funext k j
  by_cases c : (k = 2 ∧ j = t) ∨ (k = 23 ∧ j = t) ∨ (k = 10 ∧ 32 * t ≤ j ∧ j < 32 * t + 21)
  · rw [zT_fin c]; exact (h k j c).symm
  · rw [zT_o c, zup_ne (fun z => c (Or.inl z))]
theorem zmi_k {s k j : Nat} (h : (k = 1 ∧ j = s) ∨ zmi s k j) : k ≠ 0 ∧ k ≠ 3 ∧ k ≠ 20 := by unfold zmi at h; omega
def zD3 (D : zD) : zD := zTD 7 ((zSD 4 ((D ++ [(24, 0)]) ++ [(1, 4)]) 8) ++ [(2, 7)]) 21
theorem k_X3_init {w : xW} {cL : va_E} {D : zD} {c0 : va_E} {b : Nat} (hw : zPl w b) (hm : (3, 0) ∈ D) : KZ w mX3_init yX3_init 59 1639 [xp 3 0] D (zup (zup (zfin w cL) 0 0 c0) 3 0 (.inr (3, [.null, .int 0, .null, .null, .int 0, .int 0, .null, .int 0, .int 0, .int 0]))) (b + 190) (zD3 D) (zup (zfin w cL) 0 0 c0) (b + 249) := by
  refine KZ.of (qq := True) (fun _ => rfl) rfl rfl rfl rfl (Nat.le_of_ble_eq_true rfl) rfl ?_
  refine za_aloadN (i := 0) eX3_init_0 rfl rfl ?_
  refine za_obj eX3_init_1 zw_objX3 ⟨by decide, by decide⟩ ?_ rfl
  refine za_aloadN (i := 0) eX3_init_4 rfl rfl ?_
  refine za_sipush eX3_init_5 (by decide) ?_
  refine Z.fresh (fun hf => ?_)
  refine za_newa (x := 24) (y := 0) (N := 700) (t := 3) (ty := .byte) (a0 := (700, .inl fun _ => 0)) eX3_init_8 (xtb_in (i := 303) (by decide +kernel) (by decide +kernel)) rfl rfl (fun _ _ => rfl) (fun c => vp_cell_i c 700 _) rfl (by decide) (Nat.le_of_ble_eq_true rfl) (by decide) (by rw [hw _ _ (by decide)]; rfl) (hf _ _ (by rw [hw _ _ (by decide)]; exact Nat.le_refl _)) (by omega) ?_
  refine Z.ce (zup_id (by rw [zup_ne (by omega), zup_ne (by omega)]; rfl)) ?_
  refine za_putF (T := TX3) (N := 10) (C := RX3) (ci := 3) (f := 0) (ty0 := tyX3) (ty := .array .byte) (u := xp 24 0) (fs := [.null, .int 0, .null, .null, .int 0, .int 0, .null, .int 0, .int 0, .int 0]) eX3_init_10 lRX3_9 xin_X3 tyX3_ok nmX3 rfl (by decide) (List.mem_append_left _ hm) (by unfold zup; rw [if_pos ⟨rfl, rfl⟩] <;> rfl) rfl trivial rfl rfl rfl rfl (Nat.le_of_ble_eq_true rfl) ?_
  refine Z.ce zup_zup ?_
  refine za_aloadN (i := 0) eX3_init_13 rfl rfl ?_
  refine Z.fresh (fun hf => ?_)
  refine za_new (x := 1) (y := 4) (T := TX4) (N := 14) (C := RX4) (ci := 4) (ty0 := tyX4) (fs := [.null, .null, .null, .int 0, .int 0, .int 0, .long 0, .int 0, .int 0, .int 0, .int 0, .int 0, .int 0, .int 0]) eX3_init_14 (zw_3 (xtb_in (i := 270) (by decide +kernel) (by decide +kernel)) (xtb_in (i := 33) (by decide +kernel) (by decide +kernel)) li_RX4) xin_X4 tyX4_ok rfl (fun j hj => by rcases (show j = 0 ∨ j = 1 ∨ j = 2 ∨ j = 3 ∨ j = 4 ∨ j = 5 ∨ j = 6 ∨ j = 7 ∨ j = 8 ∨ j = 9 ∨ j = 10 ∨ j = 11 ∨ j = 12 ∨ j = 13 by omega) with rfl | rfl | rfl | rfl | rfl | rfl | rfl | rfl | rfl | rfl | rfl | rfl | rfl | rfl <;> rfl) (by decide) (by rw [hw _ _ (by decide)]; rfl) (hf _ _ (by rw [hw _ _ (by decide)]; exact Nat.le_refl _)) (by omega) ?_
  refine za_dup eX3_init_17 rfl ?_
  refine Z.fresh (fun hf => ?_)
  refine za_callI (y := yX4_init) (mi' := mX4_init) (k1 := 34) (n1 := 544) eX3_init_18 (zw_4 (xtb_in (i := 271) (by decide +kernel) (by decide +kernel)) zi_X4 li_RX4 zc_X4) rfl rfl rfl ⟨zd_X4, by decide, by decide⟩ (Nat.le_of_ble_eq_true rfl) (by omega) (k_X4_init (List.mem_append_right _ List.mem_cons_self) (by unfold zup; rw [if_pos ⟨rfl, rfl⟩]) (zSq_of hw (by decide) (fun x y h => hf x y h))) ?_ rfl
  refine Z.ce (zS_id (fun k j h => by rw [zup_ne (by have := zmi_k h; omega), zup_ne (by have := zmi_k h; omega)])) ?_
  refine za_putF (T := TX3) (N := 10) (C := RX3) (ci := 3) (f := 2) (ty0 := tyX3) (ty := .object "PromiseMarket$State") (u := xp 1 4) (fs := [.ref (w.1 24 0), .int 0, .null, .null, .int 0, .int 0, .null, .int 0, .int 0, .int 0]) eX3_init_21 lRX3_18 xin_X3 tyX3_ok nmX3 rfl (by decide) (zSD_l (List.mem_append_left _ (List.mem_append_left _ hm))) (by unfold zup; rw [if_pos ⟨rfl, rfl⟩] <;> rfl) rfl trivial rfl rfl rfl rfl (Nat.le_of_ble_eq_true rfl) ?_
  refine Z.ce zup_zup ?_
  refine za_aloadN (i := 0) eX3_init_24 rfl rfl ?_
  refine Z.fresh (fun hf => ?_)
  refine za_new (x := 2) (y := 7) (T := TX5) (N := 3) (C := RX5) (ci := 5) (ty0 := tyX5) (fs := [.null, .int 0, .int 0]) eX3_init_25 (zw_3 (xtb_in (i := 272) (by decide +kernel) (by decide +kernel)) (xtb_in (i := 39) (by decide +kernel) (by decide +kernel)) li_RX5) xin_X5 tyX5_ok rfl (fun j hj => by rcases (show j = 0 ∨ j = 1 ∨ j = 2 by omega) with rfl | rfl | rfl <;> rfl) (by decide) (by rw [hw _ _ (by decide)]; rfl) (hf _ _ (by rw [hw _ _ (by decide)]; exact Nat.le_refl _)) (by omega) ?_
  refine za_dup eX3_init_28 rfl ?_
  refine Z.fresh (fun hf => ?_)
  refine za_callI (y := yX5_init) (mi' := mX5_init) (k1 := 22) (n1 := 378) eX3_init_29 (zw_4 (xtb_in (i := 273) (by decide +kernel) (by decide +kernel)) zi_X5 li_RX5 zc_X5) rfl rfl rfl ⟨zd_X5, by decide, by decide⟩ (Nat.le_of_ble_eq_true rfl) (by omega) (k_X5_init (List.mem_append_right _ List.mem_cons_self) (by unfold zup; rw [if_pos ⟨rfl, rfl⟩]) (zTq_of hw (by decide) (fun x y h => hf x y h))) ?_ rfl
  refine Z.ce (zT_id (fun k j h => by rw [zup_ne (by omega), zup_ne (by omega)])) ?_
  refine za_putF (T := TX3) (N := 10) (C := RX3) (ci := 3) (f := 3) (ty0 := tyX3) (ty := .object "PromiseMarket$Timeline") (u := xp 2 7) (fs := [.ref (w.1 24 0), .int 0, .ref (w.1 1 4), .null, .int 0, .int 0, .null, .int 0, .int 0, .int 0]) eX3_init_32 lRX3_25 xin_X3 tyX3_ok nmX3 rfl (by decide) (zTD_l (List.mem_append_left _ (zSD_l (List.mem_append_left _ (List.mem_append_left _ hm))))) (by unfold zup; rw [if_pos ⟨rfl, rfl⟩] <;> rfl) rfl trivial rfl rfl rfl rfl (Nat.le_of_ble_eq_true rfl) ?_
  refine Z.ce zup_zup ?_
  refine za_aloadN (i := 0) eX3_init_35 rfl rfl ?_
  refine za_iconst eX3_init_36 ?_
  refine za_put (T := TX3) (N := 10) (C := RX3) (ci := 3) (f := 5) (ty0 := tyX3) (ty := .int) (u := xi (-1)) (fs := [.ref (w.1 24 0), .int 0, .ref (w.1 1 4), .ref (w.1 2 7), .int 0, .int 0, .null, .int 0, .int 0, .int 0]) eX3_init_37 lRX3_29 xin_X3 tyX3_ok nmX3 rfl (by decide) (zTD_l (List.mem_append_left _ (zSD_l (List.mem_append_left _ (List.mem_append_left _ hm))))) (by unfold zup; rw [if_pos ⟨rfl, rfl⟩] <;> rfl) rfl rfl rfl rfl (Nat.le_of_ble_eq_true rfl) ?_
  refine Z.ce zup_zup ?_
  refine za_aloadN (i := 0) eX3_init_40 rfl rfl ?_
  refine za_tok (i := 0) eX3_init_41 (by decide) lRX3_33 ?_
  refine za_put (T := TX3) (N := 10) (C := RX3) (ci := 3) (f := 6) (ty0 := tyX3) (ty := .object "PromiseMarket$Token") (u := xp 50 0) (fs := [.ref (w.1 24 0), .int 0, .ref (w.1 1 4), .ref (w.1 2 7), .int 0, .int (-1), .null, .int 0, .int 0, .int 0]) eX3_init_44 lRX3_39 xin_X3 tyX3_ok nmX3 rfl (by decide) (zTD_l (List.mem_append_left _ (zSD_l (List.mem_append_left _ (List.mem_append_left _ hm))))) (by unfold zup; rw [if_pos ⟨rfl, rfl⟩] <;> rfl) rfl rfl rfl rfl (Nat.le_of_ble_eq_true rfl) ?_
  refine Z.ce zup_zup ?_
  refine Z.ce (zup_id ?_) (Z.cz (by rfl) (za_vret eX3_init_47 rfl))
  rw [zup_ne (by omega)]
  rfl
def zD7 (D : zD) : zD := (zD3 ((zTD 6 ((zTD 5 (((zSD 3 ((zSD 2 (((zSD 1 ((zSD 0 (D ++ [(1, 0)]) 8) ++ [(1, 1)]) 8) ++ [(20, 0)]) ++ [(1, 2)]) 8) ++ [(1, 3)]) 8) ++ [(21, 0)]) ++ [(2, 5)]) 21) ++ [(2, 6)]) 21) ++ [(3, 0)]))
theorem k_X7_init {w : xW} {cL : va_E} {D : zD} {b : Nat} (hw : zPl w b) (hm : (0, 0) ∈ D) : KZ w mX7_init yX7_init 248 4647 [xp 0 0] D (zup (zfin w cL) 0 0 (.inr (6, [.null, .null, .null, .null, .null, .null, .null]))) (b + 1) (zD7 D) (zfin w cL) (b + 249) := by
  refine KZ.of (qq := True) (fun _ => rfl) rfl rfl rfl rfl (Nat.le_of_ble_eq_true rfl) rfl ?_
  refine za_aloadN (i := 0) eX7_init_0 rfl rfl ?_
  refine za_obj eX7_init_1 zw_objX7 ⟨by decide, by decide⟩ ?_ rfl
  refine za_aloadN (i := 0) eX7_init_4 rfl rfl ?_
  refine Z.fresh (fun hf => ?_)
  refine za_new (x := 1) (y := 0) (T := TX4) (N := 14) (C := RX4) (ci := 4) (ty0 := tyX4) (fs := [.null, .null, .null, .int 0, .int 0, .int 0, .long 0, .int 0, .int 0, .int 0, .int 0, .int 0, .int 0, .int 0]) eX7_init_5 (zw_3 (xtb_in (i := 32) (by decide +kernel) (by decide +kernel)) (xtb_in (i := 33) (by decide +kernel) (by decide +kernel)) li_RX4) xin_X4 tyX4_ok rfl (fun j hj => by rcases (show j = 0 ∨ j = 1 ∨ j = 2 ∨ j = 3 ∨ j = 4 ∨ j = 5 ∨ j = 6 ∨ j = 7 ∨ j = 8 ∨ j = 9 ∨ j = 10 ∨ j = 11 ∨ j = 12 ∨ j = 13 by omega) with rfl | rfl | rfl | rfl | rfl | rfl | rfl | rfl | rfl | rfl | rfl | rfl | rfl | rfl <;> rfl) (by decide) (by rw [hw _ _ (by decide)]; rfl) (hf _ _ (by rw [hw _ _ (by decide)]; exact Nat.le_refl _)) (by omega) ?_
  refine za_dup eX7_init_8 rfl ?_
  refine Z.fresh (fun hf => ?_)
  refine za_callI (y := yX4_init) (mi' := mX4_init) (k1 := 34) (n1 := 544) eX7_init_9 (zw_4 (xtb_in (i := 34) (by decide +kernel) (by decide +kernel)) zi_X4 li_RX4 zc_X4) rfl rfl rfl ⟨zd_X4, by decide, by decide⟩ (Nat.le_of_ble_eq_true rfl) (by omega) (k_X4_init (List.mem_append_right _ List.mem_cons_self) (by unfold zup; rw [if_pos ⟨rfl, rfl⟩]) (zSq_of hw (by decide) (fun x y h => hf x y h))) ?_ rfl
  refine Z.ce (zS_id (fun k j h => by rw [zup_ne (by have := zmi_k h; omega)])) ?_
  refine za_putF (T := TX7) (N := 7) (C := RX7) (ci := 6) (f := 0) (ty0 := tyX7) (ty := .object "PromiseMarket$State") (u := xp 1 0) (fs := [.null, .null, .null, .null, .null, .null, .null]) eX7_init_12 lRX7_10 xin_X7 tyX7_ok nmX7 rfl (by decide) (zSD_l (List.mem_append_left _ hm)) (by unfold zup; rw [if_pos ⟨rfl, rfl⟩] <;> rfl) rfl trivial rfl rfl rfl rfl (Nat.le_of_ble_eq_true rfl) ?_
  refine Z.ce zup_zup ?_
  refine za_aloadN (i := 0) eX7_init_15 rfl rfl ?_
  refine Z.fresh (fun hf => ?_)
  refine za_new (x := 1) (y := 1) (T := TX4) (N := 14) (C := RX4) (ci := 4) (ty0 := tyX4) (fs := [.null, .null, .null, .int 0, .int 0, .int 0, .long 0, .int 0, .int 0, .int 0, .int 0, .int 0, .int 0, .int 0]) eX7_init_16 (zw_3 (xtb_in (i := 32) (by decide +kernel) (by decide +kernel)) (xtb_in (i := 33) (by decide +kernel) (by decide +kernel)) li_RX4) xin_X4 tyX4_ok rfl (fun j hj => by rcases (show j = 0 ∨ j = 1 ∨ j = 2 ∨ j = 3 ∨ j = 4 ∨ j = 5 ∨ j = 6 ∨ j = 7 ∨ j = 8 ∨ j = 9 ∨ j = 10 ∨ j = 11 ∨ j = 12 ∨ j = 13 by omega) with rfl | rfl | rfl | rfl | rfl | rfl | rfl | rfl | rfl | rfl | rfl | rfl | rfl | rfl <;> rfl) (by decide) (by rw [hw _ _ (by decide)]; rfl) (hf _ _ (by rw [hw _ _ (by decide)]; exact Nat.le_refl _)) (by omega) ?_
  refine za_dup eX7_init_19 rfl ?_
  refine Z.fresh (fun hf => ?_)
  refine za_callI (y := yX4_init) (mi' := mX4_init) (k1 := 34) (n1 := 544) eX7_init_20 (zw_4 (xtb_in (i := 34) (by decide +kernel) (by decide +kernel)) zi_X4 li_RX4 zc_X4) rfl rfl rfl ⟨zd_X4, by decide, by decide⟩ (Nat.le_of_ble_eq_true rfl) (by omega) (k_X4_init (List.mem_append_right _ List.mem_cons_self) (by unfold zup; rw [if_pos ⟨rfl, rfl⟩]) (zSq_of hw (by decide) (fun x y h => hf x y h))) ?_ rfl
  refine Z.ce (zS_id (fun k j h => by rw [zup_ne (by have := zmi_k h; omega)])) ?_
  refine za_putF (T := TX7) (N := 7) (C := RX7) (ci := 6) (f := 1) (ty0 := tyX7) (ty := .object "PromiseMarket$State") (u := xp 1 1) (fs := [.ref (w.1 1 0), .null, .null, .null, .null, .null, .null]) eX7_init_23 lRX7_16 xin_X7 tyX7_ok nmX7 rfl (by decide) (zSD_l (List.mem_append_left _ (zSD_l (List.mem_append_left _ hm)))) (by unfold zup; rw [if_pos ⟨rfl, rfl⟩] <;> rfl) rfl trivial rfl rfl rfl rfl (Nat.le_of_ble_eq_true rfl) ?_
  refine Z.ce zup_zup ?_
  refine za_aloadN (i := 0) eX7_init_26 rfl rfl ?_
  refine za_iconst eX7_init_27 ?_
  refine Z.fresh (fun hf => ?_)
  refine za_newq (x := 20) (y := 0) (N := 2) (t := 6) (C := "PromiseMarket$State") (cA := w.2.2.1 6) eX7_init_28 (xtb_in (i := 32) (by decide +kernel) (by decide +kernel)) (List.mem_of_getElem? (i := 2) rfl) rfl rfl (by decide) (Nat.le_of_ble_eq_true rfl) (by decide) (by rw [hw _ _ (by decide)]; rfl) (hf _ _ (by rw [hw _ _ (by decide)]; exact Nat.le_refl _)) (by omega) ?_
  refine za_dup eX7_init_31 rfl ?_
  refine za_iconst eX7_init_32 ?_
  refine Z.fresh (fun hf => ?_)
  refine za_new (x := 1) (y := 2) (T := TX4) (N := 14) (C := RX4) (ci := 4) (ty0 := tyX4) (fs := [.null, .null, .null, .int 0, .int 0, .int 0, .long 0, .int 0, .int 0, .int 0, .int 0, .int 0, .int 0, .int 0]) eX7_init_33 (zw_3 (xtb_in (i := 32) (by decide +kernel) (by decide +kernel)) (xtb_in (i := 33) (by decide +kernel) (by decide +kernel)) li_RX4) xin_X4 tyX4_ok rfl (fun j hj => by rcases (show j = 0 ∨ j = 1 ∨ j = 2 ∨ j = 3 ∨ j = 4 ∨ j = 5 ∨ j = 6 ∨ j = 7 ∨ j = 8 ∨ j = 9 ∨ j = 10 ∨ j = 11 ∨ j = 12 ∨ j = 13 by omega) with rfl | rfl | rfl | rfl | rfl | rfl | rfl | rfl | rfl | rfl | rfl | rfl | rfl | rfl <;> rfl) (by decide) (by rw [hw _ _ (by decide)]; rfl) (hf _ _ (by rw [hw _ _ (by decide)]; exact Nat.le_refl _)) (by omega) ?_
  refine za_dup eX7_init_36 rfl ?_
  refine Z.fresh (fun hf => ?_)
  refine za_callI (y := yX4_init) (mi' := mX4_init) (k1 := 34) (n1 := 544) eX7_init_37 (zw_4 (xtb_in (i := 34) (by decide +kernel) (by decide +kernel)) zi_X4 li_RX4 zc_X4) rfl rfl rfl ⟨zd_X4, by decide, by decide⟩ (Nat.le_of_ble_eq_true rfl) (by omega) (k_X4_init (List.mem_append_right _ List.mem_cons_self) (by unfold zup; rw [if_pos ⟨rfl, rfl⟩]) (zSq_of hw (by decide) (fun x y h => hf x y h))) ?_ rfl
  refine Z.ce (zS_id (fun k j h => by rw [zup_ne (by have := zmi_k h; omega), zup_ne (by have := zmi_k h; omega)])) ?_
  refine za_ast (t := 6) (N := 2) (ci := 4) (r := (RX4, TX4, 14)) (cA := w.2.2.1 6) (vs := [.ref (w.1 2 2), .ref (w.1 22 2), .ref (w.1 5 2), .int 0, .int 5, .int 10, .long 0, .int (-1), .int 0, .int 0, .int 0, .int 0, .int 0, .int 0]) (f := fun _ => none) eX7_init_40 rfl (zSD_l (List.mem_append_left _ (List.mem_append_right _ List.mem_cons_self))) (by unfold zup; rw [if_pos ⟨rfl, rfl⟩]) (zSD_l (List.mem_append_right _ List.mem_cons_self)) (by rw [zup_ne (by omega), zup_ne (by omega)]; rfl) rfl (by decide) (by decide) ?_
  refine Z.ce zup_zup ?_
  refine za_dup eX7_init_41 rfl ?_
  refine za_iconst eX7_init_42 ?_
  refine Z.fresh (fun hf => ?_)
  refine za_new (x := 1) (y := 3) (T := TX4) (N := 14) (C := RX4) (ci := 4) (ty0 := tyX4) (fs := [.null, .null, .null, .int 0, .int 0, .int 0, .long 0, .int 0, .int 0, .int 0, .int 0, .int 0, .int 0, .int 0]) eX7_init_43 (zw_3 (xtb_in (i := 32) (by decide +kernel) (by decide +kernel)) (xtb_in (i := 33) (by decide +kernel) (by decide +kernel)) li_RX4) xin_X4 tyX4_ok rfl (fun j hj => by rcases (show j = 0 ∨ j = 1 ∨ j = 2 ∨ j = 3 ∨ j = 4 ∨ j = 5 ∨ j = 6 ∨ j = 7 ∨ j = 8 ∨ j = 9 ∨ j = 10 ∨ j = 11 ∨ j = 12 ∨ j = 13 by omega) with rfl | rfl | rfl | rfl | rfl | rfl | rfl | rfl | rfl | rfl | rfl | rfl | rfl | rfl <;> rfl) (by decide) (by rw [hw _ _ (by decide)]; rfl) (hf _ _ (by rw [hw _ _ (by decide)]; exact Nat.le_refl _)) (by omega) ?_
  refine za_dup eX7_init_46 rfl ?_
  refine Z.fresh (fun hf => ?_)
  refine za_callI (y := yX4_init) (mi' := mX4_init) (k1 := 34) (n1 := 544) eX7_init_47 (zw_4 (xtb_in (i := 34) (by decide +kernel) (by decide +kernel)) zi_X4 li_RX4 zc_X4) rfl rfl rfl ⟨zd_X4, by decide, by decide⟩ (Nat.le_of_ble_eq_true rfl) (by omega) (k_X4_init (List.mem_append_right _ List.mem_cons_self) (by unfold zup; rw [if_pos ⟨rfl, rfl⟩]) (zSq_of hw (by decide) (fun x y h => hf x y h))) ?_ rfl
  refine Z.ce (zS_id (fun k j h => by rw [zup_ne (by have := zmi_k h; omega), zup_ne (by have := zmi_k h; omega)])) ?_
  refine za_ast (t := 6) (N := 2) (ci := 4) (r := (RX4, TX4, 14)) (cA := w.2.2.1 6) (vs := [.ref (w.1 2 3), .ref (w.1 22 3), .ref (w.1 5 3), .int 0, .int 5, .int 10, .long 0, .int (-1), .int 0, .int 0, .int 0, .int 0, .int 0, .int 0]) (f := va_up (fun _ => none) (0 : Int).toNat (some (w.1 1 2))) eX7_init_50 rfl (zSD_l (List.mem_append_left _ (zSD_l (List.mem_append_left _ (List.mem_append_right _ List.mem_cons_self))))) (by unfold zup; rw [if_pos ⟨rfl, rfl⟩]) (zSD_l (List.mem_append_right _ List.mem_cons_self)) (by rw [zup_ne (by omega), zup_ne (by omega)]; rfl) rfl (by decide) (by decide) ?_
  refine Z.ce zup_zup ?_
  refine Z.ce (zup_id (by rw [zup_ne (by omega)]; rfl)) ?_
  refine za_putF (T := TX7) (N := 7) (C := RX7) (ci := 6) (f := 2) (ty0 := tyX7) (ty := .array (.object "PromiseMarket$State")) (u := xp 20 0) (fs := [.ref (w.1 1 0), .ref (w.1 1 1), .null, .null, .null, .null, .null]) eX7_init_51 lRX7_19 xin_X7 tyX7_ok nmX7 rfl (by decide) (zSD_l (List.mem_append_left _ (zSD_l (List.mem_append_left _ (List.mem_append_left _ (zSD_l (List.mem_append_left _ (zSD_l (List.mem_append_left _ hm))))))))) (by unfold zup; rw [if_pos ⟨rfl, rfl⟩] <;> rfl) rfl trivial rfl rfl rfl rfl (Nat.le_of_ble_eq_true rfl) ?_
  refine Z.ce zup_zup ?_
  refine za_aloadN (i := 0) eX7_init_54 rfl rfl ?_
  refine za_iconst eX7_init_55 ?_
  refine Z.fresh (fun hf => ?_)
  refine za_newa (x := 21) (y := 0) (N := 2) (t := 2) (ty := .boolean) (a0 := (2, .inl fun _ => 0)) eX7_init_56 (xtb_in (i := 302) (by decide +kernel) (by decide +kernel)) rfl rfl (fun _ _ => rfl) (fun c => vp_cell_i c 2 _) rfl (by decide) (Nat.le_of_ble_eq_true rfl) (by decide) (by rw [hw _ _ (by decide)]; rfl) (hf _ _ (by rw [hw _ _ (by decide)]; exact Nat.le_refl _)) (by omega) ?_
  refine Z.ce (zup_id (by rw [zup_ne (by omega)]; rfl)) ?_
  refine za_putF (T := TX7) (N := 7) (C := RX7) (ci := 6) (f := 3) (ty0 := tyX7) (ty := .array .boolean) (u := xp 21 0) (fs := [.ref (w.1 1 0), .ref (w.1 1 1), .ref (w.1 20 0), .null, .null, .null, .null]) eX7_init_58 lRX7_23 xin_X7 tyX7_ok nmX7 rfl (by decide) (List.mem_append_left _ (zSD_l (List.mem_append_left _ (zSD_l (List.mem_append_left _ (List.mem_append_left _ (zSD_l (List.mem_append_left _ (zSD_l (List.mem_append_left _ hm)))))))))) (by unfold zup; rw [if_pos ⟨rfl, rfl⟩] <;> rfl) rfl trivial rfl rfl rfl rfl (Nat.le_of_ble_eq_true rfl) ?_
  refine Z.ce zup_zup ?_
  refine za_aloadN (i := 0) eX7_init_61 rfl rfl ?_
  refine Z.fresh (fun hf => ?_)
  refine za_new (x := 2) (y := 5) (T := TX5) (N := 3) (C := RX5) (ci := 5) (ty0 := tyX5) (fs := [.null, .int 0, .int 0]) eX7_init_62 (zw_3 (xtb_in (i := 262) (by decide +kernel) (by decide +kernel)) (xtb_in (i := 39) (by decide +kernel) (by decide +kernel)) li_RX5) xin_X5 tyX5_ok rfl (fun j hj => by rcases (show j = 0 ∨ j = 1 ∨ j = 2 by omega) with rfl | rfl | rfl <;> rfl) (by decide) (by rw [hw _ _ (by decide)]; rfl) (hf _ _ (by rw [hw _ _ (by decide)]; exact Nat.le_refl _)) (by omega) ?_
  refine za_dup eX7_init_65 rfl ?_
  refine Z.fresh (fun hf => ?_)
  refine za_callI (y := yX5_init) (mi' := mX5_init) (k1 := 22) (n1 := 378) eX7_init_66 (zw_4 (xtb_in (i := 263) (by decide +kernel) (by decide +kernel)) zi_X5 li_RX5 zc_X5) rfl rfl rfl ⟨zd_X5, by decide, by decide⟩ (Nat.le_of_ble_eq_true rfl) (by omega) (k_X5_init (List.mem_append_right _ List.mem_cons_self) (by unfold zup; rw [if_pos ⟨rfl, rfl⟩]) (zTq_of hw (by decide) (fun x y h => hf x y h))) ?_ rfl
  refine Z.ce (zT_id (fun k j h => by rw [zup_ne (by omega)])) ?_
  refine za_putF (T := TX7) (N := 7) (C := RX7) (ci := 6) (f := 4) (ty0 := tyX7) (ty := .object "PromiseMarket$Timeline") (u := xp 2 5) (fs := [.ref (w.1 1 0), .ref (w.1 1 1), .ref (w.1 20 0), .ref (w.1 21 0), .null, .null, .null]) eX7_init_69 lRX7_30 xin_X7 tyX7_ok nmX7 rfl (by decide) (zTD_l (List.mem_append_left _ (List.mem_append_left _ (zSD_l (List.mem_append_left _ (zSD_l (List.mem_append_left _ (List.mem_append_left _ (zSD_l (List.mem_append_left _ (zSD_l (List.mem_append_left _ hm)))))))))))) (by unfold zup; rw [if_pos ⟨rfl, rfl⟩] <;> rfl) rfl trivial rfl rfl rfl rfl (Nat.le_of_ble_eq_true rfl) ?_
  refine Z.ce zup_zup ?_
  refine za_aloadN (i := 0) eX7_init_72 rfl rfl ?_
  refine Z.fresh (fun hf => ?_)
  refine za_new (x := 2) (y := 6) (T := TX5) (N := 3) (C := RX5) (ci := 5) (ty0 := tyX5) (fs := [.null, .int 0, .int 0]) eX7_init_73 (zw_3 (xtb_in (i := 262) (by decide +kernel) (by decide +kernel)) (xtb_in (i := 39) (by decide +kernel) (by decide +kernel)) li_RX5) xin_X5 tyX5_ok rfl (fun j hj => by rcases (show j = 0 ∨ j = 1 ∨ j = 2 by omega) with rfl | rfl | rfl <;> rfl) (by decide) (by rw [hw _ _ (by decide)]; rfl) (hf _ _ (by rw [hw _ _ (by decide)]; exact Nat.le_refl _)) (by omega) ?_
  refine za_dup eX7_init_76 rfl ?_
  refine Z.fresh (fun hf => ?_)
  refine za_callI (y := yX5_init) (mi' := mX5_init) (k1 := 22) (n1 := 378) eX7_init_77 (zw_4 (xtb_in (i := 263) (by decide +kernel) (by decide +kernel)) zi_X5 li_RX5 zc_X5) rfl rfl rfl ⟨zd_X5, by decide, by decide⟩ (Nat.le_of_ble_eq_true rfl) (by omega) (k_X5_init (List.mem_append_right _ List.mem_cons_self) (by unfold zup; rw [if_pos ⟨rfl, rfl⟩]) (zTq_of hw (by decide) (fun x y h => hf x y h))) ?_ rfl
  refine Z.ce (zT_id (fun k j h => by rw [zup_ne (by omega)])) ?_
  refine za_putF (T := TX7) (N := 7) (C := RX7) (ci := 6) (f := 5) (ty0 := tyX7) (ty := .object "PromiseMarket$Timeline") (u := xp 2 6) (fs := [.ref (w.1 1 0), .ref (w.1 1 1), .ref (w.1 20 0), .ref (w.1 21 0), .ref (w.1 2 5), .null, .null]) eX7_init_80 lRX7_34 xin_X7 tyX7_ok nmX7 rfl (by decide) (zTD_l (List.mem_append_left _ (zTD_l (List.mem_append_left _ (List.mem_append_left _ (zSD_l (List.mem_append_left _ (zSD_l (List.mem_append_left _ (List.mem_append_left _ (zSD_l (List.mem_append_left _ (zSD_l (List.mem_append_left _ hm)))))))))))))) (by unfold zup; rw [if_pos ⟨rfl, rfl⟩] <;> rfl) rfl trivial rfl rfl rfl rfl (Nat.le_of_ble_eq_true rfl) ?_
  refine Z.ce zup_zup ?_
  refine za_aloadN (i := 0) eX7_init_83 rfl rfl ?_
  refine Z.fresh (fun hf => ?_)
  refine za_new (x := 3) (y := 0) (T := TX3) (N := 10) (C := RX3) (ci := 3) (ty0 := tyX3) (fs := [.null, .int 0, .null, .null, .int 0, .int 0, .null, .int 0, .int 0, .int 0]) eX7_init_84 (zw_3 (xtb_in (i := 264) (by decide +kernel) (by decide +kernel)) (xtb_in (i := 265) (by decide +kernel) (by decide +kernel)) li_RX3) xin_X3 tyX3_ok rfl (fun j hj => by rcases (show j = 0 ∨ j = 1 ∨ j = 2 ∨ j = 3 ∨ j = 4 ∨ j = 5 ∨ j = 6 ∨ j = 7 ∨ j = 8 ∨ j = 9 by omega) with rfl | rfl | rfl | rfl | rfl | rfl | rfl | rfl | rfl | rfl <;> rfl) (by decide) (by rw [hw _ _ (by decide)]; rfl) (hf _ _ (by rw [hw _ _ (by decide)]; exact Nat.le_refl _)) (by omega) ?_
  refine za_dup eX7_init_87 rfl ?_
  refine za_callIN (y := yX3_init) (mi' := mX3_init) (k1 := 59) (n1 := 1639) (host := "PromiseMarket") eX7_init_88 (List.mem_of_getElem? (i := 3) rfl) (zw_3 zi_X3 li_RX3 zc_X3) rfl rfl rfl ⟨zd_X3, by decide, by decide⟩ (Nat.le_of_ble_eq_true rfl) (by omega) (k_X3_init hw (List.mem_append_right _ List.mem_cons_self)) ?_ rfl
  refine za_putF (T := TX7) (N := 7) (C := RX7) (ci := 6) (f := 6) (ty0 := tyX7) (ty := .object "PromiseMarket$SetupText") (u := xp 3 0) (fs := [.ref (w.1 1 0), .ref (w.1 1 1), .ref (w.1 20 0), .ref (w.1 21 0), .ref (w.1 2 5), .ref (w.1 2 6), .null]) eX7_init_91 lRX7_40 xin_X7 tyX7_ok nmX7 rfl (by decide) (zTD_l (List.mem_append_left _ (zSD_l (List.mem_append_left _ (List.mem_append_left _ (List.mem_append_left _ (zTD_l (List.mem_append_left _ (zTD_l (List.mem_append_left _ (List.mem_append_left _ (zSD_l (List.mem_append_left _ (zSD_l (List.mem_append_left _ (List.mem_append_left _ (zSD_l (List.mem_append_left _ (zSD_l (List.mem_append_left _ hm)))))))))))))))))))) (by unfold zup; rw [if_pos ⟨rfl, rfl⟩] <;> rfl) rfl trivial rfl rfl rfl rfl (Nat.le_of_ble_eq_true rfl) ?_
  refine Z.ce zup_zup ?_
  refine Z.ce (zup_id ?_) (za_vret eX7_init_94 rfl)
  rfl
