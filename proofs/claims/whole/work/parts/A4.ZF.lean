/-! the constructor of the model -/
/-! the constructor of the model -/
section ZM
variable {w : xW} {qq : Prop} {mi mi' : xM} {TG : xT} {k n k1 n1 pc pc' : Nat} {L st as : List xV} {D D' : zD} {E E' : zE} {z z' : Nat} {y : MethodName}
theorem za_ldc2 {a : Int} {index : Nat} {v : Int64} (h : xd mi.2.1 pc (.ldc2_w index) 3 pc') (hw : Cond.constantLong mi.1 index v ∈ xtb) (hv : v = Int64.ofInt a) (kk : Z w qq mi TG k n pc' L (xl a :: st) D E z) : Z w qq mi TG k n pc L st D E z := by
  obtain ⟨hd, rfl⟩ := h
  subst hv
  intro p l e R s m args below meth c H locs cells slots MC MS ls hC hB hR hS hl hL hst
  exact lv_ldc2 hC.1 hC.2.1 hC.2.2.2.2.1 (hC.2.2.2.2.2.1 _ hw) hd (kk p l e R s m args below meth c H locs cells slots MC MS ls hC hB hR hS hl hL (xok_of (v := xl a) trivial hst))
theorem za_callV {x y2 idx N ci : Nat} {T : u_T} {fs : List Value} (h : xd mi.2.1 pc (.invokevirtual idx) 3 pc') (hw : ∀ u ∈ [Cond.methodLink mi.1 idx y, .instanceMethod y, .selects y.cls y y, .initialized y.cls, .code y mi'.2.1 mi'.2.2.1 mi'.2.2.2.1], u ∈ xtb) (hh : mi'.2.2.2.2.1 = []) (hcl : xcl mi mi' y 0) (hm : (x, y2) ∈ D) (he : E x y2 = .inr (ci, fs)) (hc : vwCl[ci]? = some (y.cls, T, N))
    (hsum : (st.map fun v => if xcat2 v then 2 else 1).sum ≤ 8) (hk : k1 ≤ k ∧ n1 ≤ n) (hK : KZ w mi' y k1 n1 [xp x y2] D E z D' E' z') (kk : Z w qq mi TG (k - k1) (n - n1) pc' L st D' E' z') (hj : st.all (fun v => !xjk v) = true) : Z w qq mi TG k n pc L (xp x y2 :: st) D E z := by
  obtain ⟨hd, rfl⟩ := h
  intro p l e R s m args below meth c H locs cells slots MC MS ls hC hB hR hS hl hL hst
  have hok : ∀ v ∈ [xp x y2], xok v := fun v hv => hst v (by rw [List.mem_singleton.mp hv]; exact List.mem_cons_self)
  have hst2 : ∀ v ∈ st, xok v := (xok_cons hst).2
  obtain ⟨i, -, hi⟩ := zwl_in (w := w) (E := E) hm
  rw [he] at hi
  have e0 : xw0 mi' y = .code y mi'.2.1 mi'.2.2.1 mi'.2.2.2.1 := by unfold xw0; rw [hh]
  have hG : GoodIn xtb (wsV mi.1 idx y.cls y (xws mi' y)) := by
    intro u hu
    have h9 : u ∈ xtb := by
      unfold wsV xws at hu
      rw [e0] at hu
      rcases List.mem_append.mp hu with h | h
      · exact hw u (by simp only [List.mem_cons, List.not_mem_nil, or_false] at h ⊢; rcases h with h | h | h | h <;> simp [h])
      · rcases List.mem_cons.mp h with h | h
        · exact hw u (by rw [h]; simp)
        · exact h
    exact xtb_good (fun _ h => h) u h9
  have hrc := hcl.2
  refine za_run (k1 := k1) (n1 := n1) (a := ([xp x y2].map (xc w.1)).toArray) hC hB hR.2 hS hl hL hst2 hk ?_ kk
  refine vx_runV (As := []) (rest := st.map (xc w.1)) (b := w.1 x y2) (C := y.cls) (index := idx) (maxL := mi'.2.2.1) (ret := mi'.2.2.2.1) (bytes := mi'.2.1) (n := 0) (nL := mi.2.2.1) (cc := mi.2.1) (own := mi.1) (Ts := xtb) ⟨hC.1, hC.2.1, hC.2.2.2.1, hC.2.2.2.2.1, hC.2.2.2.2.2.1⟩ (hK l hC.2.2.2.2.2.2.2.2.2.1 hok)
    (cwV (ws' := xtb) 0 hC.2.2.2.2.2.1 hG (by rw [xws, e0]) rfl rfl ⟨rfl, hcl.1⟩ ⟨Nat.le_trans hrc.1 hC.2.2.2.2.2.2.2.2.1.1, Nat.le_trans hrc.2 hC.2.2.2.2.2.2.2.2.1.2⟩)
    ⟨zP_blind, va_recv (D := w.2.1) (ws := zwl w D E) (tys := xtys w) (q0 := i) hC.2.2.2.2.2.2.2.2.2.2.1 hR.1.1 hc hi, fun U hU hW => ⟨rfl, zP_at hR.1 hR.2.2 hC.2.2.2.2.2.2.2.2.2.2 hS U hU hW⟩⟩ rfl rfl hl.2.1 rfl ?_ hd (by omega)
  show 2 * 0 + _ ≤ 8
  rw [List.map_map]
  have e9 : ∀ v ∈ st, ((fun v => v.category) ∘ xc w.1) v = if xcat2 v then 2 else 1 := by
    intro v hv
    have hjv : xjk v = false := by simpa using List.all_eq_true.mp hj v hv
    show (xc w.1 v).category = _
    by_cases q : xcat2 v = true
    · rw [if_pos q]; exact (xcat_iff hjv).mpr q
    · rw [if_neg q]; exact xn_cat1 (by simpa using q)
  rw [List.map_congr_left e9]
  omega
end ZM
theorem zup_sw {X : zE} {k j a b : Nat} {e e2 : va_E} (h : ¬ (k = a ∧ j = b)) : zup (zup X k j e) a b e2 = zup (zup X a b e2) k j e := by
  funext x y
  unfold zup
  by_cases c : x = a ∧ y = b
  · rw [if_pos c, if_neg (by omega), if_pos c]
  · rw [if_neg c, if_neg c]
theorem kz_X8_clear {w : xW} {D : zD} {E : zE} {z : Nat} {fs : List Value} (hm : (30, 0) ∈ D) (hm1 : (31, 0) ∈ D) (he : E 30 0 = .inr (7, fs)) (hf : fs[0]? = some (.ref (w.1 31 0))) (he1 : E 31 0 = .inl (w.2.2.1 1, (527, .inr (.inl fun _ => 0)))) : KZ w mX8_clear yX8_clear 0 0 [xp 30 0] D E z D (zup E 31 0 (.inl (w.2.2.1 1, (527, .inr (.inl zst))))) z := by
  have gt : ∀ {TG : xT} {k n pc pc' : Nat} {L st : List xV} {E2 : zE}, E2 30 0 = .inr (7, fs) → xd cX8_clear pc (.getfield 7) 3 pc' → Z w False mX8_clear TG k n pc' L (xp 31 0 :: st) D E2 z → Z w False mX8_clear TG k n pc L (xp 30 0 :: st) D E2 z := fun h2 h kk => za_get (v := xp 31 0) (T := TX8) (N := 23) (C := RX8) (ci := 7) (f := 0) (fs := fs) h lRX8_7 xin_X8 rfl (by decide) hm h2 hf rfl kk
  have lp : ∀ i : Nat, i ≤ 527 → Z w False mX8_clear (zTG w D (zup E 31 0 (.inl (w.2.2.1 1, (527, .inr (.inl zst))))) z) 0 0 2 [xp 30 0, xi (i : Int)] [] D E z := by
    refine nloop 527 (fun i hi ih => ?_)
    refine za_iloadN (i := 1) eX8_clear_2 rfl rfl ?_
    refine za_sipush eX8_clear_3 (by decide) ?_
    refine za_icmp_ge (tgt := 22) eX8_clear_6 (by decide) (by omega) (by decide) (fun c => ?_) (fun c => ?_)
    · refine za_aloadN (i := 0) eX8_clear_22 rfl rfl ?_
      refine gt he eX8_clear_23 ?_
      refine za_iconst eX8_clear_26 ?_
      refine za_ldc2 (a := 5) eX8_clear_27 lRX8_55 (by decide) ?_
      refine za_last (t := 1) (N := 527) eX8_clear_30 rfl hm1 he1 (by decide) (by decide) ?_
      refine za_aloadN (i := 0) eX8_clear_31 rfl rfl ?_
      refine gt (by rw [zup_ne (by omega)]; exact he) eX8_clear_32 ?_
      refine za_iconst eX8_clear_35 ?_
      refine za_ldc2 (a := 10) eX8_clear_36 lRX8_57 (by decide) ?_
      refine za_last (t := 1) (N := 527) eX8_clear_39 rfl hm1 (by unfold zup; rw [if_pos ⟨rfl, rfl⟩]) (by decide) (by decide) ?_
      refine Z.ce zup_zup ?_
      refine za_aloadN (i := 0) eX8_clear_40 rfl rfl ?_
      refine gt (by rw [zup_ne (by omega)]; exact he) eX8_clear_41 ?_
      refine za_iconst eX8_clear_44 ?_
      refine za_ldc2 (a := (-1)) eX8_clear_45 lRX8_59 (by decide) ?_
      refine za_last (t := 1) (N := 527) eX8_clear_48 rfl hm1 (by unfold zup; rw [if_pos ⟨rfl, rfl⟩]) (by decide) (by decide) ?_
      refine Z.ce zup_zup ?_
      exact za_vret eX8_clear_49 rfl
    · refine za_aloadN (i := 0) eX8_clear_9 rfl rfl ?_
      refine gt he eX8_clear_10 ?_
      refine za_iloadN (i := 1) eX8_clear_13 rfl rfl ?_
      refine za_lconst0 eX8_clear_14 ?_
      refine za_last (t := 1) (N := 527) eX8_clear_15 rfl hm1 he1 (by omega) (by decide) ?_
      refine za_iinc (i := 1) eX8_clear_16 rfl (xpre_s rfl rfl) ?_
      refine za_goto (tgt := 2) eX8_clear_19 (by decide) ?_
      refine Z.ce (zup_id ?_) (ih (i + 1) (by omega) (by omega))
      rw [he1]
      refine congrArg (fun g => (Sum.inl (w.2.2.1 1, (527, .inr (.inl g))) : va_E)) ?_
      funext f
      unfold vp_updL
      split <;> rfl
  refine KZ.of (qq := False) (fun h => h.elim) rfl rfl rfl rfl (Nat.le_of_ble_eq_true rfl) rfl ?_
  refine za_iconst eX8_clear_0 ?_
  refine za_istoreN (i := 1) eX8_clear_1 rfl (Nat.le_of_ble_eq_true rfl) (xpre_s rfl rfl) ?_
  exact lp 0 (Nat.zero_le _)
def zD8 (D : zD) : zD := (((((((((((D ++ [(31, 0)]) ++ [(32, 0)]) ++ [(33, 0)]) ++ [(34, 0)]) ++ [(35, 0)]) ++ [(36, 0)]) ++ [(37, 0)]) ++ [(38, 0)]) ++ [(39, 0)]) ++ [(40, 0)]) ++ [(41, 0)])
theorem k_X8_init {w : xW} {D : zD} {b : Nat} (hw : zPl w b) (hm : (30, 0) ∈ D) : KZ w mX8_init yX8_init 11 2936 [xp 30 0] D (zup (zfin w) 30 0 (.inr (7, [.null, .null, .null, .null, .int 0, .null, .null, .null, .null, .null, .null, .int 0, .int 0, .null, .int 0, .int 0, .int 0, .int 0, .int 0, .int 0, .int 0, .int 0, .long 0]))) (b + 250) (zD8 D) (zfin w) (b + 261) := by
  refine KZ.of (qq := True) (fun _ => rfl) rfl rfl rfl rfl (Nat.le_of_ble_eq_true rfl) rfl ?_
  refine za_aloadN (i := 0) eX8_init_0 rfl rfl ?_
  refine za_obj eX8_init_1 zw_objX8 ⟨by decide, by decide⟩ ?_ rfl
  refine za_aloadN (i := 0) eX8_init_4 rfl rfl ?_
  refine za_sipush eX8_init_5 (by decide) ?_
  refine Z.fresh (fun hf => ?_)
  refine za_newa (x := 31) (y := 0) (N := 527) (t := 1) (ty := .long) (a0 := (527, .inr (.inl fun _ => 0))) eX8_init_8 (xtb_in (i := 1187) (by decide +kernel) (by decide +kernel)) rfl rfl (fun _ _ => rfl) (fun c => vp_cell_l c 527 _) rfl (by decide) (Nat.le_of_ble_eq_true rfl) (by decide) (by rw [hw _ _ (by decide)]; rfl) (hf _ _ (by rw [hw _ _ (by decide)]; exact Nat.le_refl _)) (by omega) ?_
  refine Z.ce (zup_sw (by omega)) ?_
  refine za_putF (T := TX8) (N := 23) (C := RX8) (ci := 7) (f := 0) (ty0 := tyX8) (ty := .array .long) (u := xp 31 0) (fs := [.null, .null, .null, .null, .int 0, .null, .null, .null, .null, .null, .null, .int 0, .int 0, .null, .int 0, .int 0, .int 0, .int 0, .int 0, .int 0, .int 0, .int 0, .long 0]) eX8_init_10 lRX8_7 xin_X8 tyX8_ok nmX8 rfl (by decide) (List.mem_append_left _ hm) (by unfold zup; rw [if_pos ⟨rfl, rfl⟩] <;> rfl) rfl trivial rfl rfl rfl rfl (Nat.le_of_ble_eq_true rfl) ?_
  refine Z.ce zup_zup ?_
  refine za_aloadN (i := 0) eX8_init_13 rfl rfl ?_
  refine za_sipush eX8_init_14 (by decide) ?_
  refine Z.fresh (fun hf => ?_)
  refine za_newa (x := 32) (y := 0) (N := 527) (t := 1) (ty := .long) (a0 := (527, .inr (.inl fun _ => 0))) eX8_init_17 (xtb_in (i := 1187) (by decide +kernel) (by decide +kernel)) rfl rfl (fun _ _ => rfl) (fun c => vp_cell_l c 527 _) rfl (by decide) (Nat.le_of_ble_eq_true rfl) (by decide) (by rw [hw _ _ (by decide)]; rfl) (hf _ _ (by rw [hw _ _ (by decide)]; exact Nat.le_refl _)) (by omega) ?_
  refine Z.ce (zup_id (by rw [zup_ne (by omega), zup_ne (by omega)]; rfl)) ?_
  refine za_putF (T := TX8) (N := 23) (C := RX8) (ci := 7) (f := 1) (ty0 := tyX8) (ty := .array .long) (u := xp 32 0) (fs := [.ref (w.1 31 0), .null, .null, .null, .int 0, .null, .null, .null, .null, .null, .null, .int 0, .int 0, .null, .int 0, .int 0, .int 0, .int 0, .int 0, .int 0, .int 0, .int 0, .long 0]) eX8_init_19 lRX8_13 xin_X8 tyX8_ok nmX8 rfl (by decide) (List.mem_append_left _ (List.mem_append_left _ hm)) (by unfold zup; rw [if_pos ⟨rfl, rfl⟩] <;> rfl) rfl trivial rfl rfl rfl rfl (Nat.le_of_ble_eq_true rfl) ?_
  refine Z.ce zup_zup ?_
  refine za_aloadN (i := 0) eX8_init_22 rfl rfl ?_
  refine za_sipush eX8_init_23 (by decide) ?_
  refine Z.fresh (fun hf => ?_)
  refine za_newa (x := 33) (y := 0) (N := 1054) (t := 1) (ty := .long) (a0 := (1054, .inr (.inl fun _ => 0))) eX8_init_26 (xtb_in (i := 1187) (by decide +kernel) (by decide +kernel)) rfl rfl (fun _ _ => rfl) (fun c => vp_cell_l c 1054 _) rfl (by decide) (Nat.le_of_ble_eq_true rfl) (by decide) (by rw [hw _ _ (by decide)]; rfl) (hf _ _ (by rw [hw _ _ (by decide)]; exact Nat.le_refl _)) (by omega) ?_
  refine Z.ce (zup_id (by rw [zup_ne (by omega), zup_ne (by omega)]; rfl)) ?_
  refine za_putF (T := TX8) (N := 23) (C := RX8) (ci := 7) (f := 2) (ty0 := tyX8) (ty := .array .long) (u := xp 33 0) (fs := [.ref (w.1 31 0), .ref (w.1 32 0), .null, .null, .int 0, .null, .null, .null, .null, .null, .null, .int 0, .int 0, .null, .int 0, .int 0, .int 0, .int 0, .int 0, .int 0, .int 0, .int 0, .long 0]) eX8_init_28 lRX8_16 xin_X8 tyX8_ok nmX8 rfl (by decide) (List.mem_append_left _ (List.mem_append_left _ (List.mem_append_left _ hm))) (by unfold zup; rw [if_pos ⟨rfl, rfl⟩] <;> rfl) rfl trivial rfl rfl rfl rfl (Nat.le_of_ble_eq_true rfl) ?_
  refine Z.ce zup_zup ?_
  refine za_aloadN (i := 0) eX8_init_31 rfl rfl ?_
  refine za_iconst eX8_init_32 ?_
  refine Z.fresh (fun hf => ?_)
  refine za_newa (x := 34) (y := 0) (N := 2) (t := 2) (ty := .boolean) (a0 := (2, .inl fun _ => 0)) eX8_init_33 (xtb_in (i := 318) (by decide +kernel) (by decide +kernel)) rfl rfl (fun _ _ => rfl) (fun c => vp_cell_i c 2 _) rfl (by decide) (Nat.le_of_ble_eq_true rfl) (by decide) (by rw [hw _ _ (by decide)]; rfl) (hf _ _ (by rw [hw _ _ (by decide)]; exact Nat.le_refl _)) (by omega) ?_
  refine Z.ce (zup_id (by rw [zup_ne (by omega), zup_ne (by omega)]; rfl)) ?_
  refine za_putF (T := TX8) (N := 23) (C := RX8) (ci := 7) (f := 3) (ty0 := tyX8) (ty := .array .boolean) (u := xp 34 0) (fs := [.ref (w.1 31 0), .ref (w.1 32 0), .ref (w.1 33 0), .null, .int 0, .null, .null, .null, .null, .null, .null, .int 0, .int 0, .null, .int 0, .int 0, .int 0, .int 0, .int 0, .int 0, .int 0, .int 0, .long 0]) eX8_init_35 lRX8_19 xin_X8 tyX8_ok nmX8 rfl (by decide) (List.mem_append_left _ (List.mem_append_left _ (List.mem_append_left _ (List.mem_append_left _ hm)))) (by unfold zup; rw [if_pos ⟨rfl, rfl⟩] <;> rfl) rfl trivial rfl rfl rfl rfl (Nat.le_of_ble_eq_true rfl) ?_
  refine Z.ce zup_zup ?_
  refine za_aloadN (i := 0) eX8_init_38 rfl rfl ?_
  refine za_bipush eX8_init_39 (by decide) ?_
  refine Z.fresh (fun hf => ?_)
  refine za_newa (x := 35) (y := 0) (N := 21) (t := 0) (ty := .int) (a0 := (21, .inl fun _ => 0)) eX8_init_41 (xtb_in (i := 158) (by decide +kernel) (by decide +kernel)) rfl rfl (fun _ _ => rfl) (fun c => vp_cell_i c 21 _) rfl (by decide) (Nat.le_of_ble_eq_true rfl) (by decide) (by rw [hw _ _ (by decide)]; rfl) (hf _ _ (by rw [hw _ _ (by decide)]; exact Nat.le_refl _)) (by omega) ?_
  refine Z.ce (zup_id (by rw [zup_ne (by omega), zup_ne (by omega)]; rfl)) ?_
  refine za_putF (T := TX8) (N := 23) (C := RX8) (ci := 7) (f := 5) (ty0 := tyX8) (ty := .array .int) (u := xp 35 0) (fs := [.ref (w.1 31 0), .ref (w.1 32 0), .ref (w.1 33 0), .ref (w.1 34 0), .int 0, .null, .null, .null, .null, .null, .null, .int 0, .int 0, .null, .int 0, .int 0, .int 0, .int 0, .int 0, .int 0, .int 0, .int 0, .long 0]) eX8_init_43 lRX8_23 xin_X8 tyX8_ok nmX8 rfl (by decide) (List.mem_append_left _ (List.mem_append_left _ (List.mem_append_left _ (List.mem_append_left _ (List.mem_append_left _ hm))))) (by unfold zup; rw [if_pos ⟨rfl, rfl⟩] <;> rfl) rfl trivial rfl rfl rfl rfl (Nat.le_of_ble_eq_true rfl) ?_
  refine Z.ce zup_zup ?_
  refine za_aloadN (i := 0) eX8_init_46 rfl rfl ?_
  refine za_bipush eX8_init_47 (by decide) ?_
  refine Z.fresh (fun hf => ?_)
  refine za_newa (x := 36) (y := 0) (N := 21) (t := 0) (ty := .int) (a0 := (21, .inl fun _ => 0)) eX8_init_49 (xtb_in (i := 158) (by decide +kernel) (by decide +kernel)) rfl rfl (fun _ _ => rfl) (fun c => vp_cell_i c 21 _) rfl (by decide) (Nat.le_of_ble_eq_true rfl) (by decide) (by rw [hw _ _ (by decide)]; rfl) (hf _ _ (by rw [hw _ _ (by decide)]; exact Nat.le_refl _)) (by omega) ?_
  refine Z.ce (zup_id (by rw [zup_ne (by omega), zup_ne (by omega)]; rfl)) ?_
  refine za_putF (T := TX8) (N := 23) (C := RX8) (ci := 7) (f := 6) (ty0 := tyX8) (ty := .array .int) (u := xp 36 0) (fs := [.ref (w.1 31 0), .ref (w.1 32 0), .ref (w.1 33 0), .ref (w.1 34 0), .int 0, .ref (w.1 35 0), .null, .null, .null, .null, .null, .int 0, .int 0, .null, .int 0, .int 0, .int 0, .int 0, .int 0, .int 0, .int 0, .int 0, .long 0]) eX8_init_51 lRX8_27 xin_X8 tyX8_ok nmX8 rfl (by decide) (List.mem_append_left _ (List.mem_append_left _ (List.mem_append_left _ (List.mem_append_left _ (List.mem_append_left _ (List.mem_append_left _ hm)))))) (by unfold zup; rw [if_pos ⟨rfl, rfl⟩] <;> rfl) rfl trivial rfl rfl rfl rfl (Nat.le_of_ble_eq_true rfl) ?_
  refine Z.ce zup_zup ?_
  refine za_aloadN (i := 0) eX8_init_54 rfl rfl ?_
  refine za_bipush eX8_init_55 (by decide) ?_
  refine Z.fresh (fun hf => ?_)
  refine za_newa (x := 37) (y := 0) (N := 21) (t := 0) (ty := .int) (a0 := (21, .inl fun _ => 0)) eX8_init_57 (xtb_in (i := 158) (by decide +kernel) (by decide +kernel)) rfl rfl (fun _ _ => rfl) (fun c => vp_cell_i c 21 _) rfl (by decide) (Nat.le_of_ble_eq_true rfl) (by decide) (by rw [hw _ _ (by decide)]; rfl) (hf _ _ (by rw [hw _ _ (by decide)]; exact Nat.le_refl _)) (by omega) ?_
  refine Z.ce (zup_id (by rw [zup_ne (by omega), zup_ne (by omega)]; rfl)) ?_
  refine za_putF (T := TX8) (N := 23) (C := RX8) (ci := 7) (f := 7) (ty0 := tyX8) (ty := .array .int) (u := xp 37 0) (fs := [.ref (w.1 31 0), .ref (w.1 32 0), .ref (w.1 33 0), .ref (w.1 34 0), .int 0, .ref (w.1 35 0), .ref (w.1 36 0), .null, .null, .null, .null, .int 0, .int 0, .null, .int 0, .int 0, .int 0, .int 0, .int 0, .int 0, .int 0, .int 0, .long 0]) eX8_init_59 lRX8_30 xin_X8 tyX8_ok nmX8 rfl (by decide) (List.mem_append_left _ (List.mem_append_left _ (List.mem_append_left _ (List.mem_append_left _ (List.mem_append_left _ (List.mem_append_left _ (List.mem_append_left _ hm))))))) (by unfold zup; rw [if_pos ⟨rfl, rfl⟩] <;> rfl) rfl trivial rfl rfl rfl rfl (Nat.le_of_ble_eq_true rfl) ?_
  refine Z.ce zup_zup ?_
  refine za_aloadN (i := 0) eX8_init_62 rfl rfl ?_
  refine za_bipush eX8_init_63 (by decide) ?_
  refine Z.fresh (fun hf => ?_)
  refine za_newa (x := 38) (y := 0) (N := 21) (t := 0) (ty := .int) (a0 := (21, .inl fun _ => 0)) eX8_init_65 (xtb_in (i := 158) (by decide +kernel) (by decide +kernel)) rfl rfl (fun _ _ => rfl) (fun c => vp_cell_i c 21 _) rfl (by decide) (Nat.le_of_ble_eq_true rfl) (by decide) (by rw [hw _ _ (by decide)]; rfl) (hf _ _ (by rw [hw _ _ (by decide)]; exact Nat.le_refl _)) (by omega) ?_
  refine Z.ce (zup_id (by rw [zup_ne (by omega), zup_ne (by omega)]; rfl)) ?_
  refine za_putF (T := TX8) (N := 23) (C := RX8) (ci := 7) (f := 8) (ty0 := tyX8) (ty := .array .int) (u := xp 38 0) (fs := [.ref (w.1 31 0), .ref (w.1 32 0), .ref (w.1 33 0), .ref (w.1 34 0), .int 0, .ref (w.1 35 0), .ref (w.1 36 0), .ref (w.1 37 0), .null, .null, .null, .int 0, .int 0, .null, .int 0, .int 0, .int 0, .int 0, .int 0, .int 0, .int 0, .int 0, .long 0]) eX8_init_67 lRX8_33 xin_X8 tyX8_ok nmX8 rfl (by decide) (List.mem_append_left _ (List.mem_append_left _ (List.mem_append_left _ (List.mem_append_left _ (List.mem_append_left _ (List.mem_append_left _ (List.mem_append_left _ (List.mem_append_left _ hm)))))))) (by unfold zup; rw [if_pos ⟨rfl, rfl⟩] <;> rfl) rfl trivial rfl rfl rfl rfl (Nat.le_of_ble_eq_true rfl) ?_
  refine Z.ce zup_zup ?_
  refine za_aloadN (i := 0) eX8_init_70 rfl rfl ?_
  refine za_bipush eX8_init_71 (by decide) ?_
  refine Z.fresh (fun hf => ?_)
  refine za_newa (x := 39) (y := 0) (N := 21) (t := 0) (ty := .int) (a0 := (21, .inl fun _ => 0)) eX8_init_73 (xtb_in (i := 158) (by decide +kernel) (by decide +kernel)) rfl rfl (fun _ _ => rfl) (fun c => vp_cell_i c 21 _) rfl (by decide) (Nat.le_of_ble_eq_true rfl) (by decide) (by rw [hw _ _ (by decide)]; rfl) (hf _ _ (by rw [hw _ _ (by decide)]; exact Nat.le_refl _)) (by omega) ?_
  refine Z.ce (zup_id (by rw [zup_ne (by omega), zup_ne (by omega)]; rfl)) ?_
  refine za_putF (T := TX8) (N := 23) (C := RX8) (ci := 7) (f := 9) (ty0 := tyX8) (ty := .array .int) (u := xp 39 0) (fs := [.ref (w.1 31 0), .ref (w.1 32 0), .ref (w.1 33 0), .ref (w.1 34 0), .int 0, .ref (w.1 35 0), .ref (w.1 36 0), .ref (w.1 37 0), .ref (w.1 38 0), .null, .null, .int 0, .int 0, .null, .int 0, .int 0, .int 0, .int 0, .int 0, .int 0, .int 0, .int 0, .long 0]) eX8_init_75 lRX8_36 xin_X8 tyX8_ok nmX8 rfl (by decide) (List.mem_append_left _ (List.mem_append_left _ (List.mem_append_left _ (List.mem_append_left _ (List.mem_append_left _ (List.mem_append_left _ (List.mem_append_left _ (List.mem_append_left _ (List.mem_append_left _ hm))))))))) (by unfold zup; rw [if_pos ⟨rfl, rfl⟩] <;> rfl) rfl trivial rfl rfl rfl rfl (Nat.le_of_ble_eq_true rfl) ?_
  refine Z.ce zup_zup ?_
  refine za_aloadN (i := 0) eX8_init_78 rfl rfl ?_
  refine za_bipush eX8_init_79 (by decide) ?_
  refine Z.fresh (fun hf => ?_)
  refine za_newa (x := 40) (y := 0) (N := 21) (t := 0) (ty := .int) (a0 := (21, .inl fun _ => 0)) eX8_init_81 (xtb_in (i := 158) (by decide +kernel) (by decide +kernel)) rfl rfl (fun _ _ => rfl) (fun c => vp_cell_i c 21 _) rfl (by decide) (Nat.le_of_ble_eq_true rfl) (by decide) (by rw [hw _ _ (by decide)]; rfl) (hf _ _ (by rw [hw _ _ (by decide)]; exact Nat.le_refl _)) (by omega) ?_
  refine Z.ce (zup_id (by rw [zup_ne (by omega), zup_ne (by omega)]; rfl)) ?_
  refine za_putF (T := TX8) (N := 23) (C := RX8) (ci := 7) (f := 10) (ty0 := tyX8) (ty := .array .int) (u := xp 40 0) (fs := [.ref (w.1 31 0), .ref (w.1 32 0), .ref (w.1 33 0), .ref (w.1 34 0), .int 0, .ref (w.1 35 0), .ref (w.1 36 0), .ref (w.1 37 0), .ref (w.1 38 0), .ref (w.1 39 0), .null, .int 0, .int 0, .null, .int 0, .int 0, .int 0, .int 0, .int 0, .int 0, .int 0, .int 0, .long 0]) eX8_init_83 lRX8_39 xin_X8 tyX8_ok nmX8 rfl (by decide) (List.mem_append_left _ (List.mem_append_left _ (List.mem_append_left _ (List.mem_append_left _ (List.mem_append_left _ (List.mem_append_left _ (List.mem_append_left _ (List.mem_append_left _ (List.mem_append_left _ (List.mem_append_left _ hm)))))))))) (by unfold zup; rw [if_pos ⟨rfl, rfl⟩] <;> rfl) rfl trivial rfl rfl rfl rfl (Nat.le_of_ble_eq_true rfl) ?_
  refine Z.ce zup_zup ?_
  refine za_aloadN (i := 0) eX8_init_86 rfl rfl ?_
  refine za_sipush eX8_init_87 (by decide) ?_
  refine Z.fresh (fun hf => ?_)
  refine za_newa (x := 41) (y := 0) (N := 700) (t := 0) (ty := .int) (a0 := (700, .inl fun _ => 0)) eX8_init_90 (xtb_in (i := 158) (by decide +kernel) (by decide +kernel)) rfl rfl (fun _ _ => rfl) (fun c => vp_cell_i c 700 _) rfl (by decide) (Nat.le_of_ble_eq_true rfl) (by decide) (by rw [hw _ _ (by decide)]; rfl) (hf _ _ (by rw [hw _ _ (by decide)]; exact Nat.le_refl _)) (by omega) ?_
  refine Z.ce (zup_id (by rw [zup_ne (by omega), zup_ne (by omega)]; rfl)) ?_
  refine za_putF (T := TX8) (N := 23) (C := RX8) (ci := 7) (f := 13) (ty0 := tyX8) (ty := .array .int) (u := xp 41 0) (fs := [.ref (w.1 31 0), .ref (w.1 32 0), .ref (w.1 33 0), .ref (w.1 34 0), .int 0, .ref (w.1 35 0), .ref (w.1 36 0), .ref (w.1 37 0), .ref (w.1 38 0), .ref (w.1 39 0), .ref (w.1 40 0), .int 0, .int 0, .null, .int 0, .int 0, .int 0, .int 0, .int 0, .int 0, .int 0, .int 0, .long 0]) eX8_init_92 lRX8_42 xin_X8 tyX8_ok nmX8 rfl (by decide) (List.mem_append_left _ (List.mem_append_left _ (List.mem_append_left _ (List.mem_append_left _ (List.mem_append_left _ (List.mem_append_left _ (List.mem_append_left _ (List.mem_append_left _ (List.mem_append_left _ (List.mem_append_left _ (List.mem_append_left _ hm))))))))))) (by unfold zup; rw [if_pos ⟨rfl, rfl⟩] <;> rfl) rfl trivial rfl rfl rfl rfl (Nat.le_of_ble_eq_true rfl) ?_
  refine Z.ce zup_zup ?_
  refine za_aloadN (i := 0) eX8_init_95 rfl rfl ?_
  refine za_iconst eX8_init_96 ?_
  refine za_put (T := TX8) (N := 23) (C := RX8) (ci := 7) (f := 21) (ty0 := tyX8) (ty := .int) (u := xi (-1)) (fs := [.ref (w.1 31 0), .ref (w.1 32 0), .ref (w.1 33 0), .ref (w.1 34 0), .int 0, .ref (w.1 35 0), .ref (w.1 36 0), .ref (w.1 37 0), .ref (w.1 38 0), .ref (w.1 39 0), .ref (w.1 40 0), .int 0, .int 0, .ref (w.1 41 0), .int 0, .int 0, .int 0, .int 0, .int 0, .int 0, .int 0, .int 0, .long 0]) eX8_init_97 lRX8_45 xin_X8 tyX8_ok nmX8 rfl (by decide) (List.mem_append_left _ (List.mem_append_left _ (List.mem_append_left _ (List.mem_append_left _ (List.mem_append_left _ (List.mem_append_left _ (List.mem_append_left _ (List.mem_append_left _ (List.mem_append_left _ (List.mem_append_left _ (List.mem_append_left _ hm))))))))))) (by unfold zup; rw [if_pos ⟨rfl, rfl⟩] <;> rfl) rfl rfl rfl rfl (Nat.le_of_ble_eq_true rfl) ?_
  refine Z.ce zup_zup ?_
  refine za_aloadN (i := 0) eX8_init_100 rfl rfl ?_
  refine za_callV (y := yX8_clear) (mi' := mX8_clear) (k1 := 0) (n1 := 0) (T := TX8) (N := 23) (ci := 7) (fs := [.ref (w.1 31 0), .ref (w.1 32 0), .ref (w.1 33 0), .ref (w.1 34 0), .int 0, .ref (w.1 35 0), .ref (w.1 36 0), .ref (w.1 37 0), .ref (w.1 38 0), .ref (w.1 39 0), .ref (w.1 40 0), .int 0, .int 0, .ref (w.1 41 0), .int 0, .int 0, .int 0, .int 0, .int 0, .int 0, .int 0, .int (-1), .long 0]) eX8_init_101 (xw_5 (xtb_in (i := 1110) (by decide +kernel) (by decide +kernel)) wy_X8_clear) rfl ⟨wd_X8_clear, by decide, by decide⟩ (List.mem_append_left _ (List.mem_append_left _ (List.mem_append_left _ (List.mem_append_left _ (List.mem_append_left _ (List.mem_append_left _ (List.mem_append_left _ (List.mem_append_left _ (List.mem_append_left _ (List.mem_append_left _ (List.mem_append_left _ hm))))))))))) (by unfold zup; rw [if_pos ⟨rfl, rfl⟩] <;> rfl) rfl (Nat.le_of_ble_eq_true rfl) ⟨Nat.zero_le _, Nat.zero_le _⟩ (kz_X8_clear (fs := [.ref (w.1 31 0), .ref (w.1 32 0), .ref (w.1 33 0), .ref (w.1 34 0), .int 0, .ref (w.1 35 0), .ref (w.1 36 0), .ref (w.1 37 0), .ref (w.1 38 0), .ref (w.1 39 0), .ref (w.1 40 0), .int 0, .int 0, .ref (w.1 41 0), .int 0, .int 0, .int 0, .int 0, .int 0, .int 0, .int 0, .int (-1), .long 0]) (List.mem_append_left _ (List.mem_append_left _ (List.mem_append_left _ (List.mem_append_left _ (List.mem_append_left _ (List.mem_append_left _ (List.mem_append_left _ (List.mem_append_left _ (List.mem_append_left _ (List.mem_append_left _ (List.mem_append_left _ hm))))))))))) (List.mem_append_left _ (List.mem_append_left _ (List.mem_append_left _ (List.mem_append_left _ (List.mem_append_left _ (List.mem_append_left _ (List.mem_append_left _ (List.mem_append_left _ (List.mem_append_left _ (List.mem_append_left _ (List.mem_append_right _ List.mem_cons_self))))))))))) (by unfold zup; rw [if_pos ⟨rfl, rfl⟩] <;> rfl) rfl (by rw [zup_ne (by omega)]; unfold zup; rw [if_pos ⟨rfl, rfl⟩])) ?_ rfl
  refine Z.ce (zup_sw (by omega)) ?_
  refine Z.ce (congrArg (fun X => zup X 30 0 _) zup_zup) ?_
  refine Z.ce (congrArg (fun X => zup X 30 0 _) (zup_id rfl)) ?_
  refine Z.ce (zup_id rfl) ?_
  exact za_vret eX8_init_104 rfl
