/-! the law's object is made -/
theorem zup_at {X : zE} {k j : Nat} {e : va_E} : zup X k j e k j = e := if_pos ⟨rfl, rfl⟩
def zc0 : va_E := .inr (7, [.null, .null, .int 0, .null, .null])
def zc1 (w : xW) : va_E := .inr (7, [.ref (w.1 0 0), .null, .int 0, .null, .null])
def zc2 (w : xW) : va_E := .inr (7, [.ref (w.1 0 0), .null, .int 0, .ref (w.1 31 0), .null])
def zc3 (w : xW) : va_E := .inr (7, [.ref (w.1 0 0), .null, .int 0, .ref (w.1 31 0), .ref (w.1 32 0)])
def zpf (n : Nat) : Nat → Int32 := fun f => Int32.ofInt (if f < n then perA f else 0)
theorem zpf_0 {X : zE} {c : ClassId} : zup X 31 0 (.inl (c, (15, .inl fun _ => 0))) = zup X 31 0 (.inl (c, (15, .inl (zpf 0)))) := by
  refine congrArg (fun g => zup X 31 0 (.inl (c, (15, .inl g)))) (funext fun f => ?_)
  unfold zpf
  rw [if_neg (Nat.not_lt_zero f)]
  rfl
theorem zpf_s {X : zE} {c : ClassId} {e : va_E} {v a : Int} (n : Nat) (ha : a = (n : Int)) (hv : perA n = v) : zup (zup X 31 0 e) 31 0 (.inl (c, (15, .inl fun j => if j = a.toNat then Int32.ofInt v else zpf n j))) = zup X 31 0 (.inl (c, (15, .inl (zpf (n + 1))))) := by
  subst ha
  subst hv
  rw [zup_zup]
  refine congrArg (fun g => zup X 31 0 (.inl (c, (15, .inl g)))) (funext fun f => ?_)
  show (if f = n then Int32.ofInt (perA n) else zpf n f) = zpf (n + 1) f
  unfold zpf
  by_cases h : f = n
  · subst h
    rw [if_pos rfl, if_pos (Nat.lt_succ_self f)]
  · rw [if_neg h]
    by_cases h2 : f < n
    · rw [if_pos h2, if_pos (by omega)]
    · rw [if_neg h2, if_neg (by omega)]
def zDL (D : zD) : zD := (zD7 (D ++ [(0, 0)]) ++ [(31, 0)]) ++ [(32, 0)]
theorem zD7_l {D : zD} {q : Nat × Nat} (h : q ∈ D) : q ∈ zD7 D := (zTD_l (List.mem_append_left _ (zSD_l (List.mem_append_left _ (List.mem_append_left _ (List.mem_append_left _ (zTD_l (List.mem_append_left _ (zTD_l (List.mem_append_left _ (List.mem_append_left _ (zSD_l (List.mem_append_left _ (zSD_l (List.mem_append_left _ (List.mem_append_left _ (zSD_l (List.mem_append_left _ (zSD_l (List.mem_append_left _ h))))))))))))))))))))
set_option maxHeartbeats 1000000 in
theorem k_L_init {w : xW} {D : zD} {b : Nat} (hw : zPl w b) (hm : (30, 0) ∈ D) : KZ w mL_init yL_init 251 4673 [xp 30 0] D (zfin w zc0) b (zDL D) (zfin w (zc3 w)) (b + 251) := by
  refine KZ.of (qq := True) (fun _ => rfl) rfl rfl rfl rfl (Nat.le_of_ble_eq_true rfl) rfl ?_
  refine za_aloadN (i := 0) eL_init_0 rfl rfl ?_
  refine za_obj eL_init_1 zw_objL ⟨by decide, by decide⟩ ?_ rfl
  refine za_aloadN (i := 0) eL_init_4 rfl rfl ?_
  refine Z.fresh (fun hf => ?_)
  refine za_new (x := 0) (y := 0) (T := TX7) (N := 7) (C := RX7) (ci := 6) (ty0 := tyX7) (fs := [.null, .null, .null, .null, .null, .null, .null]) eL_init_5 (zw_3 (xtb_in (i := 26) (by decide +kernel) (by decide +kernel)) (xtb_in (i := 27) (by decide +kernel) (by decide +kernel)) li_RX7) xin_X7 tyX7_ok rfl (fun j hj => by rcases (show j = 0 ∨ j = 1 ∨ j = 2 ∨ j = 3 ∨ j = 4 ∨ j = 5 ∨ j = 6 by omega) with rfl | rfl | rfl | rfl | rfl | rfl | rfl <;> rfl) (by decide) (by rw [hw _ _ (by decide)]; rfl) (hf _ _ (by rw [hw _ _ (by decide)]; exact Nat.le_refl _)) (by omega) ?_
  refine za_dup eL_init_8 rfl ?_
  refine za_callI (y := yX7_init) (mi' := mX7_init) (k1 := 248) (n1 := 4647) eL_init_9 (zw_4 (xtb_in (i := 28) (by decide +kernel) (by decide +kernel)) zi_X7 li_RX7 zc_X7) rfl rfl rfl ⟨zd_X7, by decide, by decide⟩ (Nat.le_of_ble_eq_true rfl) (by omega) (k_X7_init hw (List.mem_append_right _ List.mem_cons_self)) ?_ rfl
  refine za_putF (T := TL) (N := 5) (C := RL) (ci := 7) (f := 0) (ty0 := tyL) (ty := .object "PromiseMarket") (u := xp 0 0) (fs := [.null, .null, .int 0, .null, .null]) eL_init_12 lRL_10 xin_X9 tyL_ok nmL rfl (by decide) (zD7_l (List.mem_append_left _ hm)) rfl rfl trivial rfl rfl rfl rfl (Nat.le_of_ble_eq_true rfl) ?_
  refine Z.ce zfin_c ?_
  refine Z.ce (show _ = zfin w (zc1 w) from rfl) ?_
  refine za_aloadN (i := 0) eL_init_15 rfl rfl ?_
  refine za_bipush eL_init_16 (by decide) ?_
  refine Z.fresh (fun hf => ?_)
  refine za_newa (x := 31) (y := 0) (N := 15) (t := 0) (ty := .int) (a0 := (15, .inl fun _ => 0)) eL_init_18 (xtb_in (i := 157) (by decide +kernel) (by decide +kernel)) rfl rfl (fun _ _ => rfl) (fun c => vp_cell_i c 15 _) rfl (by decide) (Nat.le_of_ble_eq_true rfl) (by decide) (by rw [hw _ _ (by decide)]; rfl) (hf _ _ (by rw [hw _ _ (by decide)]; exact Nat.le_refl _)) (by omega) ?_
  refine Z.ce zpf_0 ?_
  refine za_dup eL_init_20 rfl ?_
  refine za_iconst eL_init_21 ?_
  refine za_iconst eL_init_22 ?_
  refine za_iast (t := 0) (N := 15) (f := zpf 0) eL_init_23 rfl (List.mem_append_right _ List.mem_cons_self) zup_at (by decide) (by decide) ?_
  refine Z.ce (zpf_s 0 rfl rfl) ?_
  refine za_dup eL_init_24 rfl ?_
  refine za_iconst eL_init_25 ?_
  refine za_iconst eL_init_26 ?_
  refine za_iast (t := 0) (N := 15) (f := zpf 1) eL_init_27 rfl (List.mem_append_right _ List.mem_cons_self) zup_at (by decide) (by decide) ?_
  refine Z.ce (zpf_s 1 rfl rfl) ?_
  refine za_dup eL_init_28 rfl ?_
  refine za_iconst eL_init_29 ?_
  refine za_iconst eL_init_30 ?_
  refine za_iast (t := 0) (N := 15) (f := zpf 2) eL_init_31 rfl (List.mem_append_right _ List.mem_cons_self) zup_at (by decide) (by decide) ?_
  refine Z.ce (zpf_s 2 rfl rfl) ?_
  refine za_dup eL_init_32 rfl ?_
  refine za_iconst eL_init_33 ?_
  refine za_iconst eL_init_34 ?_
  refine za_iast (t := 0) (N := 15) (f := zpf 3) eL_init_35 rfl (List.mem_append_right _ List.mem_cons_self) zup_at (by decide) (by decide) ?_
  refine Z.ce (zpf_s 3 rfl rfl) ?_
  refine za_dup eL_init_36 rfl ?_
  refine za_iconst eL_init_37 ?_
  refine za_bipush eL_init_38 (by decide) ?_
  refine za_iast (t := 0) (N := 15) (f := zpf 4) eL_init_40 rfl (List.mem_append_right _ List.mem_cons_self) zup_at (by decide) (by decide) ?_
  refine Z.ce (zpf_s 4 rfl rfl) ?_
  refine za_dup eL_init_41 rfl ?_
  refine za_iconst eL_init_42 ?_
  refine za_bipush eL_init_43 (by decide) ?_
  refine za_iast (t := 0) (N := 15) (f := zpf 5) eL_init_45 rfl (List.mem_append_right _ List.mem_cons_self) zup_at (by decide) (by decide) ?_
  refine Z.ce (zpf_s 5 rfl rfl) ?_
  refine za_dup eL_init_46 rfl ?_
  refine za_bipush eL_init_47 (by decide) ?_
  refine za_bipush eL_init_49 (by decide) ?_
  refine za_iast (t := 0) (N := 15) (f := zpf 6) eL_init_51 rfl (List.mem_append_right _ List.mem_cons_self) zup_at (by decide) (by decide) ?_
  refine Z.ce (zpf_s 6 rfl rfl) ?_
  refine za_dup eL_init_52 rfl ?_
  refine za_bipush eL_init_53 (by decide) ?_
  refine za_bipush eL_init_55 (by decide) ?_
  refine za_iast (t := 0) (N := 15) (f := zpf 7) eL_init_57 rfl (List.mem_append_right _ List.mem_cons_self) zup_at (by decide) (by decide) ?_
  refine Z.ce (zpf_s 7 rfl rfl) ?_
  refine za_dup eL_init_58 rfl ?_
  refine za_bipush eL_init_59 (by decide) ?_
  refine za_bipush eL_init_61 (by decide) ?_
  refine za_iast (t := 0) (N := 15) (f := zpf 8) eL_init_63 rfl (List.mem_append_right _ List.mem_cons_self) zup_at (by decide) (by decide) ?_
  refine Z.ce (zpf_s 8 rfl rfl) ?_
  refine za_dup eL_init_64 rfl ?_
  refine za_bipush eL_init_65 (by decide) ?_
  refine za_bipush eL_init_67 (by decide) ?_
  refine za_iast (t := 0) (N := 15) (f := zpf 9) eL_init_69 rfl (List.mem_append_right _ List.mem_cons_self) zup_at (by decide) (by decide) ?_
  refine Z.ce (zpf_s 9 rfl rfl) ?_
  refine za_dup eL_init_70 rfl ?_
  refine za_bipush eL_init_71 (by decide) ?_
  refine za_bipush eL_init_73 (by decide) ?_
  refine za_iast (t := 0) (N := 15) (f := zpf 10) eL_init_75 rfl (List.mem_append_right _ List.mem_cons_self) zup_at (by decide) (by decide) ?_
  refine Z.ce (zpf_s 10 rfl rfl) ?_
  refine za_dup eL_init_76 rfl ?_
  refine za_bipush eL_init_77 (by decide) ?_
  refine za_bipush eL_init_79 (by decide) ?_
  refine za_iast (t := 0) (N := 15) (f := zpf 11) eL_init_81 rfl (List.mem_append_right _ List.mem_cons_self) zup_at (by decide) (by decide) ?_
  refine Z.ce (zpf_s 11 rfl rfl) ?_
  refine za_dup eL_init_82 rfl ?_
  refine za_bipush eL_init_83 (by decide) ?_
  refine za_bipush eL_init_85 (by decide) ?_
  refine za_iast (t := 0) (N := 15) (f := zpf 12) eL_init_87 rfl (List.mem_append_right _ List.mem_cons_self) zup_at (by decide) (by decide) ?_
  refine Z.ce (zpf_s 12 rfl rfl) ?_
  refine za_dup eL_init_88 rfl ?_
  refine za_bipush eL_init_89 (by decide) ?_
  refine za_bipush eL_init_91 (by decide) ?_
  refine za_iast (t := 0) (N := 15) (f := zpf 13) eL_init_93 rfl (List.mem_append_right _ List.mem_cons_self) zup_at (by decide) (by decide) ?_
  refine Z.ce (zpf_s 13 rfl rfl) ?_
  refine za_dup eL_init_94 rfl ?_
  refine za_bipush eL_init_95 (by decide) ?_
  refine za_bipush eL_init_97 (by decide) ?_
  refine za_iast (t := 0) (N := 15) (f := zpf 14) eL_init_99 rfl (List.mem_append_right _ List.mem_cons_self) zup_at (by decide) (by decide) ?_
  refine Z.ce (zpf_s 14 rfl rfl) ?_
  refine Z.ce (zup_id (by rfl)) ?_
  refine za_putF (T := TL) (N := 5) (C := RL) (ci := 7) (f := 3) (ty0 := tyL) (ty := .array .int) (u := xp 31 0) (fs := [.ref (w.1 0 0), .null, .int 0, .null, .null]) eL_init_100 lRL_16 xin_X9 tyL_ok nmL rfl (by decide) (List.mem_append_left _ (zD7_l (List.mem_append_left _ hm))) rfl rfl trivial rfl rfl rfl rfl (Nat.le_of_ble_eq_true rfl) ?_
  refine Z.ce zfin_c ?_
  refine Z.ce (show _ = zfin w (zc2 w) from rfl) ?_
  refine za_aloadN (i := 0) eL_init_103 rfl rfl ?_
  refine za_iconst eL_init_104 ?_
  refine Z.fresh (fun hf => ?_)
  refine za_newa (x := 32) (y := 0) (N := 4) (t := 0) (ty := .int) (a0 := (4, .inl fun _ => 0)) eL_init_105 (xtb_in (i := 157) (by decide +kernel) (by decide +kernel)) rfl rfl (fun _ _ => rfl) (fun c => vp_cell_i c 4 _) rfl (by decide) (Nat.le_of_ble_eq_true rfl) (by decide) (by rw [hw _ _ (by decide)]; rfl) (hf _ _ (by rw [hw _ _ (by decide)]; exact Nat.le_refl _)) (by omega) ?_
  refine Z.ce (zup_id (by rfl)) ?_
  refine za_putF (T := TL) (N := 5) (C := RL) (ci := 7) (f := 4) (ty0 := tyL) (ty := .array .int) (u := xp 32 0) (fs := [.ref (w.1 0 0), .null, .int 0, .ref (w.1 31 0), .null]) eL_init_107 lRL_20 xin_X9 tyL_ok nmL rfl (by decide) (List.mem_append_left _ (List.mem_append_left _ (zD7_l (List.mem_append_left _ hm)))) rfl rfl trivial rfl rfl rfl rfl (Nat.le_of_ble_eq_true rfl) ?_
  refine Z.ce zfin_c ?_
  refine Z.ce (show _ = zfin w (zc3 w) from rfl) ?_
  exact Z.cz (by rfl) (za_vret eL_init_110 rfl)
