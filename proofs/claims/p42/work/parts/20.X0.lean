/-! PromiseMarket$Process -/
theorem k_X0_begin {w : xW} {S : xS} {B : String → xS → Prop} {A : xS → Prop} {j : Nat} {m b d : Int} (hm : xr m) (hb : xr b) (hd : xr d) (hq : ∀ S', xrow 4 j 11 (fun f => if f = 0 then m else if f = 1 then b else if f = 2 then d else 0) S' S → A S') : Kv w mX0_begin yX0_begin 0 0 [xp 4 j, xi m, xi b, xi d] S A B := by
  refine K.of rfl rfl rfl rfl (Nat.le_of_ble_eq_true rfl) rfl ?_
  refine xs_aload_0 eX0_begin_0 ?_
  refine xs_iload_1 eX0_begin_1 ?_
  refine p_X0_0 eX0_begin_2 lRX0_9 (by omega) ?_
  refine xs_aload_0 eX0_begin_5 ?_
  refine xs_iload_2 eX0_begin_6 ?_
  refine p_X0_1 eX0_begin_7 lRX0_15 (by omega) ?_
  refine xs_aload_0 eX0_begin_10 ?_
  refine xs_iload_3 eX0_begin_11 ?_
  refine p_X0_2 eX0_begin_12 lRX0_18 (by omega) ?_
  refine xs_aload_0 eX0_begin_15 ?_
  refine xa_iconst eX0_begin_16 ?_
  refine p_X0_3 eX0_begin_17 lRX0_21 (by omega) ?_
  refine xs_aload_0 eX0_begin_20 ?_
  refine xa_iconst eX0_begin_21 ?_
  refine p_X0_4 eX0_begin_22 lRX0_24 (by omega) ?_
  refine xs_aload_0 eX0_begin_25 ?_
  refine xa_iconst eX0_begin_26 ?_
  refine p_X0_5 eX0_begin_27 lRX0_27 (by omega) ?_
  refine xs_aload_0 eX0_begin_30 ?_
  refine xa_iconst eX0_begin_31 ?_
  refine p_X0_6 eX0_begin_32 lRX0_30 (by omega) ?_
  refine xs_aload_0 eX0_begin_35 ?_
  refine xa_iconst eX0_begin_36 ?_
  refine p_X0_7 eX0_begin_37 lRX0_33 (by omega) ?_
  refine xs_aload_0 eX0_begin_40 ?_
  refine xa_iconst eX0_begin_41 ?_
  refine p_X0_8 eX0_begin_42 lRX0_36 (by omega) ?_
  refine xs_aload_0 eX0_begin_45 ?_
  refine xa_iconst eX0_begin_46 ?_
  refine p_X0_9 eX0_begin_47 lRX0_39 (by omega) ?_
  refine xs_aload_0 eX0_begin_50 ?_
  refine xa_iconst eX0_begin_51 ?_
  refine p_X0_10 eX0_begin_52 lRX0_42 (by omega) ?_
  refine xa_vret eX0_begin_55 rfl ⟨rfl, hq _ ⟨fun f hf => ?_, fun x y h => ?_⟩⟩
  · have hf9 : f = 0 ∨ f = 1 ∨ f = 2 ∨ f = 3 ∨ f = 4 ∨ f = 5 ∨ f = 6 ∨ f = 7 ∨ f = 8 ∨ f = 9 ∨ f = 10 := by omega
    rcases hf9 with rfl | rfl | rfl | rfl | rfl | rfl | rfl | rfl | rfl | rfl | rfl <;> simp [up]
  · simp only [up_oth h]
theorem k_X0_copyFrom {w : xW} {S : xS} {B : String → xS → Prop} {A : xS → Prop} {j i : Nat} (hq : ∀ S', xrow 4 j 11 (S 4 i) S' S → A S') : Kv w mX0_copyFrom yX0_copyFrom 0 0 [xp 4 j, xp 4 i] S A B := by
  refine K.of rfl rfl rfl rfl (Nat.le_of_ble_eq_true rfl) rfl ?_
  refine xs_aload_0 eX0_copyFrom_0 ?_
  refine xs_aload_1 eX0_copyFrom_1 ?_
  refine gr_X0_0 eX0_copyFrom_2 lRX0_9 (fun r2 => ?_)
  refine p_X0_0 eX0_copyFrom_5 lRX0_9 (by omega) ?_
  refine xs_aload_0 eX0_copyFrom_8 ?_
  refine xs_aload_1 eX0_copyFrom_9 ?_
  refine gr_X0_1 eX0_copyFrom_10 lRX0_15 (fun r10 => ?_)
  refine p_X0_1 eX0_copyFrom_13 lRX0_15 (by omega) ?_
  refine xs_aload_0 eX0_copyFrom_16 ?_
  refine xs_aload_1 eX0_copyFrom_17 ?_
  refine gr_X0_2 eX0_copyFrom_18 lRX0_18 (fun r18 => ?_)
  refine p_X0_2 eX0_copyFrom_21 lRX0_18 (by omega) ?_
  refine xs_aload_0 eX0_copyFrom_24 ?_
  refine xs_aload_1 eX0_copyFrom_25 ?_
  refine gr_X0_3 eX0_copyFrom_26 lRX0_21 (fun r26 => ?_)
  refine p_X0_3 eX0_copyFrom_29 lRX0_21 (by omega) ?_
  refine xs_aload_0 eX0_copyFrom_32 ?_
  refine xs_aload_1 eX0_copyFrom_33 ?_
  refine gr_X0_4 eX0_copyFrom_34 lRX0_24 (fun r34 => ?_)
  refine p_X0_4 eX0_copyFrom_37 lRX0_24 (by omega) ?_
  refine xs_aload_0 eX0_copyFrom_40 ?_
  refine xs_aload_1 eX0_copyFrom_41 ?_
  refine gr_X0_5 eX0_copyFrom_42 lRX0_27 (fun r42 => ?_)
  refine p_X0_5 eX0_copyFrom_45 lRX0_27 (by omega) ?_
  refine xs_aload_0 eX0_copyFrom_48 ?_
  refine xs_aload_1 eX0_copyFrom_49 ?_
  refine gr_X0_6 eX0_copyFrom_50 lRX0_30 (fun r50 => ?_)
  refine p_X0_6 eX0_copyFrom_53 lRX0_30 (by omega) ?_
  refine xs_aload_0 eX0_copyFrom_56 ?_
  refine xs_aload_1 eX0_copyFrom_57 ?_
  refine gr_X0_7 eX0_copyFrom_58 lRX0_33 (fun r58 => ?_)
  refine p_X0_7 eX0_copyFrom_61 lRX0_33 (by omega) ?_
  refine xs_aload_0 eX0_copyFrom_64 ?_
  refine xs_aload_1 eX0_copyFrom_65 ?_
  refine gr_X0_8 eX0_copyFrom_66 lRX0_36 (fun r66 => ?_)
  refine p_X0_8 eX0_copyFrom_69 lRX0_36 (by omega) ?_
  refine xs_aload_0 eX0_copyFrom_72 ?_
  refine xs_aload_1 eX0_copyFrom_73 ?_
  refine gr_X0_9 eX0_copyFrom_74 lRX0_39 (fun r74 => ?_)
  refine p_X0_9 eX0_copyFrom_77 lRX0_39 (by omega) ?_
  refine xs_aload_0 eX0_copyFrom_80 ?_
  refine xs_aload_1 eX0_copyFrom_81 ?_
  refine gr_X0_10 eX0_copyFrom_82 lRX0_42 (fun r82 => ?_)
  refine p_X0_10 eX0_copyFrom_85 lRX0_42 (by omega) ?_
  refine xa_vret eX0_copyFrom_88 rfl ⟨rfl, hq _ ⟨fun f hf => ?_, fun x y h => ?_⟩⟩
  · have hf9 : f = 0 ∨ f = 1 ∨ f = 2 ∨ f = 3 ∨ f = 4 ∨ f = 5 ∨ f = 6 ∨ f = 7 ∨ f = 8 ∨ f = 9 ∨ f = 10 := by omega
    rcases hf9 with rfl | rfl | rfl | rfl | rfl | rfl | rfl | rfl | rfl | rfl | rfl <;> simp [up]
  · simp only [up_oth h]
theorem k_X0_earn {w : xW} {S : xS} {B : String → xS → Prop} {A : xS → Prop} {j : Nat} {s : Int} (hs : xr (S 4 j 0 + s)) (hq : A (up S 4 j 0 (xmin 1000000 (S 4 j 0 + s)))) : Kv w mX0_earn yX0_earn 0 0 [xp 4 j, xi s] S A B := by
  refine K.of rfl rfl rfl rfl (Nat.le_of_ble_eq_true rfl) rfl ?_
  refine xs_aload_0 eX0_earn_0 ?_
  refine xa_ldc (a := 1000000) eX0_earn_1 lRX0_45 (by decide) ?_
  refine xs_aload_0 eX0_earn_3 ?_
  refine gr_X0_0 eX0_earn_4 lRX0_9 (fun r4 => ?_)
  refine xs_iload_1 eX0_earn_7 ?_
  refine xa_iadd eX0_earn_8 ?_
  refine xa_min eX0_earn_9 lRX0_46 lm_min1 li_Math lm_min2 (by decide) (Nat.le_of_ble_eq_true rfl) rfl (by omega) (by omega) ?_
  refine p_X0_0 eX0_earn_12 lRX0_9 (by have := xmin_or 1000000 (S 4 j 0 + s); omega) ?_
  exact xa_vret eX0_earn_15 rfl ⟨rfl, hq⟩
theorem k_X0_takeWork {w : xW} {S : xS} {B : String → xS → Prop} {A : xS → Prop} {j : Nat} {t : Int} (hs : xr (S 4 j 1 + t)) (hq : A (up S 4 j 1 (xmin 9999 (S 4 j 1 + t)))) : Kv w mX0_takeWork yX0_takeWork 0 0 [xp 4 j, xi t] S A B := by
  refine K.of rfl rfl rfl rfl (Nat.le_of_ble_eq_true rfl) rfl ?_
  refine xs_aload_0 eX0_takeWork_0 ?_
  refine xa_sipush eX0_takeWork_1 (by decide) ?_
  refine xs_aload_0 eX0_takeWork_4 ?_
  refine gr_X0_1 eX0_takeWork_5 lRX0_15 (fun r5 => ?_)
  refine xs_iload_1 eX0_takeWork_8 ?_
  refine xa_iadd eX0_takeWork_9 ?_
  refine xa_min eX0_takeWork_10 lRX0_46 lm_min1 li_Math lm_min2 (by decide) (Nat.le_of_ble_eq_true rfl) rfl (by omega) (by omega) ?_
  refine p_X0_1 eX0_takeWork_13 lRX0_15 (by have := xmin_or 9999 (S 4 j 1 + t); omega) ?_
  exact xa_vret eX0_takeWork_16 rfl ⟨rfl, hq⟩
theorem k_X0_arrive {w : xW} {S : xS} {B : String → xS → Prop} {A : xS → Prop} {j : Nat} {t : Int} (ht : 0 ≤ t ∧ xr t) (he : 0 ≤ S 4 j 3) (hs : xr (S 4 j 1 + S 4 j 4)) (hq : A (up S 4 j 1 (xarr t (S 4 j 3) (S 4 j 4) (S 4 j 1)))) : Kv w mX0_arrive yX0_arrive 0 0 [xp 4 j, xi t] S A B := by
  refine K.of rfl rfl rfl rfl (Nat.le_of_ble_eq_true rfl) rfl ?_
  refine xs_aload_0 eX0_arrive_0 ?_
  refine gr_X0_3 eX0_arrive_1 lRX0_21 (fun r1 => ?_)
  refine xa_if_eq (tgt := 24) eX0_arrive_4 (by decide) (by omega) (fun c4 => ?_) (fun c4 => ?_)
  · exact xa_vret eX0_arrive_24 rfl ⟨rfl, by rw [xarr, if_neg (by omega), up_self] at hq; exact hq⟩
  · refine xs_iload_1 eX0_arrive_7 ?_
    refine xs_aload_0 eX0_arrive_8 ?_
    refine gr_X0_3 eX0_arrive_9 lRX0_21 (fun r9 => ?_)
    refine xa_irem eX0_arrive_12 (by omega) (by omega) (by omega) ?_
    refine xa_if_ne (tgt := 24) eX0_arrive_13 (by decide) (by have h1 := Int.tmod_nonneg (S 4 j 3) ht.1; have h2 := Int.tmod_lt_of_pos t (show 0 < S 4 j 3 by omega); omega) (fun c13 => ?_) (fun c13 => ?_)
    · exact xa_vret eX0_arrive_24 rfl ⟨rfl, by rw [xarr, if_neg (fun z => c13 z.2), up_self] at hq; exact hq⟩
    · refine xs_aload_0 eX0_arrive_16 ?_
      refine xs_aload_0 eX0_arrive_17 ?_
      refine gr_X0_4 eX0_arrive_18 lRX0_24 (fun r18 => ?_)
      refine xbv_V10 (mi' := mX0_takeWork) (y := yX0_takeWork) eX0_arrive_21 (xw_5 lRX0_52 wy_X0_takeWork) rfl ⟨wd_X0_takeWork, by decide, by decide⟩ (by decide) (fun _ => rfl) rfl (Nat.le_of_ble_eq_true rfl) rfl (k_X0_takeWork hs ?_)
      exact xa_vret eX0_arrive_24 rfl ⟨rfl, by rw [xarr, if_pos ⟨c4, c13⟩] at hq; exact hq⟩
theorem k_X0_canBuyTick {w : xW} {S : xS} {B : String → xS → Prop} {A : Int → xS → Prop} {j : Nat} (hq : A (b2i (0 < S 4 j 1 ∧ 0 < S 4 j 2 ∧ S 4 j 2 ≤ S 4 j 0)) S) : Ki w mX0_canBuyTick yX0_canBuyTick 0 0 [xp 4 j] S A B := by
  refine K.of rfl rfl rfl rfl (Nat.le_of_ble_eq_true rfl) rfl ?_
  refine xs_aload_0 eX0_canBuyTick_0 ?_
  refine gr_X0_1 eX0_canBuyTick_1 lRX0_15 (fun r1 => ?_)
  refine xa_if_le (tgt := 29) eX0_canBuyTick_4 (by decide) (by omega) (fun c4 => ?_) (fun c4 => ?_)
  · refine xa_iconst eX0_canBuyTick_29 ?_
    exact xa_zret eX0_canBuyTick_30 rfl (by omega) ⟨_, rfl, by first | (rw [b2i, if_pos (by omega)] at hq; exact hq) | (rw [b2i, if_neg (by omega)] at hq; exact hq)⟩
  · refine xs_aload_0 eX0_canBuyTick_7 ?_
    refine gr_X0_2 eX0_canBuyTick_8 lRX0_18 (fun r8 => ?_)
    refine xa_if_le (tgt := 29) eX0_canBuyTick_11 (by decide) (by omega) (fun c11 => ?_) (fun c11 => ?_)
    · refine xa_iconst eX0_canBuyTick_29 ?_
      exact xa_zret eX0_canBuyTick_30 rfl (by omega) ⟨_, rfl, by first | (rw [b2i, if_pos (by omega)] at hq; exact hq) | (rw [b2i, if_neg (by omega)] at hq; exact hq)⟩
    · refine xs_aload_0 eX0_canBuyTick_14 ?_
      refine gr_X0_2 eX0_canBuyTick_15 lRX0_18 (fun r15 => ?_)
      refine xs_aload_0 eX0_canBuyTick_18 ?_
      refine gr_X0_0 eX0_canBuyTick_19 lRX0_9 (fun r19 => ?_)
      refine xa_icmp_gt (tgt := 29) eX0_canBuyTick_22 (by decide) (by omega) (by omega) (fun c22 => ?_) (fun c22 => ?_)
      · refine xa_iconst eX0_canBuyTick_29 ?_
        exact xa_zret eX0_canBuyTick_30 rfl (by omega) ⟨_, rfl, by first | (rw [b2i, if_pos (by omega)] at hq; exact hq) | (rw [b2i, if_neg (by omega)] at hq; exact hq)⟩
      · refine xa_iconst eX0_canBuyTick_25 ?_
        refine xa_goto (tgt := 30) eX0_canBuyTick_26 (by decide) ?_
        exact xa_zret eX0_canBuyTick_30 rfl (by omega) ⟨_, rfl, by first | (rw [b2i, if_pos (by omega)] at hq; exact hq) | (rw [b2i, if_neg (by omega)] at hq; exact hq)⟩
theorem k_X0_figure {w : xW} {S : xS} {B : String → xS → Prop} {A : Int → xS → Prop} {j : Nat} {a : Int} (ha : 0 ≤ a ∧ a < 11) (hq : A (S 4 j a.toNat) S) : Ki w mX0_figure yX0_figure 0 0 [xp 4 j, xi a] S A B := by
  refine K.of rfl rfl rfl rfl (Nat.le_of_ble_eq_true rfl) rfl ?_
  refine xs_iload_1 eX0_figure_0 ?_
  rcases (show a = 0 ∨ a = 1 ∨ a = 2 ∨ a = 3 ∨ a = 4 ∨ a = 5 ∨ a = 6 ∨ a = 7 ∨ a = 8 ∨ a = 9 ∨ a = 10 by omega) with rfl | rfl | rfl | rfl | rfl | rfl | rfl | rfl | rfl | rfl | rfl
  · refine xa_tabIn (off := 55) (tgt := 56) eX0_figure_1 (by decide) (by decide) (by decide) rfl (by decide) ?_
    refine xs_aload_0 eX0_figure_56 ?_
    refine gr_X0_0 eX0_figure_57 lRX0_9 (fun r57 => ?_)
    exact xa_iret eX0_figure_60 rfl ⟨_, rfl, hq⟩
  · refine xa_tabIn (off := 60) (tgt := 61) eX0_figure_1 (by decide) (by decide) (by decide) rfl (by decide) ?_
    refine xs_aload_0 eX0_figure_61 ?_
    refine gr_X0_1 eX0_figure_62 lRX0_15 (fun r62 => ?_)
    exact xa_iret eX0_figure_65 rfl ⟨_, rfl, hq⟩
  · refine xa_tabIn (off := 65) (tgt := 66) eX0_figure_1 (by decide) (by decide) (by decide) rfl (by decide) ?_
    refine xs_aload_0 eX0_figure_66 ?_
    refine gr_X0_2 eX0_figure_67 lRX0_18 (fun r67 => ?_)
    exact xa_iret eX0_figure_70 rfl ⟨_, rfl, hq⟩
  · refine xa_tabIn (off := 70) (tgt := 71) eX0_figure_1 (by decide) (by decide) (by decide) rfl (by decide) ?_
    refine xs_aload_0 eX0_figure_71 ?_
    refine gr_X0_3 eX0_figure_72 lRX0_21 (fun r72 => ?_)
    exact xa_iret eX0_figure_75 rfl ⟨_, rfl, hq⟩
  · refine xa_tabIn (off := 75) (tgt := 76) eX0_figure_1 (by decide) (by decide) (by decide) rfl (by decide) ?_
    refine xs_aload_0 eX0_figure_76 ?_
    refine gr_X0_4 eX0_figure_77 lRX0_24 (fun r77 => ?_)
    exact xa_iret eX0_figure_80 rfl ⟨_, rfl, hq⟩
  · refine xa_tabIn (off := 80) (tgt := 81) eX0_figure_1 (by decide) (by decide) (by decide) rfl (by decide) ?_
    refine xs_aload_0 eX0_figure_81 ?_
    refine gr_X0_5 eX0_figure_82 lRX0_27 (fun r82 => ?_)
    exact xa_iret eX0_figure_85 rfl ⟨_, rfl, hq⟩
  · refine xa_tabIn (off := 85) (tgt := 86) eX0_figure_1 (by decide) (by decide) (by decide) rfl (by decide) ?_
    refine xs_aload_0 eX0_figure_86 ?_
    refine gr_X0_6 eX0_figure_87 lRX0_30 (fun r87 => ?_)
    exact xa_iret eX0_figure_90 rfl ⟨_, rfl, hq⟩
  · refine xa_tabIn (off := 90) (tgt := 91) eX0_figure_1 (by decide) (by decide) (by decide) rfl (by decide) ?_
    refine xs_aload_0 eX0_figure_91 ?_
    refine gr_X0_7 eX0_figure_92 lRX0_33 (fun r92 => ?_)
    exact xa_iret eX0_figure_95 rfl ⟨_, rfl, hq⟩
  · refine xa_tabIn (off := 95) (tgt := 96) eX0_figure_1 (by decide) (by decide) (by decide) rfl (by decide) ?_
    refine xs_aload_0 eX0_figure_96 ?_
    refine gr_X0_8 eX0_figure_97 lRX0_36 (fun r97 => ?_)
    exact xa_iret eX0_figure_100 rfl ⟨_, rfl, hq⟩
  · refine xa_tabIn (off := 100) (tgt := 101) eX0_figure_1 (by decide) (by decide) (by decide) rfl (by decide) ?_
    refine xs_aload_0 eX0_figure_101 ?_
    refine gr_X0_9 eX0_figure_102 lRX0_39 (fun r102 => ?_)
    exact xa_iret eX0_figure_105 rfl ⟨_, rfl, hq⟩
  · refine xa_tabOut (tgt := 106) eX0_figure_1 (by decide) (by decide) (by decide) ?_
    refine xs_aload_0 eX0_figure_106 ?_
    refine gr_X0_10 eX0_figure_107 lRX0_42 (fun r107 => ?_)
    exact xa_iret eX0_figure_110 rfl ⟨_, rfl, hq⟩

