/-! calls that throw nothing cost nothing -/
set_option maxHeartbeats 400000 in
theorem Z_count {w : xW} {S : xS} {B : String → xS → Prop} {A : Int → xS → Prop} {a : Int} {n N : Nat} {T : Int} (hV : VS 0 n N T S) (hT : T ≤ 800000) (ya : xr a)  (hv : (o_count a n N S).1 = 0) (hA : A (o_count a n N S).2.1 S)  : Ki w mX7_count yX7_count 0 0 [xp 0 0, xi a] S A B := by
  refine K.of rfl rfl rfl rfl (Nat.le_of_ble_eq_true rfl) rfl ?_
  obtain ⟨hVT, hN20, h8, hg, hp, ho, hs⟩ := id hV
  have hn := hg.1
  have hN := hVT.1
  have ht := hVT.2.2.1
  refine xs_iload_1 eX7_count_0 ?_
  refine xa_iconst eX7_count_1 ?_
  refine xa_bipush eX7_count_2 (by decide) ?_
  by_cases c4 : 0 ≤ a ∧ a ≤ 12
  · refine xbv_S30 (mi' := mX7_checkRange) (y := yX7_checkRange) eX7_count_4 (xw_4 lRX7_45 wy_X7_checkRange) rfl rfl ⟨wd_X7_checkRange, by decide, by decide⟩ (Nat.le_of_ble_eq_true rfl) rfl (kk_X7_checkRange ya (by decide) (by decide) c4 ?_)
    refine xs_aload_0 eX7_count_7 ?_
    refine g_X7_0 eX7_count_8 lRX7_10 ?_
    refine xs_iload_1 eX7_count_11 ?_
    refine xbi_V10 (mi' := mX4_figure) (y := yX4_figure) eX7_count_12 (xw_5 lRX7_215 wy_X4_figure) rfl ⟨wd_X4_figure, by decide, by decide⟩ (by decide) (fun _ => rfl) rfl (Nat.le_of_ble_eq_true rfl) rfl (f_X4_figure (s := 0) (by omega) hN (by omega) ?_)
    exact xa_iret eX7_count_15 rfl ⟨_, rfl, by have h9 := hA; unfold o_count at h9; rw [if_pos c4] at h9; exact h9⟩
  · exact absurd hv (by unfold o_count; (repeat' split); all_goals first | (exact Nat.succ_ne_zero _) | (exfalso; first | contradiction | omega))
set_option maxHeartbeats 400000 in
theorem Z_process {w : xW} {S : xS} {B : String → xS → Prop} {A : Int → xS → Prop} {p a : Int} {n N : Nat} {T : Int} (hV : VS 0 n N T S) (hT : T ≤ 800000) (yp : xr p) (ya : xr a)  (hv : (o_process p a n N S).1 = 0) (hA : A (o_process p a n N S).2.1 S)   : Ki w mX7_process yX7_process 0 0 [xp 0 0, xi p, xi a] S A B := by
  refine K.of rfl rfl rfl rfl (Nat.le_of_ble_eq_true rfl) rfl ?_
  obtain ⟨hVT, hN20, h8, hg, hp, ho, hs⟩ := id hV
  have hn := hg.1
  have hN := hVT.1
  have ht := hVT.2.2.1
  refine xs_aload_0 eX7_process_0 ?_
  refine g_X7_0 eX7_process_1 lRX7_10 ?_
  refine xs_iload_1 eX7_process_4 ?_
  by_cases c5 : 0 ≤ p ∧ p < (n : Int)
  · refine xbo_V10 (mi' := mX4_knownProcess) (y := yX4_knownProcess) eX7_process_5 (xw_5 lRX7_60 wy_X4_knownProcess) rfl ⟨wd_X4_knownProcess, by decide, by decide⟩ (by decide) (fun _ => rfl) rfl (Nat.le_of_ble_eq_true rfl) rfl (kI_X4_knownProcess hn h8 c5 ?_)
    refine xs_astore_3 eX7_process_8 rfl ?_
    refine xs_iload_2 eX7_process_9 ?_
    refine xa_iconst eX7_process_10 ?_
    refine xa_bipush eX7_process_11 (by decide) ?_
    by_cases c13 : 0 ≤ a ∧ a ≤ 11
    · refine xbv_S30 (mi' := mX7_checkRange) (y := yX7_checkRange) eX7_process_13 (xw_4 lRX7_45 wy_X7_checkRange) rfl rfl ⟨wd_X7_checkRange, by decide, by decide⟩ (Nat.le_of_ble_eq_true rfl) rfl (kk_X7_checkRange ya (by decide) (by decide) c13 ?_)
      refine xs_iload_2 eX7_process_16 ?_
      refine xa_bipush eX7_process_17 (by decide) ?_
      refine xa_icmp_ne (tgt := 36) eX7_process_19 (by decide) ya (by decide) (fun c19 => ?_) (fun c19 => ?_)
      · refine xs_aload_3 eX7_process_36 ?_
        refine xs_iload_2 eX7_process_37 ?_
        refine xbi_V10 (mi' := mX0_figure) (y := yX0_figure) eX7_process_38 (xw_5 lRX7_95 wy_X0_figure) rfl ⟨wd_X0_figure, by decide, by decide⟩ (by decide) (fun _ => rfl) rfl (Nat.le_of_ble_eq_true rfl) rfl (k_X0_figure (by omega) ?_)
        exact xa_iret eX7_process_41 rfl ⟨_, rfl, by have h9 := hA; unfold o_process at h9; rw [if_pos c5, if_pos c13, if_neg (by omega)] at h9; exact h9⟩
      · refine xs_aload_0 eX7_process_22 ?_
        refine g_X7_0 eX7_process_23 lRX7_10 ?_
        refine g_X4_0 eX7_process_26 lRX7_88 ?_
        refine xs_iload_1 eX7_process_29 ?_
        refine xbi_V10 (mi' := mX5_countOwnedBy) (y := yX5_countOwnedBy) eX7_process_30 (xw_5 lRX7_91 wy_X5_countOwnedBy) rfl ⟨wd_X5_countOwnedBy, by decide, by decide⟩ (by decide) (fun _ => rfl) rfl (Nat.le_of_ble_eq_true rfl) rfl (k_X5_countOwnedBy yp hN (by omega) ?_)
        refine xa_goto (tgt := 41) eX7_process_33 (by decide) ?_
        exact xa_iret eX7_process_41 rfl ⟨_, rfl, by have h9 := hA; unfold o_process at h9; rw [if_pos c5, if_pos c13, if_pos (by omega)] at h9; exact h9⟩
    · exact absurd hv (by unfold o_process; (repeat' split); all_goals first | (exact Nat.succ_ne_zero _) | (exfalso; first | contradiction | omega))
  · exact absurd hv (by unfold o_process; (repeat' split); all_goals first | (exact Nat.succ_ne_zero _) | (exfalso; first | contradiction | omega))

set_option maxHeartbeats 400000 in
theorem Z_told {w : xW} {S : xS} {B : String → xS → Prop} {A : Int → xS → Prop} {j a : Int} {n N : Nat} {T : Int} (hV : VS 0 n N T S) (hT : T ≤ 800000) (yj : xr j) (ya : xr a)  (hv : (o_told j a n N S).1 = 0) (hA : A (o_told j a n N S).2.1 S)   : Ki w mX7_told yX7_told 0 0 [xp 0 0, xi j, xi a] S A B := by
  refine K.of rfl rfl rfl rfl (Nat.le_of_ble_eq_true rfl) rfl ?_
  obtain ⟨hVT, hN20, h8, hg, hp, ho, hs⟩ := id hV
  have hn := hg.1
  have hN := hVT.1
  have ht := hVT.2.2.1
  refine xs_aload_0 eX7_told_0 ?_
  refine g_X7_0 eX7_told_1 lRX7_10 ?_
  refine g_X4_0 eX7_told_4 lRX7_88 ?_
  refine xs_iload_1 eX7_told_7 ?_
  by_cases c8 : 0 ≤ j ∧ j < (N : Int)
  · refine xbo_V10 (mi' := mX5_knownPromise) (y := yX5_knownPromise) eX7_told_8 (xw_5 lRX7_126 wy_X5_knownPromise) rfl ⟨wd_X5_knownPromise, by decide, by decide⟩ (by decide) (fun _ => rfl) rfl (Nat.le_of_ble_eq_true rfl) rfl (kI_X5_knownPromise hN (by omega) c8 ?_)
    have hTQ := hVT.2.2.2 j.toNat (by omega)
    unfold TQ at hTQ
    refine xs_astore_3 eX7_told_11 rfl ?_
    refine xs_iload_2 eX7_told_12 ?_
    refine xa_iconst eX7_told_13 ?_
    refine xa_bipush eX7_told_14 (by decide) ?_
    by_cases c16 : 0 ≤ a ∧ a ≤ 16
    · refine xbv_S30 (mi' := mX7_checkRange) (y := yX7_checkRange) eX7_told_16 (xw_4 lRX7_45 wy_X7_checkRange) rfl rfl ⟨wd_X7_checkRange, by decide, by decide⟩ (Nat.le_of_ble_eq_true rfl) rfl (kk_X7_checkRange ya (by decide) (by decide) c16 ?_)
      refine xs_aload_3 eX7_told_19 ?_
      refine xs_iload_2 eX7_told_20 ?_
      refine xs_aload_0 eX7_told_21 ?_
      refine g_X7_0 eX7_told_22 lRX7_10 ?_
      refine g_X4_0 eX7_told_25 lRX7_88 ?_
      refine gr_X5_2 eX7_told_28 lRX7_147 (fun r28 => ?_)
      refine xbi_V20 (mi' := mX1_figure) (y := yX1_figure) eX7_told_31 (xw_5 lRX7_150 wy_X1_figure) rfl ⟨wd_X1_figure, by decide, by decide⟩ (by decide) (fun _ => rfl) rfl (Nat.le_of_ble_eq_true rfl) rfl (k_X1_figure (by omega) (by omega) hTQ.1 ?_)
      exact xa_iret eX7_told_34 rfl ⟨_, rfl, by have h9 := hA; unfold o_told at h9; rw [if_pos c8, if_pos c16] at h9; exact h9⟩
    · exact absurd hv (by unfold o_told; (repeat' split); all_goals first | (exact Nat.succ_ne_zero _) | (exfalso; first | contradiction | omega))
  · exact absurd hv (by unfold o_told; (repeat' split); all_goals first | (exact Nat.succ_ne_zero _) | (exfalso; first | contradiction | omega))
set_option maxHeartbeats 400000 in
theorem Z_demand {w : xW} {S : xS} {B : String → xS → Prop} {A : Int → xS → Prop} {a : Int} {n N : Nat} {T : Int} (hV : VS 0 n N T S) (hT : T ≤ 800000) (ya : xr a)  (hv : (o_demand a n N S).1 = 0) (hA : A (o_demand a n N S).2.1 S)  : Ki w mX7_demand yX7_demand 0 0 [xp 0 0, xi a] S A B := by
  refine K.of rfl rfl rfl rfl (Nat.le_of_ble_eq_true rfl) rfl ?_
  obtain ⟨hVT, hN20, h8, hg, hp, ho, hs⟩ := id hV
  have hn := hg.1
  have hN := hVT.1
  have ht := hVT.2.2.1
  refine xs_iload_1 eX7_demand_0 ?_
  refine xa_iconst eX7_demand_1 ?_
  refine xa_sipush eX7_demand_2 (by decide) ?_
  by_cases c5 : 1 ≤ a ∧ a ≤ 240
  · refine xbv_S30 (mi' := mX7_checkRange) (y := yX7_checkRange) eX7_demand_5 (xw_4 lRX7_45 wy_X7_checkRange) rfl rfl ⟨wd_X7_checkRange, by decide, by decide⟩ (Nat.le_of_ble_eq_true rfl) rfl (kk_X7_checkRange ya (by decide) (by decide) c5 ?_)
    refine xs_aload_0 eX7_demand_8 ?_
    refine g_X7_0 eX7_demand_9 lRX7_10 ?_
    refine g_X4_0 eX7_demand_12 lRX7_88 ?_
    refine xs_iload_1 eX7_demand_15 ?_
    refine xbi_V10 (mi' := mX5_demandIn) (y := yX5_demandIn) eX7_demand_16 (xw_5 lRX7_153 wy_X5_demandIn) rfl ⟨wd_X5_demandIn, by decide, by decide⟩ (by decide) (fun _ => rfl) rfl (Nat.le_of_ble_eq_true rfl) rfl (k_X5_demandIn ya hN (by omega) (fun j hj => by have z := hVT.2.2.2 j hj; unfold TQ at z; omega) ?_)
    exact xa_iret eX7_demand_19 rfl ⟨_, rfl, by have h9 := hA; unfold o_demand at h9; rw [if_pos c5] at h9; exact h9⟩
  · exact absurd hv (by unfold o_demand; (repeat' split); all_goals first | (exact Nat.succ_ne_zero _) | (exfalso; first | contradiction | omega))
set_option maxHeartbeats 400000 in
theorem Z_sales {w : xW} {S : xS} {B : String → xS → Prop} {A : Int → xS → Prop} {p q : Int} {n N : Nat} {T : Int} (hV : VS 0 n N T S) (hT : T ≤ 800000) (yp : xr p) (yq : xr q)  (hv : (o_sales p q n N S).1 = 0) (hA : A (o_sales p q n N S).2.1 S)  : Ki w mX7_sales yX7_sales 0 0 [xp 0 0, xi p, xi q] S A B := by
  refine K.of rfl rfl rfl rfl (Nat.le_of_ble_eq_true rfl) rfl ?_
  obtain ⟨hVT, hN20, h8, hg, hp, ho, hs⟩ := id hV
  have hn := hg.1
  have hN := hVT.1
  have ht := hVT.2.2.1
  refine xs_aload_0 eX7_sales_0 ?_
  refine g_X7_0 eX7_sales_1 lRX7_10 ?_
  refine xs_iload_1 eX7_sales_4 ?_
  by_cases c5 : 0 ≤ p ∧ p < (n : Int)
  · refine xbo_V10 (mi' := mX4_knownProcess) (y := yX4_knownProcess) eX7_sales_5 (xw_5 lRX7_60 wy_X4_knownProcess) rfl ⟨wd_X4_knownProcess, by decide, by decide⟩ (by decide) (fun _ => rfl) rfl (Nat.le_of_ble_eq_true rfl) rfl (kI_X4_knownProcess hn h8 c5 ?_)
    refine xa_pop eX7_sales_8 rfl ?_
    refine xs_aload_0 eX7_sales_9 ?_
    refine g_X7_0 eX7_sales_10 lRX7_10 ?_
    refine xs_iload_2 eX7_sales_13 ?_
    by_cases c14 : 0 ≤ q ∧ q < (n : Int)
    · refine xbo_V10 (mi' := mX4_knownProcess) (y := yX4_knownProcess) eX7_sales_14 (xw_5 lRX7_60 wy_X4_knownProcess) rfl ⟨wd_X4_knownProcess, by decide, by decide⟩ (by decide) (fun _ => rfl) rfl (Nat.le_of_ble_eq_true rfl) rfl (kI_X4_knownProcess hn h8 c14 ?_)
      obtain ⟨p9, rfl⟩ : ∃ p9 : Nat, p = (p9 : Int) := ⟨p.toNat, by omega⟩
      obtain ⟨q9, rfl⟩ : ∃ q9 : Nat, q = (q9 : Int) := ⟨q.toNat, by omega⟩
      refine xa_pop eX7_sales_17 rfl ?_
      refine xs_aload_0 eX7_sales_18 ?_
      refine g_X7_0 eX7_sales_19 lRX7_10 ?_
      refine g_X4_2 eX7_sales_22 lRX7_193 ?_
      refine xs_iload_1 eX7_sales_25 ?_
      refine xs_iload_2 eX7_sales_26 ?_
      refine xbi_V20 (mi' := mX2_countBetween) (y := yX2_countBetween) eX7_sales_27 (xw_5 lRX7_197 wy_X2_countBetween) rfl ⟨wd_X2_countBetween, by decide, by decide⟩ (by decide) (fun _ => rfl) rfl (Nat.le_of_ble_eq_true rfl) rfl (k_X2_countBetween (by omega) (by omega) ?_)
      exact xa_iret eX7_sales_30 rfl ⟨_, rfl, by have h9 := hA; unfold o_sales at h9; rw [if_pos c5, if_pos c14] at h9; exact h9⟩
    · exact absurd hv (by unfold o_sales; (repeat' split); all_goals first | (exact Nat.succ_ne_zero _) | (exfalso; first | contradiction | omega))
  · exact absurd hv (by unfold o_sales; (repeat' split); all_goals first | (exact Nat.succ_ne_zero _) | (exfalso; first | contradiction | omega))
set_option maxHeartbeats 400000 in
theorem Z_canAccept {w : xW} {S : xS} {B : String → xS → Prop} {A : Int → xS → Prop} {p b d : Int} {n N : Nat} {T : Int} (hV : VS 0 n N T S) (hT : T ≤ 800000) (yp : xr p) (yb : xr b) (yd : xr d)  (hv : (o_canAccept p b d n N S).1 = 0) (hA : ∀ S', (o_canAccept p b d n N S).1 = 0 → scr S' (o_canAccept p b d n N S).2.2.2.2 → A (o_canAccept p b d n N S).2.1 S')  : Ki w mX7_canAccept yX7_canAccept 0 0 [xp 0 0, xi p, xi b, xi d] S A B := by
  refine K.of rfl rfl rfl rfl (Nat.le_of_ble_eq_true rfl) rfl ?_
  obtain ⟨hVT, hN20, h8, hg, hp, ho, hs⟩ := id hV
  have hn := hg.1
  have hN := hVT.1
  have ht := hVT.2.2.1
  refine xs_iload_1 eX7_canAccept_0 ?_
  refine xs_iload_2 eX7_canAccept_1 ?_
  refine xs_iload_3 eX7_canAccept_2 ?_
  by_cases c3 : wshP p b d
  · refine xbv_S30 (mi' := mX7_checkPromise) (y := yX7_checkPromise) eX7_canAccept_3 (xw_4 lRX7_98 wy_X7_checkPromise) rfl rfl ⟨wd_X7_checkPromise, by decide, by decide⟩ (Nat.le_of_ble_eq_true rfl) rfl (kk_X7_checkPromise yp yb yd c3 ?_)
    refine xs_aload_0 eX7_canAccept_6 ?_
    refine g_X7_4 eX7_canAccept_7 lRX7_30 ?_
    refine xs_aload_0 eX7_canAccept_10 ?_
    refine g_X7_0 eX7_canAccept_11 lRX7_10 ?_
    refine g_X4_0 eX7_canAccept_14 lRX7_88 ?_
    refine xs_iload_1 eX7_canAccept_17 ?_
    refine xs_iload_2 eX7_canAccept_18 ?_
    refine xs_iload_3 eX7_canAccept_19 ?_
    refine xbi_V40 (mi' := mX5_accepts) (y := yX5_accepts) eX7_canAccept_20 (xw_5 lRX7_104 wy_X5_accepts) rfl ⟨wd_X5_accepts, by decide, by decide⟩ (by decide) (fun _ => rfl) rfl (Nat.le_of_ble_eq_true rfl) rfl (f_X5_accepts (t := 0) (u := 5) (by decide) hVT hN20 (by have z := c3.1; omega) c3.2.1 (by have z := c3; omega) (by omega) (fun S1 hx1 => ?_))
    exact xa_zret eX7_canAccept_23 rfl (b2i_01 _) ⟨_, rfl, by have h9 := hA; unfold o_canAccept at h9; rw [if_pos c3] at h9; exact h9 _ rfl (hx1.scr (by decide))⟩
  · exact absurd hv (by unfold o_canAccept; (repeat' split); all_goals first | (exact Nat.succ_ne_zero _) | (exfalso; first | contradiction | omega))
set_option maxHeartbeats 400000 in
theorem Z_greatestBudget {w : xW} {S : xS} {B : String → xS → Prop} {A : Int → xS → Prop} {p d : Int} {n N : Nat} {T : Int} (hV : VS 0 n N T S) (hT : T ≤ 800000) (yp : xr p) (yd : xr d)  (hv : (o_greatestBudget p d n N S).1 = 0) (hA : ∀ S', (o_greatestBudget p d n N S).1 = 0 → scr S' (o_greatestBudget p d n N S).2.2.2.2 → A (o_greatestBudget p d n N S).2.1 S')  : Ki w mX7_greatestBudget yX7_greatestBudget 0 0 [xp 0 0, xi p, xi d] S A B := by
  refine K.of rfl rfl rfl rfl (Nat.le_of_ble_eq_true rfl) rfl ?_
  obtain ⟨hVT, hN20, h8, hg, hp, ho, hs⟩ := id hV
  have hn := hg.1
  have hN := hVT.1
  have ht := hVT.2.2.1
  refine xs_iload_1 eX7_greatestBudget_0 ?_
  refine xbi_S10 (mi' := mX7_isPeriod) (y := yX7_isPeriod) eX7_greatestBudget_1 (xw_4 lRX7_112 wy_X7_isPeriod) rfl rfl ⟨wd_X7_isPeriod, by decide, by decide⟩ (Nat.le_of_ble_eq_true rfl) rfl (k_X7_isPeriod yp ?_)
  by_cases c4 : perP p
  · refine xbv_S10 (mi' := mX7_checkArgument) (y := yX7_checkArgument) eX7_greatestBudget_4 (xw_4 lRX7_116 wy_X7_checkArgument) rfl rfl ⟨wd_X7_checkArgument, by decide, by decide⟩ (Nat.le_of_ble_eq_true rfl) rfl (kk_X7_checkArgument c4 ?_)
    refine xs_iload_2 eX7_greatestBudget_7 ?_
    refine xa_iconst eX7_greatestBudget_8 ?_
    refine xs_iload_1 eX7_greatestBudget_9 ?_
    by_cases c10 : 1 ≤ d ∧ d ≤ p
    · refine xbv_S30 (mi' := mX7_checkRange) (y := yX7_checkRange) eX7_greatestBudget_10 (xw_4 lRX7_45 wy_X7_checkRange) rfl rfl ⟨wd_X7_checkRange, by decide, by decide⟩ (Nat.le_of_ble_eq_true rfl) rfl (kk_X7_checkRange yd (by decide) yp c10 ?_)
      have hdp : 1 ≤ p ∧ p ≤ 120 := by have z := c4; omega
      have lp : ∀ i : Nat, i ≤ d.toNat → ∀ S1, xtl 5 S1 S ∧ gbF p d N S (d.toNat - i) = gbF p d N S d.toNat → X w mX7_greatestBudget (xTG w (fun v S' => ∃ a, v = some (xi a) ∧ A a S') B) 0 0 15 [xp 0 0, xi p, xi d, xi ((d.toNat - i : Nat) : Int)] [] S1 := by
        refine nloop d.toNat (fun i hi ih S1 hI => ?_)
        refine xs_iload_3 eX7_greatestBudget_15 ?_
        refine xa_if_le (tgt := 45) eX7_greatestBudget_16 (by decide) (by omega) (fun c16 => ?_) (fun c16 => ?_)
        · refine xs_iload_3 eX7_greatestBudget_45 ?_
          exact xa_iret eX7_greatestBudget_46 rfl ⟨_, rfl, by have h9 := hA; unfold o_greatestBudget at h9; rw [if_pos c4, if_pos c10, ← hI.2, show d.toNat - i = 0 by omega, gbF] at h9; rw [show ((d.toNat - i : Nat) : Int) = 0 by omega]; exact h9 S1 rfl (hI.1.scr (by decide))⟩
        · refine xs_aload_0 eX7_greatestBudget_19 ?_
          refine g_X7_4 eX7_greatestBudget_20 lRX7_30 ?_
          refine xs_aload_0 eX7_greatestBudget_23 ?_
          refine g_X7_0 eX7_greatestBudget_24 lRX7_10 ?_
          refine g_X4_0 eX7_greatestBudget_27 lRX7_88 ?_
          refine xs_iload_1 eX7_greatestBudget_30 ?_
          refine xs_iload_3 eX7_greatestBudget_31 ?_
          refine xs_iload_2 eX7_greatestBudget_32 ?_
          refine xbi_V40 (mi' := mX5_accepts) (y := yX5_accepts) eX7_greatestBudget_33 (xw_5 lRX7_104 wy_X5_accepts) rfl ⟨wd_X5_accepts, by decide, by decide⟩ (by decide) (fun _ => rfl) rfl (Nat.le_of_ble_eq_true rfl) rfl (f_X5_accepts (t := 0) (u := 5) (by decide) (hVT.xtl hI.1 (by decide)) hN20 (by omega) (by omega) (by omega) (by omega) (fun S2 hx2 => ?_))
          have hk1 : ((d.toNat - i : Nat) : Int) = (((d.toNat - (i + 1)) + 1 : Nat) : Int) := by omega
          have e : gbF p d N S (d.toNat - i) = (if accF 0 5 N p (((d.toNat - (i + 1)) + 1 : Nat) : Int) d S = true then (((d.toNat - (i + 1)) + 1 : Nat) : Int) else gbF p d N S (d.toNat - (i + 1))) := by rw [show d.toNat - i = (d.toNat - (i + 1)) + 1 by omega, gbF]
          have ea : accF 0 5 N p ((d.toNat - i : Nat) : Int) d S1 = accF 0 5 N p (((d.toNat - (i + 1)) + 1 : Nat) : Int) d S := by rw [hk1]; exact (tlq.xtl hI.1 (by omega) (by decide)).acc
          rw [ea]
          refine xa_ifb_ne (tgt := 45) eX7_greatestBudget_36 (by decide) (fun c36 => ?_) (fun c36 => ?_)
          · refine xs_iload_3 eX7_greatestBudget_45 ?_
            exact xa_iret eX7_greatestBudget_46 rfl ⟨_, rfl, by have h9 := hA; unfold o_greatestBudget at h9; rw [if_pos c4, if_pos c10, ← hI.2, e, if_pos c36] at h9; rw [hk1]; exact h9 S2 rfl ((hx2.tr hI.1).scr (by decide))⟩
          · refine xs_iinc_3 eX7_greatestBudget_39 rfl ?_
            refine xa_goto (tgt := 15) eX7_greatestBudget_42 (by decide) ?_
            have h9 := ih (i + 1) (by omega) (by omega) S2 ⟨hx2.tr hI.1, by rw [← hI.2, e, if_neg c36]⟩
            rw [show ((d.toNat - i : Nat) : Int) + -1 = ((d.toNat - (i + 1) : Nat) : Int) by omega]
            exact h9
      have h15 := lp 0 (by omega) S ⟨xtl.rf, by rw [Nat.sub_zero]⟩
      rw [show ((d.toNat - 0 : Nat) : Int) = d by omega] at h15
      refine xs_iload_2 eX7_greatestBudget_13 ?_
      refine xs_istore_3 eX7_greatestBudget_14 rfl ?_
      exact h15
    · exact absurd hv (by unfold o_greatestBudget; (repeat' split); all_goals first | (exact Nat.succ_ne_zero _) | (exfalso; first | contradiction | omega))
  · exact absurd hv (by unfold o_greatestBudget; (repeat' split); all_goals first | (exact Nat.succ_ne_zero _) | (exfalso; first | contradiction | omega))

set_option maxHeartbeats 400000 in
theorem Z_waitFor {w : xW} {S : xS} {B : String → xS → Prop} {A : Int → xS → Prop} {p b d : Int} {n N : Nat} {T : Int} (hV : VS 0 n N T S) (hT : T ≤ 800000) (yp : xr p) (yb : xr b) (yd : xr d)  (hv : (o_waitFor p b d n N S).1 = 0) (hA : ∀ S', (o_waitFor p b d n N S).1 = 0 → scr S' (o_waitFor p b d n N S).2.2.2.2 → A (o_waitFor p b d n N S).2.1 S')  : Ki w mX7_waitFor yX7_waitFor 0 0 [xp 0 0, xi p, xi b, xi d] S A B := by
  refine K.of rfl rfl rfl rfl (Nat.le_of_ble_eq_true rfl) rfl ?_
  obtain ⟨hVT, hN20, h8, hg, hp, ho, hs⟩ := id hV
  have hn := hg.1
  have hN := hVT.1
  have ht := hVT.2.2.1
  refine xs_iload_1 eX7_waitFor_0 ?_
  refine xs_iload_2 eX7_waitFor_1 ?_
  refine xs_iload_3 eX7_waitFor_2 ?_
  by_cases c3 : wshP p b d
  · refine xbv_S30 (mi' := mX7_checkPromise) (y := yX7_checkPromise) eX7_waitFor_3 (xw_4 lRX7_98 wy_X7_checkPromise) rfl rfl ⟨wd_X7_checkPromise, by decide, by decide⟩ (Nat.le_of_ble_eq_true rfl) rfl (kk_X7_checkPromise yp yb yd c3 ?_)
    refine xs_aload_0 eX7_waitFor_6 ?_
    refine g_X7_5 eX7_waitFor_7 lRX7_34 ?_
    refine xs_aload_0 eX7_waitFor_10 ?_
    refine g_X7_0 eX7_waitFor_11 lRX7_10 ?_
    refine g_X4_0 eX7_waitFor_14 lRX7_88 ?_
    refine xbv_V10 (mi' := mX5_copyFrom) (y := yX5_copyFrom) eX7_waitFor_17 (xw_5 lRX7_119 wy_X5_copyFrom) rfl ⟨wd_X5_copyFrom, by decide, by decide⟩ (by decide) (fun _ => rfl) rfl (Nat.le_of_ble_eq_true rfl) rfl (f_X5_copyFrom (t := 0) (u := 6) (by decide) hVT (by omega) ?_)
    obtain ⟨g, hg9⟩ : ∃ g : Nat → Bool, g = (fun i => accF 0 5 N p b d (itr (tckS 0 n N) i S)) := ⟨_, rfl⟩
    have lp : ∀ i : Nat, i ≤ 121 → ∀ S1, scr S1 S ∧ VT 6 N (T + 2 * (i : Int)) S1 ∧ tlq 6 0 N S1 (itr (tckS 0 n N) i S) ∧ frs g (121 - i) i = frs g 121 0 → X w mX7_waitFor (xTG w (fun v S' => ∃ a, v = some (xi a) ∧ A a S') B) 0 0 23 [xp 0 0, xi p, xi b, xi d, xi (i : Int)] [] S1 := by
      refine nloop 121 (fun i hi ih S1 hI => ?_)
      refine xs_iload_4 eX7_waitFor_23 ?_
      refine xa_bipush eX7_waitFor_25 (by decide) ?_
      refine xa_icmp_gt (tgt := 63) eX7_waitFor_27 (by decide) (by omega) (by omega) (fun c27 => ?_) (fun c27 => ?_)
      · refine xa_iconst eX7_waitFor_63 ?_
        exact xa_iret eX7_waitFor_64 rfl ⟨_, rfl, by have h9 := hA; unfold o_waitFor at h9; rw [if_pos c3, ← hg9, ← hI.2.2.2, show 121 - i = 0 by omega, frs] at h9; exact h9 S1 rfl hI.1⟩
      · refine xs_aload_0 eX7_waitFor_30 ?_
        refine g_X7_4 eX7_waitFor_31 lRX7_30 ?_
        refine xs_aload_0 eX7_waitFor_34 ?_
        refine g_X7_5 eX7_waitFor_35 lRX7_34 ?_
        refine xs_iload_1 eX7_waitFor_38 ?_
        refine xs_iload_2 eX7_waitFor_39 ?_
        refine xs_iload_3 eX7_waitFor_40 ?_
        refine xbi_V40 (mi' := mX5_accepts) (y := yX5_accepts) eX7_waitFor_41 (xw_5 lRX7_104 wy_X5_accepts) rfl ⟨wd_X5_accepts, by decide, by decide⟩ (by decide) (fun _ => rfl) rfl (Nat.le_of_ble_eq_true rfl) rfl (f_X5_accepts (t := 6) (u := 5) (by decide) hI.2.1 hN20 (by have z := c3.1; omega) c3.2.1 (by have z := c3; omega) (by omega) (fun S2 hx2 => ?_))
        have ea : accF 6 5 N p b d S1 = g i := by rw [hg9]; exact hI.2.2.1.acc
        rw [ea]
        refine xa_ifb_eq (tgt := 50) eX7_waitFor_44 (by decide) (fun c44 => ?_) (fun c44 => ?_)
        · refine xs_aload_0 eX7_waitFor_50 ?_
          refine g_X7_5 eX7_waitFor_51 lRX7_34 ?_
          refine xbv_V00 (mi' := mX5_passTick) (y := yX5_passTick) eX7_waitFor_54 (xw_5 lRX7_123 wy_X5_passTick) rfl ⟨wd_X5_passTick, by decide, by decide⟩ (by decide) (fun _ => rfl) rfl (Nat.le_of_ble_eq_true rfl) rfl (f_X5_passTick (hI.2.1.xtl hx2 (by decide)) (by omega) ?_)
          refine xs_iinc_4 eX7_waitFor_57 rfl ?_
          refine xa_goto (tgt := 23) eX7_waitFor_60 (by decide) ?_
          have h9 := ih (i + 1) (by omega) (by omega) _ ⟨((tckT_fr (by omega)).scr (by decide)).tr ((hx2.scr (by decide)).tr hI.1), ((hI.2.1.xtl hx2 (by decide)).tck).mono (by omega), ((tlq.xtl hx2 (by omega) (by decide)).tr hI.2.2.1).tck.tr tlq.tckS.sym, by rw [← hI.2.2.2, frs_s (i := i) (by omega), if_neg c44]⟩
          rw [show (i : Int) + 1 = ((i + 1 : Nat) : Int) by omega]
          exact h9
        · refine xs_iload_4 eX7_waitFor_47 ?_
          exact xa_iret eX7_waitFor_49 rfl ⟨_, rfl, by have h9 := hA; unfold o_waitFor at h9; rw [if_pos c3, ← hg9, ← hI.2.2.2, frs_s (by omega), if_pos c44] at h9; exact h9 S2 rfl ((hx2.scr (by decide)).tr hI.1)⟩
    have h15 := lp 0 (by omega) _ ⟨(cpyT_fr (by omega)).scr (by decide), hVT.cpy.mono (by omega), tlq.cpy, rfl⟩
    refine xa_iconst eX7_waitFor_20 ?_
    refine xs_istore_4 eX7_waitFor_21 rfl ?_
    exact h15
  · exact absurd hv (by unfold o_waitFor; (repeat' split); all_goals first | (exact Nat.succ_ne_zero _) | (exfalso; first | contradiction | omega))

set_option maxHeartbeats 400000 in
theorem Z_isBounded {w : xW} {S : xS} {B : String → xS → Prop} {A : Int → xS → Prop} {p b d : Int} {n N : Nat} {T : Int} (hV : VS 0 n N T S) (hT : T ≤ 800000) (yp : xr p) (yb : xr b) (yd : xr d)  (hv : (o_isBounded p b d n N S).1 = 0) (hA : ∀ S', (o_isBounded p b d n N S).1 = 0 → scr S' (o_isBounded p b d n N S).2.2.2.2 → A (o_isBounded p b d n N S).2.1 S')  : Ki w mX7_isBounded yX7_isBounded 0 0 [xp 0 0, xi p, xi b, xi d] S A B := by
  refine K.of rfl rfl rfl rfl (Nat.le_of_ble_eq_true rfl) rfl ?_
  obtain ⟨hVT, hN20, h8, hg, hp, ho, hs⟩ := id hV
  have hn := hg.1
  have hN := hVT.1
  have ht := hVT.2.2.1
  refine xs_iload_1 eX7_isBounded_0 ?_
  refine xs_iload_2 eX7_isBounded_1 ?_
  refine xs_iload_3 eX7_isBounded_2 ?_
  by_cases c3 : wshP p b d
  · refine xbv_S30 (mi' := mX7_checkPromise) (y := yX7_checkPromise) eX7_isBounded_3 (xw_4 lRX7_98 wy_X7_checkPromise) rfl rfl ⟨wd_X7_checkPromise, by decide, by decide⟩ (Nat.le_of_ble_eq_true rfl) rfl (kk_X7_checkPromise yp yb yd c3 ?_)
    have hV2 : VT 5 (N + 1) T (addT 5 N (-1) p b d (cpyT 0 5 N S)) := hVT.cpy.add (by omega) (by have z := c3.1; omega) c3.2.1 (by have z := c3; omega)
    refine xs_aload_0 eX7_isBounded_6 ?_
    refine g_X7_4 eX7_isBounded_7 lRX7_30 ?_
    refine xs_aload_0 eX7_isBounded_10 ?_
    refine g_X7_0 eX7_isBounded_11 lRX7_10 ?_
    refine g_X4_0 eX7_isBounded_14 lRX7_88 ?_
    refine xbv_V10 (mi' := mX5_copyFrom) (y := yX5_copyFrom) eX7_isBounded_17 (xw_5 lRX7_119 wy_X5_copyFrom) rfl ⟨wd_X5_copyFrom, by decide, by decide⟩ (by decide) (fun _ => rfl) rfl (Nat.le_of_ble_eq_true rfl) rfl (f_X5_copyFrom (t := 0) (u := 5) (by decide) hVT (by omega) ?_)
    refine xs_aload_0 eX7_isBounded_20 ?_
    refine g_X7_4 eX7_isBounded_21 lRX7_30 ?_
    refine xa_iconst eX7_isBounded_24 ?_
    refine xs_iload_1 eX7_isBounded_25 ?_
    refine xs_iload_2 eX7_isBounded_26 ?_
    refine xs_iload_3 eX7_isBounded_27 ?_
    refine xbv_V40 (mi' := mX5_add) (y := yX5_add) eX7_isBounded_28 (xw_5 lRX7_108 wy_X5_add) rfl ⟨wd_X5_add, by decide, by decide⟩ (by decide) (fun _ => rfl) rfl (Nat.le_of_ble_eq_true rfl) rfl (f_X5_add hVT.cpy (by omega) (by omega) (by decide) (by have z := c3.1; omega) c3.2.1 (by have z := c3; omega) ?_)
    refine xs_aload_0 eX7_isBounded_31 ?_
    refine g_X7_4 eX7_isBounded_32 lRX7_30 ?_
    refine xbi_V00 (mi' := mX5_tightestTicks) (y := yX5_tightestTicks) eX7_isBounded_35 (xw_5 lRX7_156 wy_X5_tightestTicks) rfl ⟨wd_X5_tightestTicks, by decide, by decide⟩ (by decide) (fun _ => rfl) rfl (Nat.le_of_ble_eq_true rfl) rfl (k_X5_tightestTicks hV2.1 (by omega) (D := fun k : Nat => demF 5 (N + 1) (k : Int) (addT 5 N (-1) p b d (cpyT 0 5 N S))) rfl (fun k h1 h2 => ⟨fun j hj => by have z := hV2.2.2.2 j hj; unfold TQ at z; omega, by have z := demF_r hV2 (a := (k : Int)) (by omega); omega⟩) ?_)
    obtain ⟨D, hD9⟩ : ∃ D : Nat → Int, D = (fun k : Nat => demF 5 (N + 1) (k : Int) (addT 5 N (-1) p b d (cpyT 0 5 N S))) := ⟨_, rfl⟩
    rw [← hD9]
    have hti := tgt_in D 239
    have hmn := tgt_min D 239
    have hDk : ∀ k : Nat, D k = demF 0 N (k : Int) S + dmd p b d (k : Int) := fun k => by rw [hD9]; exact dem_add (by have z := c3.1; omega)
    refine xs_istore_4 eX7_isBounded_38 rfl ?_
    refine xs_aload_0 eX7_isBounded_40 ?_
    refine g_X7_4 eX7_isBounded_41 lRX7_30 ?_
    refine xs_iload_4 eX7_isBounded_44 ?_
    refine xbi_V10 (mi' := mX5_demandIn) (y := yX5_demandIn) eX7_isBounded_46 (xw_5 lRX7_153 wy_X5_demandIn) rfl ⟨wd_X5_demandIn, by decide, by decide⟩ (by decide) (fun _ => rfl) rfl (Nat.le_of_ble_eq_true rfl) rfl (k_X5_demandIn (by omega) hV2.1 (by omega) (fun j hj => by have z := hV2.2.2.2 j hj; unfold TQ at z; omega) ?_)
    rw [show sm (fun j => if (addT 5 N (-1) p b d (cpyT 0 5 N S)) 10 (32 * 5 + j) 0 = 0 then xdem (tgt D 239 : Int) ((addT 5 N (-1) p b d (cpyT 0 5 N S)) 10 (32 * 5 + j)) else 0) (N + 1) = D (tgt D 239) by rw [hD9]; rfl]
    have hzr : 0 ≤ D (tgt D 239) ∧ D (tgt D 239) ≤ 607320 := by rw [hD9]; exact demF_r hV2 (by rw [← hD9]; omega)
    refine xs_iload_4 eX7_isBounded_49 ?_
    refine xa_icmp_gt (tgt := 58) eX7_isBounded_51 (by decide) (by omega) (by omega) (fun c51 => ?_) (fun c51 => ?_)
    · refine xa_iconst eX7_isBounded_58 ?_
      exact xa_zret eX7_isBounded_59 rfl (by decide) ⟨_, rfl, by have h9 := hA; unfold o_isBounded at h9; rw [if_pos c3, b2i, if_neg (fun z => by have z2 := (bddF_iff 240).mp z (tgt D 239) (by omega) (by omega); rw [← hDk] at z2; omega)] at h9; exact h9 _ rfl (((addT_fr (by omega)).tr (cpyT_fr (by omega))).scr (by decide))⟩
    · refine xa_iconst eX7_isBounded_54 ?_
      refine xa_goto (tgt := 59) eX7_isBounded_55 (by decide) ?_
      exact xa_zret eX7_isBounded_59 rfl (by decide) ⟨_, rfl, by have h9 := hA; unfold o_isBounded at h9; rw [if_pos c3, b2i, if_pos ((bddF_iff 240).mpr (fun k h1 h2 => by have z := hmn k h1 (by omega); rw [← hDk]; omega))] at h9; exact h9 _ rfl (((addT_fr (by omega)).tr (cpyT_fr (by omega))).scr (by decide))⟩
  · exact absurd hv (by unfold o_isBounded; (repeat' split); all_goals first | (exact Nat.succ_ne_zero _) | (exfalso; first | contradiction | omega))

set_option maxHeartbeats 400000 in
theorem Z_run {w : xW} {S : xS} {B : String → xS → Prop} {A : Int → xS → Prop} {m : Int} {n N : Nat} {T : Int} (hV : VS 0 n N T S) (hT : T ≤ 800000) (ym : xr m)  (hv : (o_run m n N S).1 = 0) (hA : ∀ S', (o_run m n N S).1 = 0 → scr S' (o_run m n N S).2.2.2.2 → A (o_run m n N S).2.1 S')  : Ki w mX7_run yX7_run 0 0 [xp 0 0, xi m] S A B := by
  refine K.of rfl rfl rfl rfl (Nat.le_of_ble_eq_true rfl) rfl ?_
  obtain ⟨hVT, hN20, h8, hg, hp, ho, hs⟩ := id hV
  have hn := hg.1
  have hN := hVT.1
  have ht := hVT.2.2.1
  refine xs_iload_1 eX7_run_0 ?_
  refine xa_iconst eX7_run_1 ?_
  refine xa_sipush eX7_run_2 (by decide) ?_
  by_cases c5 : 1 ≤ m ∧ m ≤ 500
  · refine xbv_S30 (mi' := mX7_checkRange) (y := yX7_checkRange) eX7_run_5 (xw_4 lRX7_45 wy_X7_checkRange) rfl rfl ⟨wd_X7_checkRange, by decide, by decide⟩ (Nat.le_of_ble_eq_true rfl) rfl (kk_X7_checkRange ym (by decide) (by decide) c5 ?_)
    obtain ⟨m9, rfl⟩ : ∃ m9 : Nat, m = (m9 : Int) := ⟨m.toNat, by omega⟩
    refine xs_aload_0 eX7_run_8 ?_
    refine g_X7_0 eX7_run_9 lRX7_10 ?_
    refine gr_X4_10 eX7_run_12 lRX7_220 (fun r12 => ?_)
    refine xs_istore_2 eX7_run_15 rfl ?_
    refine xs_aload_0 eX7_run_16 ?_
    refine g_X7_0 eX7_run_17 lRX7_10 ?_
    refine xs_iload_1 eX7_run_20 ?_
    refine xbv_V10 (mi' := mX4_pass) (y := yX4_pass) eX7_run_21 (xw_5 lRX7_223 wy_X4_pass) rfl ⟨wd_X4_pass, by decide, by decide⟩ (by decide) (fun _ => rfl) rfl (Nat.le_of_ble_eq_true rfl) rfl (f_X4_pass (s := 0) hV (by omega) (by omega) ?_)
    refine xs_aload_0 eX7_run_24 ?_
    refine g_X7_0 eX7_run_25 lRX7_10 ?_
    refine gr_X4_10 eX7_run_28 lRX7_220 (fun r28 => ?_)
    refine xs_iload_2 eX7_run_31 ?_
    refine xa_isub eX7_run_32 ?_
    exact xa_iret eX7_run_33 rfl ⟨_, rfl, by have h9 := hA; unfold o_run at h9; rw [if_pos c5] at h9; exact h9 _ rfl scr.rf⟩
  · exact absurd hv (by unfold o_run; (repeat' split); all_goals first | (exact Nat.succ_ne_zero _) | (exfalso; first | contradiction | omega))
set_option maxHeartbeats 400000 in
theorem Z_ticksToFinish {w : xW} {S : xS} {B : String → xS → Prop} {A : Int → xS → Prop} {q m : Int} {n N : Nat} {T : Int} (hV : VS 0 n N T S) (hT : T ≤ 800000) (yq : xr q) (ym : xr m)  (hv : (o_ticksToFinish q m n N S).1 = 0) (hA : ∀ S', (o_ticksToFinish q m n N S).1 = 0 → scr S' (o_ticksToFinish q m n N S).2.2.2.2 → A (o_ticksToFinish q m n N S).2.1 S')   : Ki w mX7_ticksToFinish yX7_ticksToFinish 0 0 [xp 0 0, xi q, xi m] S A B := by
  refine K.of rfl rfl rfl rfl (Nat.le_of_ble_eq_true rfl) rfl ?_
  obtain ⟨hVT, hN20, h8, hg, hp, ho, hs⟩ := id hV
  have hn := hg.1
  have hN := hVT.1
  have ht := hVT.2.2.1
  refine xs_aload_0 eX7_ticksToFinish_0 ?_
  refine g_X7_0 eX7_ticksToFinish_1 lRX7_10 ?_
  refine xs_iload_1 eX7_ticksToFinish_4 ?_
  by_cases c5 : 0 ≤ q ∧ q < (n : Int)
  · refine xbo_V10 (mi' := mX4_knownProcess) (y := yX4_knownProcess) eX7_ticksToFinish_5 (xw_5 lRX7_60 wy_X4_knownProcess) rfl ⟨wd_X4_knownProcess, by decide, by decide⟩ (by decide) (fun _ => rfl) rfl (Nat.le_of_ble_eq_true rfl) rfl (kI_X4_knownProcess hn h8 c5 ?_)
    refine xa_pop eX7_ticksToFinish_8 rfl ?_
    refine xs_iload_2 eX7_ticksToFinish_9 ?_
    refine xa_iconst eX7_ticksToFinish_10 ?_
    refine xa_sipush eX7_ticksToFinish_11 (by decide) ?_
    by_cases c14 : 1 ≤ m ∧ m ≤ 500
    · refine xbv_S30 (mi' := mX7_checkRange) (y := yX7_checkRange) eX7_ticksToFinish_14 (xw_4 lRX7_45 wy_X7_checkRange) rfl rfl ⟨wd_X7_checkRange, by decide, by decide⟩ (Nat.le_of_ble_eq_true rfl) rfl (kk_X7_checkRange ym (by decide) (by decide) c14 ?_)
      obtain ⟨q9, rfl⟩ : ∃ q9 : Nat, q = (q9 : Int) := ⟨q.toNat, by omega⟩
      have hqn : q9 < n := by omega
      obtain ⟨m9, rfl⟩ : ∃ m9 : Nat, m = (m9 : Int) := ⟨m.toNat, by omega⟩
      have hV1 : VS 1 n N T (cpyS 0 1 n N S) := hV.cpy (by decide)
      have hfr1 : xts 1 (cpyS 0 1 n N S) S := cpyS_fr h8 (by omega)
      obtain ⟨g, hg9⟩ : ∃ g : Nat → Bool, g = (fun i => decide (itr (tckS 1 n N) i (cpyS 0 1 n N S) 4 (8 * 1 + q9) 1 = 0)) := ⟨_, rfl⟩
      have lp : ∀ i : Nat, i ≤ m9 + 1 → frs g (m9 + 1 - i) i = frs g (m9 + 1) 0 → X w mX7_ticksToFinish (xTG w (fun v S' => ∃ a, v = some (xi a) ∧ A a S') B) 0 0 40 [xp 0 0, xi (q9 : Int), xi (m9 : Int), xp 4 (8 * 1 + q9), xi (i : Int)] [] (itr (tckS 1 n N) i (cpyS 0 1 n N S)) := by
        refine nloop (m9 + 1) (fun i hi ih hI => ?_)
        refine xs_iload_4 eX7_ticksToFinish_40 ?_
        refine xs_iload_2 eX7_ticksToFinish_42 ?_
        refine xa_icmp_gt (tgt := 70) eX7_ticksToFinish_43 (by decide) (by omega) (by omega) (fun c43 => ?_) (fun c43 => ?_)
        · refine xa_iconst eX7_ticksToFinish_70 ?_
          exact xa_iret eX7_ticksToFinish_71 rfl ⟨_, rfl, by have h9 := hA; unfold o_ticksToFinish at h9; rw [if_pos c5, if_pos c14, Int.toNat_natCast, Int.toNat_natCast, ← hg9, ← hI, show m9 + 1 - i = 0 by omega, frs] at h9; exact h9 _ rfl (((itr_fr hV1 i).tr hfr1).scr (Or.inl rfl))⟩
        · refine xs_aload_3 eX7_ticksToFinish_46 ?_
          refine gr_X0_1 eX7_ticksToFinish_47 lRX7_79 (fun r47 => ?_)
          refine xa_if_ne (tgt := 56) eX7_ticksToFinish_50 (by decide) (by omega) (fun c50 => ?_) (fun c50 => ?_)
          · refine xs_aload_0 eX7_ticksToFinish_56 ?_
            refine g_X7_1 eX7_ticksToFinish_57 lRX7_16 ?_
            refine xa_iconst eX7_ticksToFinish_60 ?_
            refine xbv_V10 (mi' := mX4_pass) (y := yX4_pass) eX7_ticksToFinish_61 (xw_5 lRX7_223 wy_X4_pass) rfl ⟨wd_X4_pass, by decide, by decide⟩ (by decide) (fun _ => rfl) rfl (Nat.le_of_ble_eq_true rfl) rfl (f_X4_pass (s := 1) (m := 1) (hV1.itr i) (by omega) (by omega) ?_)
            refine xs_iinc_4 eX7_ticksToFinish_64 rfl ?_
            refine xa_goto (tgt := 40) eX7_ticksToFinish_67 (by decide) ?_
            have hgi : ¬ g i = true := by rw [hg9]; simpa using c50
            have h9 := ih (i + 1) (by omega) (by omega) (by rw [← hI, frs_g (i := i) (by omega), if_neg hgi])
            rw [show (i : Int) + 1 = ((i + 1 : Nat) : Int) by omega]
            exact h9
          · refine xs_iload_4 eX7_ticksToFinish_53 ?_
            exact xa_iret eX7_ticksToFinish_55 rfl ⟨_, rfl, by have hgi : g i = true := (by rw [hg9]; simpa using c50); have h9 := hA; unfold o_ticksToFinish at h9; rw [if_pos c5, if_pos c14, Int.toNat_natCast, Int.toNat_natCast, ← hg9, ← hI, frs_g (by omega), if_pos hgi] at h9; exact h9 _ rfl (((itr_fr hV1 i).tr hfr1).scr (Or.inl rfl))⟩
      refine xs_aload_0 eX7_ticksToFinish_17 ?_
      refine g_X7_1 eX7_ticksToFinish_18 lRX7_16 ?_
      refine xs_aload_0 eX7_ticksToFinish_21 ?_
      refine g_X7_0 eX7_ticksToFinish_22 lRX7_10 ?_
      refine xbv_V10 (mi' := mX4_copyFrom) (y := yX4_copyFrom) eX7_ticksToFinish_25 (xw_5 lRX7_226 wy_X4_copyFrom) rfl ⟨wd_X4_copyFrom, by decide, by decide⟩ (by decide) (fun _ => rfl) rfl (Nat.le_of_ble_eq_true rfl) rfl (f_X4_copyFrom (u := 0) (s := 1) (by decide) hn h8 hVT (by omega) ?_)
      refine xs_aload_0 eX7_ticksToFinish_28 ?_
      refine g_X7_1 eX7_ticksToFinish_29 lRX7_16 ?_
      refine xs_iload_1 eX7_ticksToFinish_32 ?_
      refine xbo_V10 (mi' := mX4_knownProcess) (y := yX4_knownProcess) eX7_ticksToFinish_33 (xw_5 lRX7_60 wy_X4_knownProcess) rfl ⟨wd_X4_knownProcess, by decide, by decide⟩ (by decide) (fun _ => rfl) rfl (Nat.le_of_ble_eq_true rfl) rfl (kI_X4_knownProcess (s := 1) (n := n) (hV1.g.1) h8 (by omega) ?_)
      rw [Int.toNat_natCast]
      refine xs_astore_3 eX7_ticksToFinish_36 rfl ?_
      refine xa_iconst eX7_ticksToFinish_37 ?_
      refine xs_istore_4 eX7_ticksToFinish_38 rfl ?_
      exact lp 0 (by omega) rfl
    · exact absurd hv (by unfold o_ticksToFinish; (repeat' split); all_goals first | (exact Nat.succ_ne_zero _) | (exfalso; first | contradiction | omega))
  · exact absurd hv (by unfold o_ticksToFinish; (repeat' split); all_goals first | (exact Nat.succ_ne_zero _) | (exfalso; first | contradiction | omega))

set_option maxHeartbeats 400000 in
theorem Z_moneyAfter {w : xW} {S : xS} {B : String → xS → Prop} {A : Int → xS → Prop} {q m : Int} {n N : Nat} {T : Int} (hV : VS 0 n N T S) (hT : T ≤ 800000) (yq : xr q) (ym : xr m)  (hv : (o_moneyAfter q m n N S).1 = 0) (hA : ∀ S', (o_moneyAfter q m n N S).1 = 0 → scr S' (o_moneyAfter q m n N S).2.2.2.2 → A (o_moneyAfter q m n N S).2.1 S')   : Ki w mX7_moneyAfter yX7_moneyAfter 0 0 [xp 0 0, xi q, xi m] S A B := by
  refine K.of rfl rfl rfl rfl (Nat.le_of_ble_eq_true rfl) rfl ?_
  obtain ⟨hVT, hN20, h8, hg, hp, ho, hs⟩ := id hV
  have hn := hg.1
  have hN := hVT.1
  have ht := hVT.2.2.1
  refine xs_aload_0 eX7_moneyAfter_0 ?_
  refine g_X7_0 eX7_moneyAfter_1 lRX7_10 ?_
  refine xs_iload_1 eX7_moneyAfter_4 ?_
  by_cases c5 : 0 ≤ q ∧ q < (n : Int)
  · refine xbo_V10 (mi' := mX4_knownProcess) (y := yX4_knownProcess) eX7_moneyAfter_5 (xw_5 lRX7_60 wy_X4_knownProcess) rfl ⟨wd_X4_knownProcess, by decide, by decide⟩ (by decide) (fun _ => rfl) rfl (Nat.le_of_ble_eq_true rfl) rfl (kI_X4_knownProcess hn h8 c5 ?_)
    refine xa_pop eX7_moneyAfter_8 rfl ?_
    refine xs_iload_2 eX7_moneyAfter_9 ?_
    refine xa_iconst eX7_moneyAfter_10 ?_
    refine xa_sipush eX7_moneyAfter_11 (by decide) ?_
    by_cases c14 : 1 ≤ m ∧ m ≤ 500
    · refine xbv_S30 (mi' := mX7_checkRange) (y := yX7_checkRange) eX7_moneyAfter_14 (xw_4 lRX7_45 wy_X7_checkRange) rfl rfl ⟨wd_X7_checkRange, by decide, by decide⟩ (Nat.le_of_ble_eq_true rfl) rfl (kk_X7_checkRange ym (by decide) (by decide) c14 ?_)
      obtain ⟨q9, rfl⟩ : ∃ q9 : Nat, q = (q9 : Int) := ⟨q.toNat, by omega⟩
      have hqn : q9 < n := by omega
      obtain ⟨m9, rfl⟩ : ∃ m9 : Nat, m = (m9 : Int) := ⟨m.toNat, by omega⟩
      have hV1 : VS 1 n N T (cpyS 0 1 n N S) := hV.cpy (by decide)
      have hfr1 : xts 1 (cpyS 0 1 n N S) S := cpyS_fr h8 (by omega)
      refine xs_aload_0 eX7_moneyAfter_17 ?_
      refine g_X7_1 eX7_moneyAfter_18 lRX7_16 ?_
      refine xs_aload_0 eX7_moneyAfter_21 ?_
      refine g_X7_0 eX7_moneyAfter_22 lRX7_10 ?_
      refine xbv_V10 (mi' := mX4_copyFrom) (y := yX4_copyFrom) eX7_moneyAfter_25 (xw_5 lRX7_226 wy_X4_copyFrom) rfl ⟨wd_X4_copyFrom, by decide, by decide⟩ (by decide) (fun _ => rfl) rfl (Nat.le_of_ble_eq_true rfl) rfl (f_X4_copyFrom (u := 0) (s := 1) (by decide) hn h8 hVT (by omega) ?_)
      refine xs_aload_0 eX7_moneyAfter_28 ?_
      refine g_X7_1 eX7_moneyAfter_29 lRX7_16 ?_
      refine xs_iload_2 eX7_moneyAfter_32 ?_
      refine xbv_V10 (mi' := mX4_pass) (y := yX4_pass) eX7_moneyAfter_33 (xw_5 lRX7_223 wy_X4_pass) rfl ⟨wd_X4_pass, by decide, by decide⟩ (by decide) (fun _ => rfl) rfl (Nat.le_of_ble_eq_true rfl) rfl (f_X4_pass (s := 1) hV1 (by omega) (by omega) ?_)
      refine xs_aload_0 eX7_moneyAfter_36 ?_
      refine g_X7_1 eX7_moneyAfter_37 lRX7_16 ?_
      refine xs_iload_1 eX7_moneyAfter_40 ?_
      refine xbo_V10 (mi' := mX4_knownProcess) (y := yX4_knownProcess) eX7_moneyAfter_41 (xw_5 lRX7_60 wy_X4_knownProcess) rfl ⟨wd_X4_knownProcess, by decide, by decide⟩ (by decide) (fun _ => rfl) rfl (Nat.le_of_ble_eq_true rfl) rfl (kI_X4_knownProcess (s := 1) (n := n) ((hV1.itr m9).g.1) h8 (by omega) ?_)
      refine gr_X0_0 eX7_moneyAfter_44 lRX7_85 (fun r44 => ?_)
      exact xa_iret eX7_moneyAfter_47 rfl ⟨_, rfl, by have h9 := hA; unfold o_moneyAfter at h9; rw [if_pos c5, if_pos c14] at h9; exact h9 _ rfl (((itr_fr hV1 m9).tr hfr1).scr (Or.inl rfl))⟩
    · exact absurd hv (by unfold o_moneyAfter; (repeat' split); all_goals first | (exact Nat.succ_ne_zero _) | (exfalso; first | contradiction | omega))
  · exact absurd hv (by unfold o_moneyAfter; (repeat' split); all_goals first | (exact Nat.succ_ne_zero _) | (exfalso; first | contradiction | omega))
set_option maxHeartbeats 400000 in
theorem Z_bestBid {w : xW} {S : xS} {B : String → xS → Prop} {A : Int → xS → Prop} {q m : Int} {n N : Nat} {T : Int} (hV : VS 0 n N T S) (hT : T ≤ 800000) (yq : xr q) (ym : xr m)  (hv : (o_bestBid q m n N S).1 = 0) (hA : ∀ S', (o_bestBid q m n N S).1 = 0 → scr S' (o_bestBid q m n N S).2.2.2.2 → A (o_bestBid q m n N S).2.1 S')   : Ki w mX7_bestBid yX7_bestBid 0 0 [xp 0 0, xi q, xi m] S A B := by
  refine K.of rfl rfl rfl rfl (Nat.le_of_ble_eq_true rfl) rfl ?_
  obtain ⟨hVT, hN20, h8, hg, hp, ho, hs⟩ := id hV
  have hn := hg.1
  have hN := hVT.1
  have ht := hVT.2.2.1
  refine xs_aload_0 eX7_bestBid_0 ?_
  refine g_X7_0 eX7_bestBid_1 lRX7_10 ?_
  refine xs_iload_1 eX7_bestBid_4 ?_
  by_cases c5 : 0 ≤ q ∧ q < (n : Int)
  · refine xbo_V10 (mi' := mX4_knownProcess) (y := yX4_knownProcess) eX7_bestBid_5 (xw_5 lRX7_60 wy_X4_knownProcess) rfl ⟨wd_X4_knownProcess, by decide, by decide⟩ (by decide) (fun _ => rfl) rfl (Nat.le_of_ble_eq_true rfl) rfl (kI_X4_knownProcess hn h8 c5 ?_)
    refine xa_pop eX7_bestBid_8 rfl ?_
    refine xs_iload_2 eX7_bestBid_9 ?_
    refine xa_iconst eX7_bestBid_10 ?_
    refine xa_bipush eX7_bestBid_11 (by decide) ?_
    by_cases c13 : 1 ≤ m ∧ m ≤ 120
    · refine xbv_S30 (mi' := mX7_checkRange) (y := yX7_checkRange) eX7_bestBid_13 (xw_4 lRX7_45 wy_X7_checkRange) rfl rfl ⟨wd_X7_checkRange, by decide, by decide⟩ (Nat.le_of_ble_eq_true rfl) rfl (kk_X7_checkRange ym (by decide) (by decide) c13 ?_)
      obtain ⟨q9, rfl⟩ : ∃ q9 : Nat, q = (q9 : Int) := ⟨q.toNat, by omega⟩
      have hqn : q9 < n := by omega
      obtain ⟨m9, rfl⟩ : ∃ m9 : Nat, m = (m9 : Int) := ⟨m.toNat, by omega⟩
      have lp : ∀ i : Nat, i ≤ 100 → ∀ a7 a8 : xV, X w mX7_bestBid (xTG w (fun v S' => ∃ a, v = some (xi a) ∧ A a S') B) 0 0 27 [xp 0 0, xi (q9 : Int), xi (m9 : Int), xi (bbF q9 m9 n N S i).1, xi (bbF q9 m9 n N S i).2.1, xi (bbF q9 m9 n N S i).2.2, xi (i : Int), a7, a8] [] (bbS q9 m9 n N S i) := by
        refine nloop 100 (fun i hi ih a7 a8 => ?_)
        have hx := bbX (m := m9) hV hqn i (by omega)
        have hF := bbF_r (m := m9) hV hqn i (by omega)
        refine xs_iload_6 eX7_bestBid_27 ?_
        refine xa_bipush eX7_bestBid_29 (by decide) ?_
        refine xa_icmp_gt (tgt := 140) eX7_bestBid_31 (by decide) (by omega) (by decide) (fun c31 => ?_) (fun c31 => ?_)
        · refine xs_iload_3 eX7_bestBid_140 ?_
          exact xa_iret eX7_bestBid_141 rfl ⟨_, rfl, by have h9 := hA; unfold o_bestBid at h9; rw [if_pos c5, if_pos c13, Int.toNat_natCast, Int.toNat_natCast, ← show i = 100 by omega] at h9; exact h9 _ rfl (hx.scr (Or.inl rfl))⟩
        · have hi9 : i < 100 := by omega
          have hV0 := hV.fr hx (by decide)
          have hV1 := bbV (m := m9) hV hqn hx hi9
          have hP := bbP (m := m9) hV hqn hi9
          unfold PQ at hP
          refine xs_aload_0 eX7_bestBid_34 ?_
          refine g_X7_1 eX7_bestBid_35 lRX7_16 ?_
          refine xs_aload_0 eX7_bestBid_38 ?_
          refine g_X7_0 eX7_bestBid_39 lRX7_10 ?_
          refine xbv_V10 (mi' := mX4_copyFrom) (y := yX4_copyFrom) eX7_bestBid_42 (xw_5 lRX7_226 wy_X4_copyFrom) rfl ⟨wd_X4_copyFrom, by decide, by decide⟩ (by decide) (fun _ => rfl) rfl (Nat.le_of_ble_eq_true rfl) rfl (f_X4_copyFrom (u := 0) (s := 1) (by decide) hV0.g.1 h8 hV0.1 (by omega) ?_)
          refine xs_aload_0 eX7_bestBid_45 ?_
          refine g_X7_1 eX7_bestBid_46 lRX7_16 ?_
          refine xs_iload_1 eX7_bestBid_49 ?_
          refine xbo_V10 (mi' := mX4_knownProcess) (y := yX4_knownProcess) eX7_bestBid_50 (xw_5 lRX7_60 wy_X4_knownProcess) rfl ⟨wd_X4_knownProcess, by decide, by decide⟩ (by decide) (fun _ => rfl) rfl (Nat.le_of_ble_eq_true rfl) rfl (kI_X4_knownProcess (s := 1) (n := n) (((hV0.cpy (s := 1) (by decide))).g.1) h8 (by omega) ?_)
          rw [Int.toNat_natCast]
          refine xs_astore_7 eX7_bestBid_53 rfl ?_
          refine xs_aload_7 eX7_bestBid_55 ?_
          refine xs_iload_6 eX7_bestBid_57 ?_
          refine p_X0_2 eX7_bestBid_59 lRX7_64 (by omega) ?_
          refine xs_aload_0 eX7_bestBid_62 ?_
          refine g_X7_1 eX7_bestBid_63 lRX7_16 ?_
          refine xs_iload_2 eX7_bestBid_66 ?_
          refine xbv_V10 (mi' := mX4_pass) (y := yX4_pass) eX7_bestBid_67 (xw_5 lRX7_223 wy_X4_pass) rfl ⟨wd_X4_pass, by decide, by decide⟩ (by decide) (fun _ => rfl) rfl (Nat.le_of_ble_eq_true rfl) rfl (f_X4_pass (s := 1) hV1 (by omega) (by omega) ?_)
          rw [show itr (tckS 1 n N) m9 (up (cpyS 0 1 n N (bbS q9 m9 n N S i)) 4 (8 * 1 + q9) 2 (i : Int)) = bbS q9 m9 n N S (i + 1) from rfl]
          refine xs_iload_3 eX7_bestBid_70 ?_
          refine xa_iconst eX7_bestBid_71 ?_
          refine xa_icmp_eq (tgt := 85) eX7_bestBid_72 (by decide) (by omega) (by decide) (fun c72 => ?_) (fun c72 => ?_)
          · refine xa_iconst eX7_bestBid_85 ?_
            refine xa_goto (tgt := 90) eX7_bestBid_86 (by decide) ?_
            refine xs_istore_8 eX7_bestBid_90 rfl ?_
            refine xs_iload_8 eX7_bestBid_92 ?_
            refine xa_if_ne (tgt := 117) eX7_bestBid_94 (by decide) (by decide) (fun c94 => ?_) (fun c94 => ?_)
            · refine xs_iload_6 eX7_bestBid_117 ?_
              refine xs_istore_3 eX7_bestBid_119 rfl ?_
              refine xs_aload_7 eX7_bestBid_120 ?_
              refine gr_X0_1 eX7_bestBid_122 lRX7_79 (fun r122 => ?_)
              refine xs_istore_4 eX7_bestBid_125 rfl ?_
              refine xs_aload_7 eX7_bestBid_127 ?_
              refine gr_X0_0 eX7_bestBid_129 lRX7_85 (fun r129 => ?_)
              refine xs_istore_5 eX7_bestBid_132 rfl ?_
              refine xs_iinc_6 eX7_bestBid_134 rfl ?_
              refine xa_goto (tgt := 27) eX7_bestBid_137 (by decide) ?_
              first
                | (have e : bbF q9 m9 n N S (i + 1) = if (bbF q9 m9 n N S i).1 = -1 ∨ bbS q9 m9 n N S (i + 1) 4 (8 * 1 + q9) 1 < (bbF q9 m9 n N S i).2.1 ∨ (bbS q9 m9 n N S (i + 1) 4 (8 * 1 + q9) 1 = (bbF q9 m9 n N S i).2.1 ∧ (bbF q9 m9 n N S i).2.2 < bbS q9 m9 n N S (i + 1) 4 (8 * 1 + q9) 0) then ((i : Int), bbS q9 m9 n N S (i + 1) 4 (8 * 1 + q9) 1, bbS q9 m9 n N S (i + 1) 4 (8 * 1 + q9) 0) else bbF q9 m9 n N S i := rfl; rw [if_pos (by omega)] at e; have h9 := ih (i + 1) (by omega) (by omega) (xp 4 (8 * 1 + q9)) (xi 1); rw [e] at h9; exact h9)
                | (have e : bbF q9 m9 n N S (i + 1) = if (bbF q9 m9 n N S i).1 = -1 ∨ bbS q9 m9 n N S (i + 1) 4 (8 * 1 + q9) 1 < (bbF q9 m9 n N S i).2.1 ∨ (bbS q9 m9 n N S (i + 1) 4 (8 * 1 + q9) 1 = (bbF q9 m9 n N S i).2.1 ∧ (bbF q9 m9 n N S i).2.2 < bbS q9 m9 n N S (i + 1) 4 (8 * 1 + q9) 0) then ((i : Int), bbS q9 m9 n N S (i + 1) 4 (8 * 1 + q9) 1, bbS q9 m9 n N S (i + 1) 4 (8 * 1 + q9) 0) else bbF q9 m9 n N S i := rfl; rw [if_neg (by omega)] at e; have h9 := ih (i + 1) (by omega) (by omega) (xp 4 (8 * 1 + q9)) (xi 1); rw [e] at h9; exact h9)
            · exact absurd c94 (by decide)
          · refine xs_aload_7 eX7_bestBid_75 ?_
            refine gr_X0_1 eX7_bestBid_77 lRX7_79 (fun r77 => ?_)
            refine xs_iload_4 eX7_bestBid_80 ?_
            refine xa_icmp_ge (tgt := 89) eX7_bestBid_82 (by decide) (by omega) (by omega) (fun c82 => ?_) (fun c82 => ?_)
            · refine xa_iconst eX7_bestBid_89 ?_
              refine xs_istore_8 eX7_bestBid_90 rfl ?_
              refine xs_iload_8 eX7_bestBid_92 ?_
              refine xa_if_ne (tgt := 117) eX7_bestBid_94 (by decide) (by decide) (fun c94 => ?_) (fun c94 => ?_)
              · exact absurd rfl c94
              · refine xs_aload_7 eX7_bestBid_97 ?_
                refine gr_X0_1 eX7_bestBid_99 lRX7_79 (fun r99 => ?_)
                refine xs_iload_4 eX7_bestBid_102 ?_
                refine xa_icmp_ne (tgt := 134) eX7_bestBid_104 (by decide) (by omega) (by omega) (fun c104 => ?_) (fun c104 => ?_)
                · refine xs_iinc_6 eX7_bestBid_134 rfl ?_
                  refine xa_goto (tgt := 27) eX7_bestBid_137 (by decide) ?_
                  first
                    | (have e : bbF q9 m9 n N S (i + 1) = if (bbF q9 m9 n N S i).1 = -1 ∨ bbS q9 m9 n N S (i + 1) 4 (8 * 1 + q9) 1 < (bbF q9 m9 n N S i).2.1 ∨ (bbS q9 m9 n N S (i + 1) 4 (8 * 1 + q9) 1 = (bbF q9 m9 n N S i).2.1 ∧ (bbF q9 m9 n N S i).2.2 < bbS q9 m9 n N S (i + 1) 4 (8 * 1 + q9) 0) then ((i : Int), bbS q9 m9 n N S (i + 1) 4 (8 * 1 + q9) 1, bbS q9 m9 n N S (i + 1) 4 (8 * 1 + q9) 0) else bbF q9 m9 n N S i := rfl; rw [if_pos (by omega)] at e; have h9 := ih (i + 1) (by omega) (by omega) (xp 4 (8 * 1 + q9)) (xi 0); rw [e] at h9; exact h9)
                    | (have e : bbF q9 m9 n N S (i + 1) = if (bbF q9 m9 n N S i).1 = -1 ∨ bbS q9 m9 n N S (i + 1) 4 (8 * 1 + q9) 1 < (bbF q9 m9 n N S i).2.1 ∨ (bbS q9 m9 n N S (i + 1) 4 (8 * 1 + q9) 1 = (bbF q9 m9 n N S i).2.1 ∧ (bbF q9 m9 n N S i).2.2 < bbS q9 m9 n N S (i + 1) 4 (8 * 1 + q9) 0) then ((i : Int), bbS q9 m9 n N S (i + 1) 4 (8 * 1 + q9) 1, bbS q9 m9 n N S (i + 1) 4 (8 * 1 + q9) 0) else bbF q9 m9 n N S i := rfl; rw [if_neg (by omega)] at e; have h9 := ih (i + 1) (by omega) (by omega) (xp 4 (8 * 1 + q9)) (xi 0); rw [e] at h9; exact h9)
                · refine xs_aload_7 eX7_bestBid_107 ?_
                  refine gr_X0_0 eX7_bestBid_109 lRX7_85 (fun r109 => ?_)
                  refine xs_iload_5 eX7_bestBid_112 ?_
                  refine xa_icmp_le (tgt := 134) eX7_bestBid_114 (by decide) (by omega) (by omega) (fun c114 => ?_) (fun c114 => ?_)
                  · refine xs_iinc_6 eX7_bestBid_134 rfl ?_
                    refine xa_goto (tgt := 27) eX7_bestBid_137 (by decide) ?_
                    first
                      | (have e : bbF q9 m9 n N S (i + 1) = if (bbF q9 m9 n N S i).1 = -1 ∨ bbS q9 m9 n N S (i + 1) 4 (8 * 1 + q9) 1 < (bbF q9 m9 n N S i).2.1 ∨ (bbS q9 m9 n N S (i + 1) 4 (8 * 1 + q9) 1 = (bbF q9 m9 n N S i).2.1 ∧ (bbF q9 m9 n N S i).2.2 < bbS q9 m9 n N S (i + 1) 4 (8 * 1 + q9) 0) then ((i : Int), bbS q9 m9 n N S (i + 1) 4 (8 * 1 + q9) 1, bbS q9 m9 n N S (i + 1) 4 (8 * 1 + q9) 0) else bbF q9 m9 n N S i := rfl; rw [if_pos (by omega)] at e; have h9 := ih (i + 1) (by omega) (by omega) (xp 4 (8 * 1 + q9)) (xi 0); rw [e] at h9; exact h9)
                      | (have e : bbF q9 m9 n N S (i + 1) = if (bbF q9 m9 n N S i).1 = -1 ∨ bbS q9 m9 n N S (i + 1) 4 (8 * 1 + q9) 1 < (bbF q9 m9 n N S i).2.1 ∨ (bbS q9 m9 n N S (i + 1) 4 (8 * 1 + q9) 1 = (bbF q9 m9 n N S i).2.1 ∧ (bbF q9 m9 n N S i).2.2 < bbS q9 m9 n N S (i + 1) 4 (8 * 1 + q9) 0) then ((i : Int), bbS q9 m9 n N S (i + 1) 4 (8 * 1 + q9) 1, bbS q9 m9 n N S (i + 1) 4 (8 * 1 + q9) 0) else bbF q9 m9 n N S i := rfl; rw [if_neg (by omega)] at e; have h9 := ih (i + 1) (by omega) (by omega) (xp 4 (8 * 1 + q9)) (xi 0); rw [e] at h9; exact h9)
                  · refine xs_iload_6 eX7_bestBid_117 ?_
                    refine xs_istore_3 eX7_bestBid_119 rfl ?_
                    refine xs_aload_7 eX7_bestBid_120 ?_
                    refine gr_X0_1 eX7_bestBid_122 lRX7_79 (fun r122 => ?_)
                    refine xs_istore_4 eX7_bestBid_125 rfl ?_
                    refine xs_aload_7 eX7_bestBid_127 ?_
                    refine gr_X0_0 eX7_bestBid_129 lRX7_85 (fun r129 => ?_)
                    refine xs_istore_5 eX7_bestBid_132 rfl ?_
                    refine xs_iinc_6 eX7_bestBid_134 rfl ?_
                    refine xa_goto (tgt := 27) eX7_bestBid_137 (by decide) ?_
                    first
                      | (have e : bbF q9 m9 n N S (i + 1) = if (bbF q9 m9 n N S i).1 = -1 ∨ bbS q9 m9 n N S (i + 1) 4 (8 * 1 + q9) 1 < (bbF q9 m9 n N S i).2.1 ∨ (bbS q9 m9 n N S (i + 1) 4 (8 * 1 + q9) 1 = (bbF q9 m9 n N S i).2.1 ∧ (bbF q9 m9 n N S i).2.2 < bbS q9 m9 n N S (i + 1) 4 (8 * 1 + q9) 0) then ((i : Int), bbS q9 m9 n N S (i + 1) 4 (8 * 1 + q9) 1, bbS q9 m9 n N S (i + 1) 4 (8 * 1 + q9) 0) else bbF q9 m9 n N S i := rfl; rw [if_pos (by omega)] at e; have h9 := ih (i + 1) (by omega) (by omega) (xp 4 (8 * 1 + q9)) (xi 0); rw [e] at h9; exact h9)
                      | (have e : bbF q9 m9 n N S (i + 1) = if (bbF q9 m9 n N S i).1 = -1 ∨ bbS q9 m9 n N S (i + 1) 4 (8 * 1 + q9) 1 < (bbF q9 m9 n N S i).2.1 ∨ (bbS q9 m9 n N S (i + 1) 4 (8 * 1 + q9) 1 = (bbF q9 m9 n N S i).2.1 ∧ (bbF q9 m9 n N S i).2.2 < bbS q9 m9 n N S (i + 1) 4 (8 * 1 + q9) 0) then ((i : Int), bbS q9 m9 n N S (i + 1) 4 (8 * 1 + q9) 1, bbS q9 m9 n N S (i + 1) 4 (8 * 1 + q9) 0) else bbF q9 m9 n N S i := rfl; rw [if_neg (by omega)] at e; have h9 := ih (i + 1) (by omega) (by omega) (xp 4 (8 * 1 + q9)) (xi 0); rw [e] at h9; exact h9)
            · refine xa_iconst eX7_bestBid_85 ?_
              refine xa_goto (tgt := 90) eX7_bestBid_86 (by decide) ?_
              refine xs_istore_8 eX7_bestBid_90 rfl ?_
              refine xs_iload_8 eX7_bestBid_92 ?_
              refine xa_if_ne (tgt := 117) eX7_bestBid_94 (by decide) (by decide) (fun c94 => ?_) (fun c94 => ?_)
              · refine xs_iload_6 eX7_bestBid_117 ?_
                refine xs_istore_3 eX7_bestBid_119 rfl ?_
                refine xs_aload_7 eX7_bestBid_120 ?_
                refine gr_X0_1 eX7_bestBid_122 lRX7_79 (fun r122 => ?_)
                refine xs_istore_4 eX7_bestBid_125 rfl ?_
                refine xs_aload_7 eX7_bestBid_127 ?_
                refine gr_X0_0 eX7_bestBid_129 lRX7_85 (fun r129 => ?_)
                refine xs_istore_5 eX7_bestBid_132 rfl ?_
                refine xs_iinc_6 eX7_bestBid_134 rfl ?_
                refine xa_goto (tgt := 27) eX7_bestBid_137 (by decide) ?_
                first
                  | (have e : bbF q9 m9 n N S (i + 1) = if (bbF q9 m9 n N S i).1 = -1 ∨ bbS q9 m9 n N S (i + 1) 4 (8 * 1 + q9) 1 < (bbF q9 m9 n N S i).2.1 ∨ (bbS q9 m9 n N S (i + 1) 4 (8 * 1 + q9) 1 = (bbF q9 m9 n N S i).2.1 ∧ (bbF q9 m9 n N S i).2.2 < bbS q9 m9 n N S (i + 1) 4 (8 * 1 + q9) 0) then ((i : Int), bbS q9 m9 n N S (i + 1) 4 (8 * 1 + q9) 1, bbS q9 m9 n N S (i + 1) 4 (8 * 1 + q9) 0) else bbF q9 m9 n N S i := rfl; rw [if_pos (by omega)] at e; have h9 := ih (i + 1) (by omega) (by omega) (xp 4 (8 * 1 + q9)) (xi 1); rw [e] at h9; exact h9)
                  | (have e : bbF q9 m9 n N S (i + 1) = if (bbF q9 m9 n N S i).1 = -1 ∨ bbS q9 m9 n N S (i + 1) 4 (8 * 1 + q9) 1 < (bbF q9 m9 n N S i).2.1 ∨ (bbS q9 m9 n N S (i + 1) 4 (8 * 1 + q9) 1 = (bbF q9 m9 n N S i).2.1 ∧ (bbF q9 m9 n N S i).2.2 < bbS q9 m9 n N S (i + 1) 4 (8 * 1 + q9) 0) then ((i : Int), bbS q9 m9 n N S (i + 1) 4 (8 * 1 + q9) 1, bbS q9 m9 n N S (i + 1) 4 (8 * 1 + q9) 0) else bbF q9 m9 n N S i := rfl; rw [if_neg (by omega)] at e; have h9 := ih (i + 1) (by omega) (by omega) (xp 4 (8 * 1 + q9)) (xi 1); rw [e] at h9; exact h9)
              · exact absurd c94 (by decide)
      refine xa_iconst eX7_bestBid_16 ?_
      refine xs_istore_3 eX7_bestBid_17 rfl ?_
      refine xa_iconst eX7_bestBid_18 ?_
      refine xs_istore_4 eX7_bestBid_19 rfl ?_
      refine xa_iconst eX7_bestBid_21 ?_
      refine xs_istore_5 eX7_bestBid_22 rfl ?_
      refine xa_iconst eX7_bestBid_24 ?_
      refine xs_istore_6 eX7_bestBid_25 rfl ?_
      exact lp 0 (by omega) xj xj
    · exact absurd hv (by unfold o_bestBid; (repeat' split); all_goals first | (exact Nat.succ_ne_zero _) | (exfalso; first | contradiction | omega))
  · exact absurd hv (by unfold o_bestBid; (repeat' split); all_goals first | (exact Nat.succ_ne_zero _) | (exfalso; first | contradiction | omega))

set_option maxHeartbeats 400000 in
theorem Z_setBid {w : xW} {S : xS} {B : String → xS → Prop} {A : Int → xS → Prop} {p b : Int} {n N : Nat} {T : Int} (hV : VS 0 n N T S) (hT : T ≤ 800000) (yp : xr p) (yb : xr b)  (hv : (o_setBid p b n N S).1 = 0) (hA : ∀ S', (o_setBid p b n N S).1 = 0 → scr S' (o_setBid p b n N S).2.2.2.2 → A (o_setBid p b n N S).2.1 S')   : Ki w mX7_setBid yX7_setBid 0 0 [xp 0 0, xi p, xi b] S A B := by
  refine K.of rfl rfl rfl rfl (Nat.le_of_ble_eq_true rfl) rfl ?_
  obtain ⟨hVT, hN20, h8, hg, hp, ho, hs⟩ := id hV
  have hn := hg.1
  have hN := hVT.1
  have ht := hVT.2.2.1
  refine xs_aload_0 eX7_setBid_0 ?_
  refine g_X7_0 eX7_setBid_1 lRX7_10 ?_
  refine xs_iload_1 eX7_setBid_4 ?_
  by_cases c5 : 0 ≤ p ∧ p < (n : Int)
  · refine xbo_V10 (mi' := mX4_knownProcess) (y := yX4_knownProcess) eX7_setBid_5 (xw_5 lRX7_60 wy_X4_knownProcess) rfl ⟨wd_X4_knownProcess, by decide, by decide⟩ (by decide) (fun _ => rfl) rfl (Nat.le_of_ble_eq_true rfl) rfl (kI_X4_knownProcess hn h8 c5 ?_)
    refine xs_astore_3 eX7_setBid_8 rfl ?_
    refine xs_iload_2 eX7_setBid_9 ?_
    refine xa_iconst eX7_setBid_10 ?_
    refine xa_bipush eX7_setBid_11 (by decide) ?_
    by_cases c13 : 0 ≤ b ∧ b ≤ 99
    · refine xbv_S30 (mi' := mX7_checkRange) (y := yX7_checkRange) eX7_setBid_13 (xw_4 lRX7_45 wy_X7_checkRange) rfl rfl ⟨wd_X7_checkRange, by decide, by decide⟩ (Nat.le_of_ble_eq_true rfl) rfl (kk_X7_checkRange yb (by decide) (by decide) c13 ?_)
      refine xs_aload_3 eX7_setBid_16 ?_
      refine gr_X0_2 eX7_setBid_17 lRX7_64 (fun r17 => ?_)
      refine xs_istore_4 eX7_setBid_20 rfl ?_
      refine xs_aload_3 eX7_setBid_22 ?_
      refine xs_iload_2 eX7_setBid_23 ?_
      refine p_X0_2 eX7_setBid_24 lRX7_64 (by omega) ?_
      refine xs_iload_4 eX7_setBid_27 ?_
      exact xa_iret eX7_setBid_29 rfl ⟨_, rfl, by have h9 := hA; unfold o_setBid at h9; rw [if_pos c5, if_pos c13] at h9; exact h9 _ rfl scr.rf⟩
    · exact absurd hv (by unfold o_setBid; (repeat' split); all_goals first | (exact Nat.succ_ne_zero _) | (exfalso; first | contradiction | omega))
  · exact absurd hv (by unfold o_setBid; (repeat' split); all_goals first | (exact Nat.succ_ne_zero _) | (exfalso; first | contradiction | omega))
set_option maxHeartbeats 400000 in
theorem Z_addWork {w : xW} {S : xS} {B : String → xS → Prop} {A : Int → xS → Prop} {p t : Int} {n N : Nat} {T : Int} (hV : VS 0 n N T S) (hT : T ≤ 800000) (yp : xr p) (yt : xr t)  (hv : (o_addWork p t n N S).1 = 0) (hA : ∀ S', (o_addWork p t n N S).1 = 0 → scr S' (o_addWork p t n N S).2.2.2.2 → A (o_addWork p t n N S).2.1 S')   : Ki w mX7_addWork yX7_addWork 0 0 [xp 0 0, xi p, xi t] S A B := by
  refine K.of rfl rfl rfl rfl (Nat.le_of_ble_eq_true rfl) rfl ?_
  obtain ⟨hVT, hN20, h8, hg, hp, ho, hs⟩ := id hV
  have hn := hg.1
  have hN := hVT.1
  have ht := hVT.2.2.1
  refine xs_aload_0 eX7_addWork_0 ?_
  refine g_X7_0 eX7_addWork_1 lRX7_10 ?_
  refine xs_iload_1 eX7_addWork_4 ?_
  by_cases c5 : 0 ≤ p ∧ p < (n : Int)
  · refine xbo_V10 (mi' := mX4_knownProcess) (y := yX4_knownProcess) eX7_addWork_5 (xw_5 lRX7_60 wy_X4_knownProcess) rfl ⟨wd_X4_knownProcess, by decide, by decide⟩ (by decide) (fun _ => rfl) rfl (Nat.le_of_ble_eq_true rfl) rfl (kI_X4_knownProcess hn h8 c5 ?_)
    refine xs_astore_3 eX7_addWork_8 rfl ?_
    refine xs_iload_2 eX7_addWork_9 ?_
    refine xa_iconst eX7_addWork_10 ?_
    refine xa_sipush eX7_addWork_11 (by decide) ?_
    by_cases c14 : 1 ≤ t ∧ t ≤ 1000
    · refine xbv_S30 (mi' := mX7_checkRange) (y := yX7_checkRange) eX7_addWork_14 (xw_4 lRX7_45 wy_X7_checkRange) rfl rfl ⟨wd_X7_checkRange, by decide, by decide⟩ (Nat.le_of_ble_eq_true rfl) rfl (kk_X7_checkRange yt (by decide) (by decide) c14 ?_)
      refine xs_aload_3 eX7_addWork_17 ?_
      refine xs_iload_2 eX7_addWork_18 ?_
      refine xbv_V10 (mi' := mX0_takeWork) (y := yX0_takeWork) eX7_addWork_19 (xw_5 lRX7_75 wy_X0_takeWork) rfl ⟨wd_X0_takeWork, by decide, by decide⟩ (by decide) (fun _ => rfl) rfl (Nat.le_of_ble_eq_true rfl) rfl (k_X0_takeWork (by have h9 := hp p.toNat (by omega); unfold PQ at h9; omega) ?_)
      refine xs_aload_3 eX7_addWork_22 ?_
      refine gr_X0_1 eX7_addWork_23 lRX7_79 (fun r23 => ?_)
      try simp (decide := true) only [up_app, if_true, and_true, true_and] at r23 ⊢
      exact xa_iret eX7_addWork_26 rfl ⟨_, rfl, by have h9 := hA; unfold o_addWork at h9; rw [if_pos c5, if_pos c14] at h9; exact h9 _ rfl scr.rf⟩
    · exact absurd hv (by unfold o_addWork; (repeat' split); all_goals first | (exact Nat.succ_ne_zero _) | (exfalso; first | contradiction | omega))
  · exact absurd hv (by unfold o_addWork; (repeat' split); all_goals first | (exact Nat.succ_ne_zero _) | (exfalso; first | contradiction | omega))
set_option maxHeartbeats 400000 in
theorem Z_addProcess {w : xW} {S : xS} {B : String → xS → Prop} {A : Int → xS → Prop} {a b c : Int} {n N : Nat} {T : Int} (hV : VS 0 n N T S) (hT : T ≤ 800000) (ya : xr a) (yb : xr b) (yc : xr c)  (hv : (o_addProcess a b c n N S).1 = 0) (hA : ∀ S', (o_addProcess a b c n N S).1 = 0 → scr S' (o_addProcess a b c n N S).2.2.2.2 → A (o_addProcess a b c n N S).2.1 S')   : Ki w mX7_addProcess yX7_addProcess 0 0 [xp 0 0, xi a, xi b, xi c] S A B := by
  refine K.of rfl rfl rfl rfl (Nat.le_of_ble_eq_true rfl) rfl ?_
  obtain ⟨hVT, hN20, h8, hg, hp, ho, hs⟩ := id hV
  have hn := hg.1
  have hN := hVT.1
  have ht := hVT.2.2.1
  refine xs_iload_1 eX7_addProcess_0 ?_
  refine xa_iconst eX7_addProcess_1 ?_
  refine xa_ldc (a := 1000000) eX7_addProcess_2 lRX7_44 (by decide) ?_
  by_cases c4 : 0 ≤ a ∧ a ≤ 1000000
  · refine xbv_S30 (mi' := mX7_checkRange) (y := yX7_checkRange) eX7_addProcess_4 (xw_4 lRX7_45 wy_X7_checkRange) rfl rfl ⟨wd_X7_checkRange, by decide, by decide⟩ (Nat.le_of_ble_eq_true rfl) rfl (kk_X7_checkRange ya (by decide) (by decide) c4 ?_)
    refine xs_iload_2 eX7_addProcess_7 ?_
    refine xa_iconst eX7_addProcess_8 ?_
    refine xa_sipush eX7_addProcess_9 (by decide) ?_
    by_cases c12 : 0 ≤ b ∧ b ≤ 9999
    · refine xbv_S30 (mi' := mX7_checkRange) (y := yX7_checkRange) eX7_addProcess_12 (xw_4 lRX7_45 wy_X7_checkRange) rfl rfl ⟨wd_X7_checkRange, by decide, by decide⟩ (Nat.le_of_ble_eq_true rfl) rfl (kk_X7_checkRange yb (by decide) (by decide) c12 ?_)
      refine xs_iload_3 eX7_addProcess_15 ?_
      refine xa_iconst eX7_addProcess_16 ?_
      refine xa_bipush eX7_addProcess_17 (by decide) ?_
      by_cases c19 : 0 ≤ c ∧ c ≤ 99
      · refine xbv_S30 (mi' := mX7_checkRange) (y := yX7_checkRange) eX7_addProcess_19 (xw_4 lRX7_45 wy_X7_checkRange) rfl rfl ⟨wd_X7_checkRange, by decide, by decide⟩ (Nat.le_of_ble_eq_true rfl) rfl (kk_X7_checkRange yc (by decide) (by decide) c19 ?_)
        refine xs_aload_0 eX7_addProcess_22 ?_
        refine g_X7_0 eX7_addProcess_23 lRX7_10 ?_
        refine gr_X4_3 eX7_addProcess_26 lRX7_49 (fun r26 => ?_)
        try rw [hn] at r26 ⊢
        refine xa_bipush eX7_addProcess_29 (by decide) ?_
        refine xa_icmp_ge (tgt := 38) eX7_addProcess_31 (by decide) (by omega) (by omega) (fun c31 => ?_) (fun c31 => ?_)
        · refine xa_iconst eX7_addProcess_38 ?_
          exact absurd hv (by unfold o_addProcess; (repeat' split); all_goals first | (exact Nat.succ_ne_zero _) | (exfalso; first | contradiction | omega))
        · refine xa_iconst eX7_addProcess_34 ?_
          refine xa_goto (tgt := 39) eX7_addProcess_35 (by decide) ?_
          refine xbv_S10 (mi' := mX7_checkState) (y := yX7_checkState) eX7_addProcess_39 (xw_4 lRX7_53 wy_X7_checkState) rfl rfl ⟨wd_X7_checkState, by decide, by decide⟩ (Nat.le_of_ble_eq_true rfl) rfl (kk_X7_checkState (P := True) trivial ?_)
          refine xs_aload_0 eX7_addProcess_42 ?_
          refine g_X7_0 eX7_addProcess_43 lRX7_10 ?_
          refine xs_iload_1 eX7_addProcess_46 ?_
          refine xs_iload_2 eX7_addProcess_47 ?_
          refine xs_iload_3 eX7_addProcess_48 ?_
          refine xbv_V30 (mi' := mX4_enter) (y := yX4_enter) eX7_addProcess_49 (xw_5 lRX7_57 wy_X4_enter) rfl ⟨wd_X4_enter, by decide, by decide⟩ (by decide) (fun _ => rfl) rfl (Nat.le_of_ble_eq_true rfl) rfl (f_X4_enter hn (by omega) c4 c12 c19 ?_)
          refine xs_aload_0 eX7_addProcess_52 ?_
          refine g_X7_0 eX7_addProcess_53 lRX7_10 ?_
          refine gr_X4_3 eX7_addProcess_56 lRX7_49 (fun r56 => ?_)
          try simp (decide := true) only [entS, up_app, if_true, and_true, true_and] at r56 ⊢
          refine xa_iconst eX7_addProcess_59 ?_
          refine xa_isub eX7_addProcess_60 ?_
          exact xa_iret eX7_addProcess_61 rfl ⟨_, rfl, by have h9 := hA; unfold o_addProcess at h9; rw [if_pos c4, if_pos c12, if_pos c19, if_pos (by omega)] at h9; have h7 := h9 _ rfl scr.rf; unfold entS at h7; rw [show (n : Int) + 1 - 1 = (n : Int) by omega]; exact h7⟩
      · exact absurd hv (by unfold o_addProcess; (repeat' split); all_goals first | (exact Nat.succ_ne_zero _) | (exfalso; first | contradiction | omega))
    · exact absurd hv (by unfold o_addProcess; (repeat' split); all_goals first | (exact Nat.succ_ne_zero _) | (exfalso; first | contradiction | omega))
  · exact absurd hv (by unfold o_addProcess; (repeat' split); all_goals first | (exact Nat.succ_ne_zero _) | (exfalso; first | contradiction | omega))
set_option maxHeartbeats 400000 in
theorem Z_buyCheapest {w : xW} {S : xS} {B : String → xS → Prop} {A : Int → xS → Prop} {q : Int} {n N : Nat} {T : Int} (hV : VS 0 n N T S) (hT : T ≤ 800000) (yq : xr q)  (hv : (o_buyCheapest q n N S).1 = 0) (hA : ∀ S', (o_buyCheapest q n N S).1 = 0 → scr S' (o_buyCheapest q n N S).2.2.2.2 → A (o_buyCheapest q n N S).2.1 S')  : Ki w mX7_buyCheapest yX7_buyCheapest 0 0 [xp 0 0, xi q] S A B := by
  refine K.of rfl rfl rfl rfl (Nat.le_of_ble_eq_true rfl) rfl ?_
  obtain ⟨hVT, hN20, h8, hg, hp, ho, hs⟩ := id hV
  have hn := hg.1
  have hN := hVT.1
  have ht := hVT.2.2.1
  refine xs_aload_0 eX7_buyCheapest_0 ?_
  refine g_X7_0 eX7_buyCheapest_1 lRX7_10 ?_
  refine xs_iload_1 eX7_buyCheapest_4 ?_
  by_cases c5 : 0 ≤ q ∧ q < (n : Int)
  · refine xbo_V10 (mi' := mX4_knownProcess) (y := yX4_knownProcess) eX7_buyCheapest_5 (xw_5 lRX7_60 wy_X4_knownProcess) rfl ⟨wd_X4_knownProcess, by decide, by decide⟩ (by decide) (fun _ => rfl) rfl (Nat.le_of_ble_eq_true rfl) rfl (kI_X4_knownProcess hn h8 c5 ?_)
    obtain ⟨q9, rfl⟩ : ∃ q9 : Nat, q = (q9 : Int) := ⟨q.toNat, by omega⟩
    have hqn : q9 < n := by omega
    refine xa_pop eX7_buyCheapest_8 rfl ?_
    refine xs_aload_0 eX7_buyCheapest_9 ?_
    refine g_X7_0 eX7_buyCheapest_10 lRX7_10 ?_
    refine xs_iload_1 eX7_buyCheapest_13 ?_
    refine xbi_V10 (mi' := mX4_cheapestFor) (y := yX4_cheapestFor) eX7_buyCheapest_14 (xw_5 lRX7_184 wy_X4_cheapestFor) rfl ⟨wd_X4_cheapestFor, by decide, by decide⟩ (by decide) (fun _ => rfl) rfl (Nat.le_of_ble_eq_true rfl) rfl (f_X4_cheapestFor (s := 0) hn h8 hN (by omega) hqn (fun eb => ?_) (fun b eb => ?_))
    · refine xs_istore_2 eX7_buyCheapest_17 rfl ?_
      refine xs_iload_2 eX7_buyCheapest_18 ?_
      refine xa_iconst eX7_buyCheapest_19 ?_
      refine xa_icmp_eq (tgt := 42) eX7_buyCheapest_20 (by decide) (by omega) (by decide) (fun c20 => ?_) (fun c20 => ?_)
      · refine xs_iload_2 eX7_buyCheapest_42 ?_
        exact xa_iret eX7_buyCheapest_43 rfl ⟨_, rfl, by have h9 := hA; unfold o_buyCheapest at h9; rw [if_pos c5, Int.toNat_natCast, eb] at h9; exact h9 _ rfl scr.rf⟩
      · exact absurd rfl c20
    · have hlt := chpS_lt eb
      have hOb := ho b hlt.1
      unfold OQ at hOb
      obtain ⟨o9, eo⟩ : ∃ o9 : Nat, S 10 (32 * 0 + b) 1 = (o9 : Int) := ⟨(S 10 (32 * 0 + b) 1).toNat, by omega⟩
      refine xs_istore_2 eX7_buyCheapest_17 rfl ?_
      refine xs_iload_2 eX7_buyCheapest_18 ?_
      refine xa_iconst eX7_buyCheapest_19 ?_
      refine xa_icmp_eq (tgt := 42) eX7_buyCheapest_20 (by decide) (by omega) (by decide) (fun c20 => ?_) (fun c20 => ?_)
      · exact absurd c20 (by omega)
      · refine xs_aload_0 eX7_buyCheapest_23 ?_
        refine g_X7_0 eX7_buyCheapest_24 lRX7_10 ?_
        refine xs_aload_0 eX7_buyCheapest_27 ?_
        refine g_X7_0 eX7_buyCheapest_28 lRX7_10 ?_
        refine g_X4_0 eX7_buyCheapest_31 lRX7_88 ?_
        refine xs_iload_2 eX7_buyCheapest_34 ?_
        refine xbo_V10 (mi' := mX5_knownPromise) (y := yX5_knownPromise) eX7_buyCheapest_35 (xw_5 lRX7_126 wy_X5_knownPromise) rfl ⟨wd_X5_knownPromise, by decide, by decide⟩ (by decide) (fun _ => rfl) rfl (Nat.le_of_ble_eq_true rfl) rfl (kI_X5_knownPromise hN (by omega) (by omega) ?_)
        rw [Int.toNat_natCast]
        refine xs_iload_1 eX7_buyCheapest_38 ?_
        refine xbv_V20 (mi' := mX4_sell) (y := yX4_sell) eX7_buyCheapest_39 (xw_5 lRX7_181 wy_X4_sell) rfl ⟨wd_X4_sell, by decide, by decide⟩ (by decide) (fun _ => rfl) rfl (Nat.le_of_ble_eq_true rfl) rfl (f_X4_sell (o := o9) hV (by omega) hlt.1 hqn (by omega) hlt.2.2.2 eo (by intro z; exact hlt.2.2.1 (by rw [eo, z])) ?_)
        refine xs_iload_2 eX7_buyCheapest_42 ?_
        exact xa_iret eX7_buyCheapest_43 rfl ⟨_, rfl, by have h9 := hA; unfold o_buyCheapest at h9; rw [if_pos c5, Int.toNat_natCast, eb] at h9; dsimp only at h9; rw [eo, Int.toNat_natCast] at h9; exact h9 _ rfl scr.rf⟩
  · exact absurd hv (by unfold o_buyCheapest; (repeat' split); all_goals first | (exact Nat.succ_ne_zero _) | (exfalso; first | contradiction | omega))
set_option maxHeartbeats 400000 in
theorem Z_setArrival {w : xW} {S : xS} {B : String → xS → Prop} {A : xS → Prop} {p e a : Int} {n N : Nat} {T : Int} (hV : VS 0 n N T S) (hT : T ≤ 800000) (yp : xr p) (ye : xr e) (ya : xr a)  (hv : (o_setArrival p e a n N S).1 = 0) (hA : ∀ S', (o_setArrival p e a n N S).1 = 0 → scr S' (o_setArrival p e a n N S).2.2.2.2 → A S')   : Kv w mX7_setArrival yX7_setArrival 0 0 [xp 0 0, xi p, xi e, xi a] S A B := by
  refine K.of rfl rfl rfl rfl (Nat.le_of_ble_eq_true rfl) rfl ?_
  obtain ⟨hVT, hN20, h8, hg, hp, ho, hs⟩ := id hV
  have hn := hg.1
  have hN := hVT.1
  have ht := hVT.2.2.1
  refine xs_aload_0 eX7_setArrival_0 ?_
  refine g_X7_0 eX7_setArrival_1 lRX7_10 ?_
  refine xs_iload_1 eX7_setArrival_4 ?_
  by_cases c5 : 0 ≤ p ∧ p < (n : Int)
  · refine xbo_V10 (mi' := mX4_knownProcess) (y := yX4_knownProcess) eX7_setArrival_5 (xw_5 lRX7_60 wy_X4_knownProcess) rfl ⟨wd_X4_knownProcess, by decide, by decide⟩ (by decide) (fun _ => rfl) rfl (Nat.le_of_ble_eq_true rfl) rfl (kI_X4_knownProcess hn h8 c5 ?_)
    refine xs_astore_4 eX7_setArrival_8 rfl ?_
    refine xs_iload_2 eX7_setArrival_10 ?_
    refine xa_iconst eX7_setArrival_11 ?_
    refine xa_bipush eX7_setArrival_12 (by decide) ?_
    by_cases c14 : 0 ≤ e ∧ e ≤ 60
    · refine xbv_S30 (mi' := mX7_checkRange) (y := yX7_checkRange) eX7_setArrival_14 (xw_4 lRX7_45 wy_X7_checkRange) rfl rfl ⟨wd_X7_checkRange, by decide, by decide⟩ (Nat.le_of_ble_eq_true rfl) rfl (kk_X7_checkRange ye (by decide) (by decide) c14 ?_)
      refine xs_iload_3 eX7_setArrival_17 ?_
      refine xa_iconst eX7_setArrival_18 ?_
      refine xa_bipush eX7_setArrival_19 (by decide) ?_
      by_cases c21 : 0 ≤ a ∧ a ≤ 60
      · refine xbv_S30 (mi' := mX7_checkRange) (y := yX7_checkRange) eX7_setArrival_21 (xw_4 lRX7_45 wy_X7_checkRange) rfl rfl ⟨wd_X7_checkRange, by decide, by decide⟩ (Nat.le_of_ble_eq_true rfl) rfl (kk_X7_checkRange ya (by decide) (by decide) c21 ?_)
        refine xs_aload_4 eX7_setArrival_24 ?_
        refine xs_iload_2 eX7_setArrival_26 ?_
        refine p_X0_3 eX7_setArrival_27 lRX7_69 (by omega) ?_
        refine xs_aload_4 eX7_setArrival_30 ?_
        refine xs_iload_3 eX7_setArrival_32 ?_
        refine p_X0_4 eX7_setArrival_33 lRX7_72 (by omega) ?_
        exact xa_vret eX7_setArrival_36 rfl ⟨rfl, by have h9 := hA; unfold o_setArrival at h9; rw [if_pos c5, if_pos c14, if_pos c21] at h9; exact h9 _ rfl scr.rf⟩
      · exact absurd hv (by unfold o_setArrival; (repeat' split); all_goals first | (exact Nat.succ_ne_zero _) | (exfalso; first | contradiction | omega))
    · exact absurd hv (by unfold o_setArrival; (repeat' split); all_goals first | (exact Nat.succ_ne_zero _) | (exfalso; first | contradiction | omega))
  · exact absurd hv (by unfold o_setArrival; (repeat' split); all_goals first | (exact Nat.succ_ne_zero _) | (exfalso; first | contradiction | omega))
set_option maxHeartbeats 400000 in
theorem Z_setRules {w : xW} {S : xS} {B : String → xS → Prop} {A : xS → Prop} {p f : Int} {n N : Nat} {T : Int} (hV : VS 0 n N T S) (hT : T ≤ 800000) (yp : xr p) (yf : xr f)  (hv : (o_setRules p f n N S).1 = 0) (hA : ∀ S', (o_setRules p f n N S).1 = 0 → scr S' (o_setRules p f n N S).2.2.2.2 → A S')  : Kv w mX7_setRules yX7_setRules 0 0 [xp 0 0, xi p, xi f] S A B := by
  refine K.of rfl rfl rfl rfl (Nat.le_of_ble_eq_true rfl) rfl ?_
  obtain ⟨hVT, hN20, h8, hg, hp, ho, hs⟩ := id hV
  have hn := hg.1
  have hN := hVT.1
  have ht := hVT.2.2.1
  refine xs_iload_1 eX7_setRules_0 ?_
  refine xa_iconst eX7_setRules_1 ?_
  refine xa_bipush eX7_setRules_2 (by decide) ?_
  by_cases c4 : 0 ≤ p ∧ p ≤ 99
  · refine xbv_S30 (mi' := mX7_checkRange) (y := yX7_checkRange) eX7_setRules_4 (xw_4 lRX7_45 wy_X7_checkRange) rfl rfl ⟨wd_X7_checkRange, by decide, by decide⟩ (Nat.le_of_ble_eq_true rfl) rfl (kk_X7_checkRange yp (by decide) (by decide) c4 ?_)
    refine xs_iload_2 eX7_setRules_7 ?_
    refine xa_iconst eX7_setRules_8 ?_
    refine xa_bipush eX7_setRules_9 (by decide) ?_
    by_cases c11 : 0 ≤ f ∧ f ≤ 50
    · refine xbv_S30 (mi' := mX7_checkRange) (y := yX7_checkRange) eX7_setRules_11 (xw_4 lRX7_45 wy_X7_checkRange) rfl rfl ⟨wd_X7_checkRange, by decide, by decide⟩ (Nat.le_of_ble_eq_true rfl) rfl (kk_X7_checkRange yf (by decide) (by decide) c11 ?_)
      refine xs_aload_0 eX7_setRules_14 ?_
      refine g_X7_0 eX7_setRules_15 lRX7_10 ?_
      refine xs_iload_1 eX7_setRules_18 ?_
      refine p_X4_4 eX7_setRules_19 lRX7_209 (by omega) ?_
      refine xs_aload_0 eX7_setRules_22 ?_
      refine g_X7_0 eX7_setRules_23 lRX7_10 ?_
      refine xs_iload_2 eX7_setRules_26 ?_
      refine p_X4_5 eX7_setRules_27 lRX7_212 (by omega) ?_
      exact xa_vret eX7_setRules_30 rfl ⟨rfl, by have h9 := hA; unfold o_setRules at h9; rw [if_pos c4, if_pos c11] at h9; exact h9 _ rfl scr.rf⟩
    · exact absurd hv (by unfold o_setRules; (repeat' split); all_goals first | (exact Nat.succ_ne_zero _) | (exfalso; first | contradiction | omega))
  · exact absurd hv (by unfold o_setRules; (repeat' split); all_goals first | (exact Nat.succ_ne_zero _) | (exfalso; first | contradiction | omega))
