/-! promises 11 to 14 -/
set_option maxHeartbeats 400000 in
theorem F_told {w : xW} {S : xS} {B : String → xS → Prop} {A : Int → xS → Prop} {j a : Int} {n N : Nat} {T : Int} (hV : VS 0 n N T S) (hT : T ≤ 800000) (yj : xr j) (ya : xr a)  (hA : ∀ S', (o_told j a n N S).1 = 0 → scr S' (o_told j a n N S).2.2.2.2 → A (o_told j a n N S).2.1 S') (hB1 : ∀ S', (o_told j a n N S).1 = 1 → scr S' S → B "java/lang/IndexOutOfBoundsException" S') (hB2 : ∀ S', (o_told j a n N S).1 = 2 → scr S' S → B "java/lang/IllegalArgumentException" S') : Ki w mX7_told yX7_told 1 6 [xp 0 0, xi j, xi a] S A B := by
  refine K.of rfl rfl rfl rfl (Nat.le_of_ble_eq_true rfl) rfl ?_
  obtain ⟨hVT, hN20, h8, hg, hp, ho, hs⟩ := id hV
  have hn := hg.1
  have hN := hVT.1
  have ht := hVT.2.2.1
  refine xs_aload_0 eX7_told_0 ?_
  refine g_X7_0 eX7_told_1 lRX7_10 ?_
  refine g_X4_0 eX7_told_4 lRX7_88 ?_
  refine xs_iload_1 eX7_told_7 ?_
  by_cases c8 : 0 ≤ j ∧ j < (N : Int)
  · refine xbo_V10 (mi' := mX5_knownPromise) (y := yX5_knownPromise) eX7_told_8 (xw_5 lRX7_126 wy_X5_knownPromise) rfl ⟨wd_X5_knownPromise, by decide, by decide⟩ (by decide) (fun _ => rfl) rfl (Nat.le_of_ble_eq_true rfl) rfl (kI_X5_knownPromise hN (by omega) c8 ?_)
    have hTQ := hVT.2.2.2 j.toNat (by omega)
    unfold TQ at hTQ
    refine xs_astore_3 eX7_told_11 rfl ?_
    refine xs_iload_2 eX7_told_12 ?_
    refine xa_iconst eX7_told_13 ?_
    refine xa_bipush eX7_told_14 (by decide) ?_
    by_cases c16 : 0 ≤ a ∧ a ≤ 16
    · refine xbv_S30 (mi' := mX7_checkRange) (y := yX7_checkRange) eX7_told_16 (xw_4 lRX7_45 wy_X7_checkRange) rfl rfl ⟨wd_X7_checkRange, by decide, by decide⟩ (Nat.le_of_ble_eq_true rfl) rfl (kk_X7_checkRange ya (by decide) (by decide) c16 ?_)
      refine xs_aload_3 eX7_told_19 ?_
      refine xs_iload_2 eX7_told_20 ?_
      refine xs_aload_0 eX7_told_21 ?_
      refine g_X7_0 eX7_told_22 lRX7_10 ?_
      refine g_X4_0 eX7_told_25 lRX7_88 ?_
      refine gr_X5_2 eX7_told_28 lRX7_147 (fun r28 => ?_)
      refine xbi_V20 (mi' := mX1_figure) (y := yX1_figure) eX7_told_31 (xw_5 lRX7_150 wy_X1_figure) rfl ⟨wd_X1_figure, by decide, by decide⟩ (by decide) (fun _ => rfl) rfl (Nat.le_of_ble_eq_true rfl) rfl (k_X1_figure (by omega) (by omega) hTQ.1 ?_)
      exact xa_iret eX7_told_34 rfl ⟨_, rfl, by have h9 := hA; unfold o_told at h9; rw [if_pos c8, if_pos c16] at h9; exact h9 _ rfl scr.rf⟩
    · exact xbv_S3 (mi' := mX7_checkRange) (y := yX7_checkRange) eX7_told_16 (xw_4 lRX7_45 wy_X7_checkRange) rfl rfl ⟨wd_X7_checkRange, by decide, by decide⟩ (Nat.le_of_ble_eq_true rfl) rfl ⟨by decide, by decide⟩ (kt_X7_checkRange ya (by decide) (by decide) c16 (xt_out rfl (hB2 S (by unfold o_told; rw [if_pos c8, if_neg c16]) scr.rf)))
  · exact xbo_V1 (mi' := mX5_knownPromise) (y := yX5_knownPromise) eX7_told_8 (xw_5 lRX7_126 wy_X5_knownPromise) rfl ⟨wd_X5_knownPromise, by decide, by decide⟩ (by decide) (fun _ => rfl) rfl (Nat.le_of_ble_eq_true rfl) rfl ⟨by decide, by decide⟩ (kt_X5_knownPromise hN (by omega) yj c8 (xt_out rfl (hB1 S (by unfold o_told; rw [if_neg c8]) scr.rf)))
set_option maxHeartbeats 400000 in
theorem F_end {w : xW} {S : xS} {B : String → xS → Prop} {A : Int → xS → Prop} {j : Int} {n N : Nat} {T : Int} (hV : VS 0 n N T S) (hT : T ≤ 800000) (yj : xr j)  (hA : ∀ S', (o_end j n N S).1 = 0 → scr S' (o_end j n N S).2.2.2.2 → A (o_end j n N S).2.1 S') (hB1 : ∀ S', (o_end j n N S).1 = 1 → scr S' S → B "java/lang/IndexOutOfBoundsException" S') (hB2 : ∀ S', (o_end j n N S).1 = 2 → scr S' S → B "java/lang/IllegalStateException" S') : Ki w mX7_end yX7_end 1 6 [xp 0 0, xi j] S A B := by
  refine K.of rfl rfl rfl rfl (Nat.le_of_ble_eq_true rfl) rfl ?_
  obtain ⟨hVT, hN20, h8, hg, hp, ho, hs⟩ := id hV
  have hn := hg.1
  have hN := hVT.1
  have ht := hVT.2.2.1
  refine xs_aload_0 eX7_end_0 ?_
  refine g_X7_0 eX7_end_1 lRX7_10 ?_
  refine g_X4_0 eX7_end_4 lRX7_88 ?_
  refine xs_iload_1 eX7_end_7 ?_
  by_cases c8 : 0 ≤ j ∧ j < (N : Int)
  · refine xbo_V10 (mi' := mX5_knownPromise) (y := yX5_knownPromise) eX7_end_8 (xw_5 lRX7_126 wy_X5_knownPromise) rfl ⟨wd_X5_knownPromise, by decide, by decide⟩ (by decide) (fun _ => rfl) rfl (Nat.le_of_ble_eq_true rfl) rfl (kI_X5_knownPromise hN (by omega) c8 ?_)
    have hTQ := hVT.2.2.2 j.toNat (by omega)
    unfold TQ at hTQ
    refine xs_astore_2 eX7_end_11 rfl ?_
    refine xs_aload_2 eX7_end_12 ?_
    refine gr_X1_0 eX7_end_13 lRX7_130 (fun r13 => ?_)
    refine xa_if_ne (tgt := 23) eX7_end_16 (by decide) (by omega) (fun c16 => ?_) (fun c16 => ?_)
    · refine xa_iconst eX7_end_23 ?_
      exact xbv_S1 (mi' := mX7_checkState) (y := yX7_checkState) eX7_end_24 (xw_4 lRX7_53 wy_X7_checkState) rfl rfl ⟨wd_X7_checkState, by decide, by decide⟩ (Nat.le_of_ble_eq_true rfl) rfl ⟨by decide, by decide⟩ (kt_X7_checkState (P := False) id (xt_out rfl (hB2 S (by unfold o_end; rw [if_pos c8, if_neg (by omega)]) scr.rf)))
    · refine xa_iconst eX7_end_19 ?_
      refine xa_goto (tgt := 24) eX7_end_20 (by decide) ?_
      refine xbv_S10 (mi' := mX7_checkState) (y := yX7_checkState) eX7_end_24 (xw_4 lRX7_53 wy_X7_checkState) rfl rfl ⟨wd_X7_checkState, by decide, by decide⟩ (Nat.le_of_ble_eq_true rfl) rfl (kk_X7_checkState (P := True) trivial ?_)
      refine xs_aload_2 eX7_end_27 ?_
      refine xbi_V00 (mi' := mX1_finish) (y := yX1_finish) eX7_end_28 (xw_5 lRX7_136 wy_X1_finish) rfl ⟨wd_X1_finish, by decide, by decide⟩ (by decide) (fun _ => rfl) rfl (Nat.le_of_ble_eq_true rfl) rfl (f_X1_finish ?_)
      exact xa_iret eX7_end_31 rfl ⟨_, rfl, by have h9 := hA; unfold o_end at h9; rw [if_pos c8, if_pos (by omega)] at h9; exact h9 _ rfl scr.rf⟩
  · exact xbo_V1 (mi' := mX5_knownPromise) (y := yX5_knownPromise) eX7_end_8 (xw_5 lRX7_126 wy_X5_knownPromise) rfl ⟨wd_X5_knownPromise, by decide, by decide⟩ (by decide) (fun _ => rfl) rfl (Nat.le_of_ble_eq_true rfl) rfl ⟨by decide, by decide⟩ (kt_X5_knownPromise hN (by omega) yj c8 (xt_out rfl (hB1 S (by unfold o_end; rw [if_neg c8]) scr.rf)))
theorem dv21 {N j : Nat} {a : Int} {S : xS} : divS 0 N j a S 2 0 1 = (N : Int) + 1 := by unfold divS; rw [if_neg (by omega), if_neg (by omega), if_pos ⟨rfl, rfl, rfl⟩]
set_option maxHeartbeats 400000 in
theorem F_split {w : xW} {S : xS} {B : String → xS → Prop} {A : Int → xS → Prop} {j a : Int} {n N : Nat} {T : Int} (hV : VS 0 n N T S) (hT : T ≤ 800000) (yj : xr j) (ya : xr a)  (hA : ∀ S', (o_split j a n N S).1 = 0 → scr S' (o_split j a n N S).2.2.2.2 → A (o_split j a n N S).2.1 S') (hB1 : ∀ S', (o_split j a n N S).1 = 1 → scr S' S → B "java/lang/IndexOutOfBoundsException" S') (hB2 : ∀ S', (o_split j a n N S).1 = 2 → scr S' S → B "java/lang/IllegalArgumentException" S') (hB3 : ∀ S', (o_split j a n N S).1 = 3 → scr S' S → B "java/lang/IllegalStateException" S') : Ki w mX7_split yX7_split 1 6 [xp 0 0, xi j, xi a] S A B := by
  refine K.of rfl rfl rfl rfl (Nat.le_of_ble_eq_true rfl) rfl ?_
  obtain ⟨hVT, hN20, h8, hg, hp, ho, hs⟩ := id hV
  have hn := hg.1
  have hN := hVT.1
  have ht := hVT.2.2.1
  refine xs_aload_0 eX7_split_0 ?_
  refine g_X7_0 eX7_split_1 lRX7_10 ?_
  refine g_X4_0 eX7_split_4 lRX7_88 ?_
  refine xs_iload_1 eX7_split_7 ?_
  by_cases c8 : 0 ≤ j ∧ j < (N : Int)
  · refine xbo_V10 (mi' := mX5_knownPromise) (y := yX5_knownPromise) eX7_split_8 (xw_5 lRX7_126 wy_X5_knownPromise) rfl ⟨wd_X5_knownPromise, by decide, by decide⟩ (by decide) (fun _ => rfl) rfl (Nat.le_of_ble_eq_true rfl) rfl (kI_X5_knownPromise hN (by omega) c8 ?_)
    have hTQ := hVT.2.2.2 j.toNat (by omega)
    unfold TQ at hTQ
    refine xs_astore_3 eX7_split_11 rfl ?_
    refine xs_iload_2 eX7_split_12 ?_
    refine xa_iconst eX7_split_13 ?_
    refine xs_aload_3 eX7_split_14 ?_
    refine gr_X1_3 eX7_split_15 lRX7_140 (fun r15 => ?_)
    try rw [hN] at r15 ⊢
    refine xa_iconst eX7_split_18 ?_
    refine xa_isub eX7_split_19 ?_
    by_cases c20 : 1 ≤ a ∧ a ≤ S 10 (32 * 0 + j.toNat) 3 - 1
    · refine xbv_S30 (mi' := mX7_checkRange) (y := yX7_checkRange) eX7_split_20 (xw_4 lRX7_45 wy_X7_checkRange) rfl rfl ⟨wd_X7_checkRange, by decide, by decide⟩ (Nat.le_of_ble_eq_true rfl) rfl (kk_X7_checkRange ya (by decide) (by omega) c20 ?_)
      refine xs_aload_3 eX7_split_23 ?_
      refine gr_X1_0 eX7_split_24 lRX7_130 (fun r24 => ?_)
      try rw [hN] at r24 ⊢
      refine xa_if_ne (tgt := 49) eX7_split_27 (by decide) (by omega) (fun c27 => ?_) (fun c27 => ?_)
      · refine xa_iconst eX7_split_49 ?_
        exact xbv_S1 (mi' := mX7_checkState) (y := yX7_checkState) eX7_split_50 (xw_4 lRX7_53 wy_X7_checkState) rfl rfl ⟨wd_X7_checkState, by decide, by decide⟩ (Nat.le_of_ble_eq_true rfl) rfl ⟨by decide, by decide⟩ (kt_X7_checkState (P := False) id (xt_out rfl (hB3 S (by unfold o_split; rw [if_pos c8, if_pos c20, if_neg (by omega)]) scr.rf)))
      · refine xs_aload_0 eX7_split_30 ?_
        refine g_X7_0 eX7_split_31 lRX7_10 ?_
        refine g_X4_0 eX7_split_34 lRX7_88 ?_
        refine gr_X5_1 eX7_split_37 lRX7_101 (fun r37 => ?_)
        try rw [hN] at r37 ⊢
        refine xa_bipush eX7_split_40 (by decide) ?_
        refine xa_icmp_ge (tgt := 49) eX7_split_42 (by decide) (by omega) (by omega) (fun c42 => ?_) (fun c42 => ?_)
        · refine xa_iconst eX7_split_49 ?_
          exact xbv_S1 (mi' := mX7_checkState) (y := yX7_checkState) eX7_split_50 (xw_4 lRX7_53 wy_X7_checkState) rfl rfl ⟨wd_X7_checkState, by decide, by decide⟩ (Nat.le_of_ble_eq_true rfl) rfl ⟨by decide, by decide⟩ (kt_X7_checkState (P := False) id (xt_out rfl (hB3 S (by unfold o_split; rw [if_pos c8, if_pos c20, if_neg (by omega)]) scr.rf)))
        · refine xa_iconst eX7_split_45 ?_
          refine xa_goto (tgt := 50) eX7_split_46 (by decide) ?_
          refine xbv_S10 (mi' := mX7_checkState) (y := yX7_checkState) eX7_split_50 (xw_4 lRX7_53 wy_X7_checkState) rfl rfl ⟨wd_X7_checkState, by decide, by decide⟩ (Nat.le_of_ble_eq_true rfl) rfl (kk_X7_checkState (P := True) trivial ?_)
          refine xs_aload_0 eX7_split_53 ?_
          refine g_X7_0 eX7_split_54 lRX7_10 ?_
          refine g_X4_0 eX7_split_57 lRX7_88 ?_
          refine xs_aload_3 eX7_split_60 ?_
          refine xs_iload_2 eX7_split_61 ?_
          refine xbv_V20 (mi' := mX5_divide) (y := yX5_divide) eX7_split_62 (xw_5 lRX7_143 wy_X5_divide) rfl ⟨wd_X5_divide, by decide, by decide⟩ (by decide) (fun _ => rfl) rfl (Nat.le_of_ble_eq_true rfl) rfl (f_X5_divide (t := 0) ya hN (by omega) (by omega) (by omega) (by omega) ?_)
          refine xs_aload_0 eX7_split_65 ?_
          refine g_X7_0 eX7_split_66 lRX7_10 ?_
          refine g_X4_0 eX7_split_69 lRX7_88 ?_
          refine gr_X5_1 eX7_split_72 lRX7_101 (fun r72 => ?_)
          try rw [dv21] at r72 ⊢
          refine xa_iconst eX7_split_75 ?_
          refine xa_isub eX7_split_76 ?_
          exact xa_iret eX7_split_77 rfl ⟨_, rfl, by have h9 := hA; unfold o_split at h9; rw [if_pos c8, if_pos c20, if_pos (by omega)] at h9; have h7 := h9 _ rfl scr.rf; rw [show (N : Int) + 1 - 1 = (N : Int) by omega]; exact h7⟩
    · exact xbv_S3 (mi' := mX7_checkRange) (y := yX7_checkRange) eX7_split_20 (xw_4 lRX7_45 wy_X7_checkRange) rfl rfl ⟨wd_X7_checkRange, by decide, by decide⟩ (Nat.le_of_ble_eq_true rfl) rfl ⟨by decide, by decide⟩ (kt_X7_checkRange ya (by decide) (by omega) c20 (xt_out rfl (hB2 S (by unfold o_split; rw [if_pos c8, if_neg c20]) scr.rf)))
  · exact xbo_V1 (mi' := mX5_knownPromise) (y := yX5_knownPromise) eX7_split_8 (xw_5 lRX7_126 wy_X5_knownPromise) rfl ⟨wd_X5_knownPromise, by decide, by decide⟩ (by decide) (fun _ => rfl) rfl (Nat.le_of_ble_eq_true rfl) rfl ⟨by decide, by decide⟩ (kt_X5_knownPromise hN (by omega) yj c8 (xt_out rfl (hB1 S (by unfold o_split; rw [if_neg c8]) scr.rf)))
