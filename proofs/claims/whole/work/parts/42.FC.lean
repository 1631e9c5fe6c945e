/-! promises 11 to 14 -/
set_option maxHeartbeats 400000 in
theorem F_told {w : xW} {S : xS} {B : String → xS → Prop} {A : Int → xS → Prop} {j a : Int} {n N : Nat} {T : Int} (hV : VS 0 n N T S) (hT : T ≤ 800000) (yj : xr j) (ya : xr a)  (hA : ∀ S', (o_told j a n N S).1 = 0 → scr S' (o_told j a n N S).2.2.2.2 → A (o_told j a n N S).2.1 S') (hB1 : ∀ S', (o_told j a n N S).1 = 1 → scr S' S → B "java/lang/IndexOutOfBoundsException" S') (hB2 : ∀ S', (o_told j a n N S).1 = 2 → scr S' S → B "java/lang/IllegalArgumentException" S') : Ki w mX7_told yX7_told 1 6 [xp 0 0, xi j, xi a] S A B := by
  refine K.of rfl rfl rfl rfl (Nat.le_of_ble_eq_true rfl) rfl ?_
  obtain ⟨hVT, hN20, h8, hg, hp, ho, hs⟩ := id hV
  have hn := hg.1
  have hN := hVT.1
  have ht := hVT.2.2.1
  refine xs_aload_0 eX7_told_0 ?_
  refine g_X7_0 eX7_told_1 lRX7_10 ?_
  refine g_X4_0 eX7_told_4 lRX7_88 ?_
  refine xs_iload_1 eX7_told_7 ?_
  by_cases c8 : 0 ≤ j ∧ j < (N : Int)
  · refine xbo_V10 (mi' := mX5_knownPromise) (y := yX5_knownPromise) eX7_told_8 (xw_5 lRX7_126 wy_X5_knownPromise) rfl ⟨wd_X5_knownPromise, by decide, by decide⟩ (by decide) (fun _ => rfl) rfl (Nat.le_of_ble_eq_true rfl) rfl (kI_X5_knownPromise hN (by omega) c8 ?_)
    have hTQ := hVT.2.2.2 j.toNat (by omega)
    unfold TQ at hTQ
    refine xs_astore_3 eX7_told_11 rfl ?_
    refine xs_iload_2 eX7_told_12 ?_
    refine xa_iconst eX7_told_13 ?_
    refine xa_bipush eX7_told_14 (by decide) ?_
    by_cases c16 : 0 ≤ a ∧ a ≤ 16
    · refine xbv_S30 (mi' := mX7_checkRange) (y := yX7_checkRange) eX7_told_16 (xw_4 lRX7_45 wy_X7_checkRange) rfl rfl ⟨wd_X7_checkRange, by decide, by decide⟩ (Nat.le_of_ble_eq_true rfl) rfl (kk_X7_checkRange ya (by decide) (by decide) c16 ?_)
      refine xs_aload_3 eX7_told_19 ?_
      refine xs_iload_2 eX7_told_20 ?_
      refine xs_aload_0 eX7_told_21 ?_
      refine g_X7_0 eX7_told_22 lRX7_10 ?_
      refine g_X4_0 eX7_told_25 lRX7_88 ?_
      refine gr_X5_2 eX7_told_28 lRX7_147 (fun r28 => ?_)
      refine xbi_V20 (mi' := mX1_figure) (y := yX1_figure) eX7_told_31 (xw_5 lRX7_150 wy_X1_figure) rfl ⟨wd_X1_figure, by decide, by decide⟩ (by decide) (fun _ => rfl) rfl (Nat.le_of_ble_eq_true rfl) rfl (k_X1_figure (by omega) (by omega) hTQ.1 ?_)
      exact xa_iret eX7_told_34 rfl ⟨_, rfl, by have h9 := hA; unfold o_told at h9; rw [if_pos c8, if_pos c16] at h9; exact h9 _ rfl scr.rf⟩
    · exact xbv_S3 (mi' := mX7_checkRange) (y := yX7_checkRange) eX7_told_16 (xw_4 lRX7_45 wy_X7_checkRange) rfl rfl ⟨wd_X7_checkRange, by decide, by decide⟩ (Nat.le_of_ble_eq_true rfl) rfl ⟨by decide, by decide⟩ (kt_X7_checkRange ya (by decide) (by decide) c16 (xt_out rfl (hB2 S (by unfold o_told; rw [if_pos c8, if_neg c16]) scr.rf)))
  · exact xbo_V1 (mi' := mX5_knownPromise) (y := yX5_knownPromise) eX7_told_8 (xw_5 lRX7_126 wy_X5_knownPromise) rfl ⟨wd_X5_knownPromise, by decide, by decide⟩ (by decide) (fun _ => rfl) rfl (Nat.le_of_ble_eq_true rfl) rfl ⟨by decide, by decide⟩ (kt_X5_knownPromise hN (by omega) yj c8 (xt_out rfl (hB1 S (by unfold o_told; rw [if_neg c8]) scr.rf)))
set_option maxHeartbeats 400000 in
theorem G_told {w : xW} {S : xS} {B : String → xS → Prop} {A : Int → xS → Prop} {j a : Int} {n N : Nat} {T : Int} {C : xS} {M : Nat → Int} (hV : VS 0 n N T C) (hT : T ≤ 800000) (hR : Rel 0 n N C M) (yj : xr j) (ya : xr a)  (hq : ∀ r S' M', ((o_told j a n N C).1 = 0 → r = (o_told j a n N C).2.1) → rfr S' S → S' 30 0 4 = ((o_told j a n N C).1 : Int) → Rel 0 (o_told j a n N C).2.2.1 (o_told j a n N C).2.2.2.1 (o_told j a n N C).2.2.2.2 M' → A r (stM M' S')) : Ki w mX8_told yX8_told 0 0 [xp 30 0, xi j, xi a] (stM M S) A B := by
  refine K.of rfl rfl rfl rfl (Nat.le_of_ble_eq_true rfl) rfl ?_
  obtain ⟨hVT, hN20, h8, hg, hp, ho, hs⟩ := id hV
  have hn := hg.1
  have hN := hVT.1
  have ht := hVT.2.2.1
  have hM1 : M 1 = (n : Int) := by rw [hR.1 1 (by decide)]; exact hn
  have hM2 : M 2 = (N : Int) := by rw [hR.1 2 (by decide)]; exact hN
  refine xs_aload_0 eX8_told_0 ?_
  refine xs_aload_0 eX8_told_1 ?_
  refine xs_iload_1 eX8_told_2 ?_
  refine xbi_V10 (mi' := mX8_isPromise) (y := yX8_isPromise) eX8_told_3 (xw_5 lRX8_187 wy_X8_isPromise) rfl ⟨wd_X8_isPromise, by decide, by decide⟩ (by decide) (fun _ => rfl) rfl (Nat.le_of_ble_eq_true rfl) rfl (r_X8_isPromise hV hR yj ?_)
  refine xa_ifb_ne (tgt := 13) eX8_told_6 (by decide) (fun c6 => ?_) (fun c6 => ?_)
  · refine xs_iload_2 eX8_told_13 ?_
    refine xa_i2l eX8_told_14 (by omega) ?_
    refine xa_lconst0 eX8_told_15 ?_
    refine xa_ldc2 (a := 16) eX8_told_16 lRX8_193 (by decide) ?_
    refine xbi_S30 (mi' := mX8_isBetween) (y := yX8_isBetween) eX8_told_19 (xw_4 lRX8_61 wy_X8_isBetween) rfl rfl ⟨wd_X8_isBetween, by decide, by decide⟩ (Nat.le_of_ble_eq_true rfl) rfl (k_X8_isBetween (by omega) (by decide) (by decide) ?_)
    refine xa_ifb_ne (tgt := 29) eX8_told_22 (by decide) (fun c22 => ?_) (fun c22 => ?_)
    · refine xa_iconst eX8_told_29 ?_
      refine p_X8_4 eX8_told_30 lRX8_52 (by decide) ?_
      rw [up_stO (by decide)]
      refine xs_aload_0 eX8_told_33 ?_
      refine gr_X8_4 eX8_told_34 lRX8_52 (fun r34 => ?_)
      try simp (decide := true) only [stM_31, stM_k, up_same, hM1, hM2, show (0 : Int).toNat = 0 from rfl, show (1 : Int).toNat = 1 from rfl, show (2 : Int).toNat = 2 from rfl, show (3 : Int).toNat = 3 from rfl, show (4 : Int).toNat = 4 from rfl, show (5 : Int).toNat = 5 from rfl, show (6 : Int).toNat = 6 from rfl, show (7 : Int).toNat = 7 from rfl, show (8 : Int).toNat = 8 from rfl, show (9 : Int).toNat = 9 from rfl, show (10 : Int).toNat = 10 from rfl, show (11 : Int).toNat = 11 from rfl, show (12 : Int).toNat = 12 from rfl, show (13 : Int).toNat = 13 from rfl, show (14 : Int).toNat = 14 from rfl, Int.toNat_natCast] at r34 ⊢
      refine xa_if_eq (tgt := 42) eX8_told_37 (by decide) (by decide) (fun c37 => ?_) (fun c37 => ?_)
      · refine xs_iload_2 eX8_told_42 ?_
        refine xa_i2l eX8_told_43 (by omega) ?_
        refine xa_ldc2 (a := 6) eX8_told_44 lRX8_195 (by decide) ?_
        refine xa_ldc2 (a := 8) eX8_told_47 lRX8_92 (by decide) ?_
        refine xbi_S30 (mi' := mX8_isBetween) (y := yX8_isBetween) eX8_told_50 (xw_4 lRX8_61 wy_X8_isBetween) rfl rfl ⟨wd_X8_isBetween, by decide, by decide⟩ (Nat.le_of_ble_eq_true rfl) rfl (k_X8_isBetween (by omega) (by decide) (by decide) ?_)
        refine xs_istore_3 eX8_told_53 rfl ?_
        refine xs_iload_3 eX8_told_54 ?_
        refine xa_ifb_eq (tgt := 70) eX8_told_55 (by decide) (fun c55 => ?_) (fun c55 => ?_)
        · refine xs_aload_0 eX8_told_70 ?_
          refine xs_iload_1 eX8_told_71 ?_
          refine xs_iload_2 eX8_told_72 ?_
          refine xbi_V20 (mi' := mX8_told0) (y := yX8_told0) eX8_told_73 (xw_5 lRX8_122 wy_X8_told0) rfl ⟨wd_X8_told0, by decide, by decide⟩ (by decide) (fun _ => rfl) rfl (Nat.le_of_ble_eq_true rfl) rfl (r_X8_told0 (j := j.toNat) (g := a.toNat) hR (by omega) (by omega) (by omega) hN20 (by omega) (by omega) (by omega) (by omega) ?_)
          exact xa_iret eX8_told_76 rfl ⟨_, rfl, by have h9 := hq; unfold o_told at h9; rw [if_pos c6, if_pos c22] at h9; exact h9 _ _ M (fun _ => by show _ = xfg1 (C 2 0 2) (C 10 (32 * 0 + j.toNat)) a.toNat; unfold xfg1; rw [if_neg (by omega)]) rfr.t (by rw [up_same]; rfl) hR⟩
        · refine xs_aload_0 eX8_told_58 ?_
          refine xs_iload_1 eX8_told_59 ?_
          refine xbi_V10 (mi' := mX8_hasJob) (y := yX8_hasJob) eX8_told_60 (xw_5 lRX8_143 wy_X8_hasJob) rfl ⟨wd_X8_hasJob, by decide, by decide⟩ (by decide) (fun _ => rfl) rfl (Nat.le_of_ble_eq_true rfl) rfl (r_X8_hasJob (j := j.toNat) hV hR (by omega) (by omega) ?_)
          refine xa_ifb_ne (tgt := 70) eX8_told_63 (by decide) (fun c63 => ?_) (fun c63 => ?_)
          · refine xs_aload_0 eX8_told_70 ?_
            refine xs_iload_1 eX8_told_71 ?_
            refine xs_iload_2 eX8_told_72 ?_
            refine xbi_V20 (mi' := mX8_told0) (y := yX8_told0) eX8_told_73 (xw_5 lRX8_122 wy_X8_told0) rfl ⟨wd_X8_told0, by decide, by decide⟩ (by decide) (fun _ => rfl) rfl (Nat.le_of_ble_eq_true rfl) rfl (r_X8_told0j (j := j.toNat) (g := a.toNat) hR (by omega) (by omega) (by omega) hN20 (by omega) c63 ?_)
            exact xa_iret eX8_told_76 rfl ⟨_, rfl, by have h9 := hq; unfold o_told at h9; rw [if_pos c6, if_pos c22] at h9; exact h9 _ _ M (fun _ => by show _ = xfg1 (C 2 0 2) (C 10 (32 * 0 + j.toNat)) a.toNat; unfold xfg1; rw [if_neg (by omega)]) rfr.t (by rw [up_same]; rfl) hR⟩
          · refine xa_iconst eX8_told_66 ?_
            refine xa_goto (tgt := 76) eX8_told_67 (by decide) ?_
            exact xa_iret eX8_told_76 rfl ⟨_, rfl, by have h9 := hq; unfold o_told at h9; rw [if_pos c6, if_pos c22] at h9; exact h9 _ _ M (fun _ => by show (-1 : Int) = xfg1 (C 2 0 2) (C 10 (32 * 0 + j.toNat)) a.toNat; unfold xfg1; rw [if_pos (by omega)]) rfr.t (by rw [up_same]; rfl) hR⟩
      · exact absurd rfl c37
    · refine xa_iconst eX8_told_25 ?_
      refine xa_goto (tgt := 30) eX8_told_26 (by decide) ?_
      refine p_X8_4 eX8_told_30 lRX8_52 (by decide) ?_
      rw [up_stO (by decide)]
      refine xs_aload_0 eX8_told_33 ?_
      refine gr_X8_4 eX8_told_34 lRX8_52 (fun r34 => ?_)
      try simp (decide := true) only [stM_31, stM_k, up_same, hM1, hM2, show (0 : Int).toNat = 0 from rfl, show (1 : Int).toNat = 1 from rfl, show (2 : Int).toNat = 2 from rfl, show (3 : Int).toNat = 3 from rfl, show (4 : Int).toNat = 4 from rfl, show (5 : Int).toNat = 5 from rfl, show (6 : Int).toNat = 6 from rfl, show (7 : Int).toNat = 7 from rfl, show (8 : Int).toNat = 8 from rfl, show (9 : Int).toNat = 9 from rfl, show (10 : Int).toNat = 10 from rfl, show (11 : Int).toNat = 11 from rfl, show (12 : Int).toNat = 12 from rfl, show (13 : Int).toNat = 13 from rfl, show (14 : Int).toNat = 14 from rfl, Int.toNat_natCast] at r34 ⊢
      refine xa_if_eq (tgt := 42) eX8_told_37 (by decide) (by decide) (fun c37 => ?_) (fun c37 => ?_)
      · exact absurd c37 (by decide)
      · refine xa_iconst eX8_told_40 ?_
        exact xa_iret eX8_told_41 rfl ⟨_, rfl, by have h9 := hq; unfold o_told at h9; rw [if_pos c6, if_neg c22] at h9; exact h9 _ _ _ (fun z => absurd z (Nat.succ_ne_zero _)) rfr.t (by rw [up_same]; rfl) hR⟩
  · refine xa_iconst eX8_told_9 ?_
    refine xa_goto (tgt := 30) eX8_told_10 (by decide) ?_
    refine p_X8_4 eX8_told_30 lRX8_52 (by decide) ?_
    rw [up_stO (by decide)]
    refine xs_aload_0 eX8_told_33 ?_
    refine gr_X8_4 eX8_told_34 lRX8_52 (fun r34 => ?_)
    try simp (decide := true) only [stM_31, stM_k, up_same, hM1, hM2, show (0 : Int).toNat = 0 from rfl, show (1 : Int).toNat = 1 from rfl, show (2 : Int).toNat = 2 from rfl, show (3 : Int).toNat = 3 from rfl, show (4 : Int).toNat = 4 from rfl, show (5 : Int).toNat = 5 from rfl, show (6 : Int).toNat = 6 from rfl, show (7 : Int).toNat = 7 from rfl, show (8 : Int).toNat = 8 from rfl, show (9 : Int).toNat = 9 from rfl, show (10 : Int).toNat = 10 from rfl, show (11 : Int).toNat = 11 from rfl, show (12 : Int).toNat = 12 from rfl, show (13 : Int).toNat = 13 from rfl, show (14 : Int).toNat = 14 from rfl, Int.toNat_natCast] at r34 ⊢
    refine xa_if_eq (tgt := 42) eX8_told_37 (by decide) (by decide) (fun c37 => ?_) (fun c37 => ?_)
    · exact absurd c37 (by decide)
    · refine xa_iconst eX8_told_40 ?_
      exact xa_iret eX8_told_41 rfl ⟨_, rfl, by have h9 := hq; unfold o_told at h9; rw [if_neg c6] at h9; exact h9 _ _ _ (fun z => absurd z (Nat.succ_ne_zero _)) rfr.t (by rw [up_same]; rfl) hR⟩
set_option maxHeartbeats 400000 in
theorem F_end {w : xW} {S : xS} {B : String → xS → Prop} {A : Int → xS → Prop} {j : Int} {n N : Nat} {T : Int} (hV : VS 0 n N T S) (hT : T ≤ 800000) (yj : xr j)  (hA : ∀ S', (o_end j n N S).1 = 0 → scr S' (o_end j n N S).2.2.2.2 → A (o_end j n N S).2.1 S') (hB1 : ∀ S', (o_end j n N S).1 = 1 → scr S' S → B "java/lang/IndexOutOfBoundsException" S') (hB2 : ∀ S', (o_end j n N S).1 = 2 → scr S' S → B "java/lang/IllegalStateException" S') : Ki w mX7_end yX7_end 1 6 [xp 0 0, xi j] S A B := by
  refine K.of rfl rfl rfl rfl (Nat.le_of_ble_eq_true rfl) rfl ?_
  obtain ⟨hVT, hN20, h8, hg, hp, ho, hs⟩ := id hV
  have hn := hg.1
  have hN := hVT.1
  have ht := hVT.2.2.1
  refine xs_aload_0 eX7_end_0 ?_
  refine g_X7_0 eX7_end_1 lRX7_10 ?_
  refine g_X4_0 eX7_end_4 lRX7_88 ?_
  refine xs_iload_1 eX7_end_7 ?_
  by_cases c8 : 0 ≤ j ∧ j < (N : Int)
  · refine xbo_V10 (mi' := mX5_knownPromise) (y := yX5_knownPromise) eX7_end_8 (xw_5 lRX7_126 wy_X5_knownPromise) rfl ⟨wd_X5_knownPromise, by decide, by decide⟩ (by decide) (fun _ => rfl) rfl (Nat.le_of_ble_eq_true rfl) rfl (kI_X5_knownPromise hN (by omega) c8 ?_)
    have hTQ := hVT.2.2.2 j.toNat (by omega)
    unfold TQ at hTQ
    refine xs_astore_2 eX7_end_11 rfl ?_
    refine xs_aload_2 eX7_end_12 ?_
    refine gr_X1_0 eX7_end_13 lRX7_130 (fun r13 => ?_)
    refine xa_if_ne (tgt := 23) eX7_end_16 (by decide) (by omega) (fun c16 => ?_) (fun c16 => ?_)
    · refine xa_iconst eX7_end_23 ?_
      exact xbv_S1 (mi' := mX7_checkState) (y := yX7_checkState) eX7_end_24 (xw_4 lRX7_53 wy_X7_checkState) rfl rfl ⟨wd_X7_checkState, by decide, by decide⟩ (Nat.le_of_ble_eq_true rfl) rfl ⟨by decide, by decide⟩ (kt_X7_checkState (P := False) id (xt_out rfl (hB2 S (by unfold o_end; rw [if_pos c8, if_neg (by omega)]) scr.rf)))
    · refine xa_iconst eX7_end_19 ?_
      refine xa_goto (tgt := 24) eX7_end_20 (by decide) ?_
      refine xbv_S10 (mi' := mX7_checkState) (y := yX7_checkState) eX7_end_24 (xw_4 lRX7_53 wy_X7_checkState) rfl rfl ⟨wd_X7_checkState, by decide, by decide⟩ (Nat.le_of_ble_eq_true rfl) rfl (kk_X7_checkState (P := True) trivial ?_)
      refine xs_aload_2 eX7_end_27 ?_
      refine xbi_V00 (mi' := mX1_finish) (y := yX1_finish) eX7_end_28 (xw_5 lRX7_136 wy_X1_finish) rfl ⟨wd_X1_finish, by decide, by decide⟩ (by decide) (fun _ => rfl) rfl (Nat.le_of_ble_eq_true rfl) rfl (f_X1_finish ?_)
      exact xa_iret eX7_end_31 rfl ⟨_, rfl, by have h9 := hA; unfold o_end at h9; rw [if_pos c8, if_pos (by omega)] at h9; exact h9 _ rfl scr.rf⟩
  · exact xbo_V1 (mi' := mX5_knownPromise) (y := yX5_knownPromise) eX7_end_8 (xw_5 lRX7_126 wy_X5_knownPromise) rfl ⟨wd_X5_knownPromise, by decide, by decide⟩ (by decide) (fun _ => rfl) rfl (Nat.le_of_ble_eq_true rfl) rfl ⟨by decide, by decide⟩ (kt_X5_knownPromise hN (by omega) yj c8 (xt_out rfl (hB1 S (by unfold o_end; rw [if_neg c8]) scr.rf)))
theorem Rel.end {n N j : Nat} {C : xS} {M : Nat → Int} (h : Rel 0 n N C M) (hj : j < N) (hN : N ≤ 20) (ht : 0 ≤ C 2 0 2) : Rel 0 n N (rwS 10 (32 * 0 + j) (xfin (C 10 (32 * 0 + j))) C) (upM (upM (upM (upM (upM (upM (upM M (103 + 18 * j + 0) 1) (103 + 18 * j + 5) (-1)) (103 + 18 * j + 17) 0) (103 + 18 * j + 6) 0) (103 + 18 * j + 9) (-1)) (103 + 18 * j + 10) (-1)) (103 + 18 * j + 11) 0) := by
  have hr := h.2.2.1 j hj
  refine h.row hj hN (fun i hi => ?_) ?_
  · rw [upM_o (by omega), upM_o (by omega), upM_o (by omega), upM_o (by omega), upM_o (by omega), upM_o (by omega), upM_o (by omega)]
  · refine ⟨fun f h16 q6 q7 q8 => ?_, ?_, Or.inr ⟨?_, rfl, Or.inl ?_⟩⟩
    · have hM := hr.1 f h16 q6 q7 q8
      simp only [upM, Nat.add_left_cancel_iff, xfin]
      have hf9 : f = 0 ∨ f = 1 ∨ f = 2 ∨ f = 3 ∨ f = 4 ∨ f = 5 ∨ f = 9 ∨ f = 10 ∨ f = 11 ∨ f = 12 ∨ f = 13 ∨ f = 14 ∨ f = 15 ∨ f = 16 := by omega
      rcases hf9 with rfl | rfl | rfl | rfl | rfl | rfl | rfl | rfl | rfl | rfl | rfl | rfl | rfl | rfl <;> first | rfl | exact hM
    · simp (decide := true) only [upM, Nat.add_left_cancel_iff, if_false]
      exact hr.2.1
    · show (-1 : Int) ≤ _; omega
    · simp (decide := true) only [upM, Nat.add_left_cancel_iff, if_true, if_false]
theorem Rel.left {n N j : Nat} {C : xS} {M : Nat → Int} (h : Rel 0 n N C M) (hj : j < N) (c : ¬ C 2 0 2 < C 10 (32 * 0 + j) 7) : C 10 (32 * 0 + j) 6 = 0 := by
  have hr := h.2.2.1 j hj
  unfold PR at hr
  omega
set_option maxHeartbeats 400000 in
theorem G_end {w : xW} {S : xS} {B : String → xS → Prop} {A : Int → xS → Prop} {j : Int} {n N : Nat} {T : Int} {C : xS} {M : Nat → Int} (hV : VS 0 n N T C) (hT : T ≤ 800000) (hR : Rel 0 n N C M) (yj : xr j)  (hq : ∀ r S' M', ((o_end j n N C).1 = 0 → r = (o_end j n N C).2.1) → rfr S' S → S' 30 0 4 = ((o_end j n N C).1 : Int) → Rel 0 (o_end j n N C).2.2.1 (o_end j n N C).2.2.2.1 (o_end j n N C).2.2.2.2 M' → A r (stM M' S')) : Ki w mX8_end yX8_end 0 0 [xp 30 0, xi j] (stM M S) A B := by
  refine K.of rfl rfl rfl rfl (Nat.le_of_ble_eq_true rfl) rfl ?_
  obtain ⟨hVT, hN20, h8, hg, hp, ho, hs⟩ := id hV
  have hn := hg.1
  have hN := hVT.1
  have ht := hVT.2.2.1
  have hM1 : M 1 = (n : Int) := by rw [hR.1 1 (by decide)]; exact hn
  have hM2 : M 2 = (N : Int) := by rw [hR.1 2 (by decide)]; exact hN
  have hTQ : ∀ i, i < N → C 10 (32 * 0 + i) 0 = 0 ∨ C 10 (32 * 0 + i) 0 = 1 := fun i hi => (hVT.2.2.2 i hi).1
  refine xs_aload_0 eX8_end_0 ?_
  refine xs_aload_0 eX8_end_1 ?_
  refine xs_iload_1 eX8_end_2 ?_
  refine xbi_V10 (mi' := mX8_isPromise) (y := yX8_isPromise) eX8_end_3 (xw_5 lRX8_187 wy_X8_isPromise) rfl ⟨wd_X8_isPromise, by decide, by decide⟩ (by decide) (fun _ => rfl) rfl (Nat.le_of_ble_eq_true rfl) rfl (r_X8_isPromise hV hR yj ?_)
  refine xa_ifb_ne (tgt := 13) eX8_end_6 (by decide) (fun c6 => ?_) (fun c6 => ?_)
  · refine xs_aload_0 eX8_end_13 ?_
    refine xs_iload_1 eX8_end_14 ?_
    refine xbi_V10 (mi' := mX8_hasEnded) (y := yX8_hasEnded) eX8_end_15 (xw_5 lRX8_119 wy_X8_hasEnded) rfl ⟨wd_X8_hasEnded, by decide, by decide⟩ (by decide) (fun _ => rfl) rfl (Nat.le_of_ble_eq_true rfl) rfl (r_X8_hasEnded (j := j.toNat) hV hR (by omega) (by omega) ?_)
    refine xa_ifb_eq (tgt := 25) eX8_end_18 (by decide) (fun c18 => ?_) (fun c18 => ?_)
    · refine xa_iconst eX8_end_25 ?_
      refine p_X8_4 eX8_end_26 lRX8_52 (by decide) ?_
      rw [up_stO (by decide)]
      refine xs_aload_0 eX8_end_29 ?_
      refine gr_X8_4 eX8_end_30 lRX8_52 (fun r30 => ?_)
      try simp (decide := true) only [stM_31, stM_k, up_same, hM1, hM2, show (0 : Int).toNat = 0 from rfl, show (1 : Int).toNat = 1 from rfl, show (2 : Int).toNat = 2 from rfl, show (3 : Int).toNat = 3 from rfl, show (4 : Int).toNat = 4 from rfl, show (5 : Int).toNat = 5 from rfl, show (6 : Int).toNat = 6 from rfl, show (7 : Int).toNat = 7 from rfl, show (8 : Int).toNat = 8 from rfl, show (9 : Int).toNat = 9 from rfl, show (10 : Int).toNat = 10 from rfl, show (11 : Int).toNat = 11 from rfl, show (12 : Int).toNat = 12 from rfl, show (13 : Int).toNat = 13 from rfl, show (14 : Int).toNat = 14 from rfl, Int.toNat_natCast] at r30 ⊢
      refine xa_if_eq (tgt := 38) eX8_end_33 (by decide) (by decide) (fun c33 => ?_) (fun c33 => ?_)
      · refine xs_aload_0 eX8_end_38 ?_
        refine xs_iload_1 eX8_end_39 ?_
        refine xbi_V10 (mi' := mX8_hasJob) (y := yX8_hasJob) eX8_end_40 (xw_5 lRX8_143 wy_X8_hasJob) rfl ⟨wd_X8_hasJob, by decide, by decide⟩ (by decide) (fun _ => rfl) rfl (Nat.le_of_ble_eq_true rfl) rfl (r_X8_hasJob (j := j.toNat) hV hR (by omega) (by omega) ?_)
        refine xa_ifb_eq (tgt := 56) eX8_end_43 (by decide) (fun c43 => ?_) (fun c43 => ?_)
        · refine xa_iconst eX8_end_56 ?_
          refine xs_istore_2 eX8_end_57 rfl ?_
          refine xs_aload_0 eX8_end_58 ?_
          refine xs_iload_1 eX8_end_59 ?_
          refine xa_iconst eX8_end_60 ?_
          refine xa_iconst eX8_end_61 ?_
          refine xbv_V30 (mi' := mX8_keep) (y := yX8_keep) eX8_end_62 (xw_5 lRX8_137 wy_X8_keep) rfl ⟨wd_X8_keep, by decide, by decide⟩ (by decide) (fun _ => rfl) rfl (Nat.le_of_ble_eq_true rfl) rfl (k_X8_keep (p := j.toNat) (g := 0) (by omega) rfl (by omega) (by decide) (by decide) ?_)
          rw [up_stM]
          refine xs_aload_0 eX8_end_65 ?_
          refine xs_iload_1 eX8_end_66 ?_
          refine xa_iconst eX8_end_67 ?_
          refine xa_iconst eX8_end_68 ?_
          refine xbv_V30 (mi' := mX8_keep) (y := yX8_keep) eX8_end_69 (xw_5 lRX8_137 wy_X8_keep) rfl ⟨wd_X8_keep, by decide, by decide⟩ (by decide) (fun _ => rfl) rfl (Nat.le_of_ble_eq_true rfl) rfl (k_X8_keep (p := j.toNat) (g := 5) (by omega) rfl (by omega) (by decide) (by decide) ?_)
          rw [up_stM]
          refine xs_aload_0 eX8_end_72 ?_
          refine xs_iload_1 eX8_end_73 ?_
          refine xa_bipush eX8_end_74 (by decide) ?_
          refine xa_iconst eX8_end_76 ?_
          refine xbv_V30 (mi' := mX8_keep) (y := yX8_keep) eX8_end_77 (xw_5 lRX8_137 wy_X8_keep) rfl ⟨wd_X8_keep, by decide, by decide⟩ (by decide) (fun _ => rfl) rfl (Nat.le_of_ble_eq_true rfl) rfl (k_X8_keep (p := j.toNat) (g := 17) (by omega) rfl (by omega) (by decide) (by decide) ?_)
          rw [up_stM]
          refine xs_aload_0 eX8_end_80 ?_
          refine xs_iload_1 eX8_end_81 ?_
          refine xa_bipush eX8_end_82 (by decide) ?_
          refine xa_iconst eX8_end_84 ?_
          refine xbv_V30 (mi' := mX8_keep) (y := yX8_keep) eX8_end_85 (xw_5 lRX8_137 wy_X8_keep) rfl ⟨wd_X8_keep, by decide, by decide⟩ (by decide) (fun _ => rfl) rfl (Nat.le_of_ble_eq_true rfl) rfl (k_X8_keep (p := j.toNat) (g := 6) (by omega) rfl (by omega) (by decide) (by decide) ?_)
          rw [up_stM]
          refine xs_aload_0 eX8_end_88 ?_
          refine xs_iload_1 eX8_end_89 ?_
          refine xa_bipush eX8_end_90 (by decide) ?_
          refine xa_iconst eX8_end_92 ?_
          refine xbv_V30 (mi' := mX8_keep) (y := yX8_keep) eX8_end_93 (xw_5 lRX8_137 wy_X8_keep) rfl ⟨wd_X8_keep, by decide, by decide⟩ (by decide) (fun _ => rfl) rfl (Nat.le_of_ble_eq_true rfl) rfl (k_X8_keep (p := j.toNat) (g := 9) (by omega) rfl (by omega) (by decide) (by decide) ?_)
          rw [up_stM]
          refine xs_aload_0 eX8_end_96 ?_
          refine xs_iload_1 eX8_end_97 ?_
          refine xa_bipush eX8_end_98 (by decide) ?_
          refine xa_iconst eX8_end_100 ?_
          refine xbv_V30 (mi' := mX8_keep) (y := yX8_keep) eX8_end_101 (xw_5 lRX8_137 wy_X8_keep) rfl ⟨wd_X8_keep, by decide, by decide⟩ (by decide) (fun _ => rfl) rfl (Nat.le_of_ble_eq_true rfl) rfl (k_X8_keep (p := j.toNat) (g := 10) (by omega) rfl (by omega) (by decide) (by decide) ?_)
          rw [up_stM]
          refine xs_aload_0 eX8_end_104 ?_
          refine xs_iload_1 eX8_end_105 ?_
          refine xa_bipush eX8_end_106 (by decide) ?_
          refine xa_iconst eX8_end_108 ?_
          refine xbv_V30 (mi' := mX8_keep) (y := yX8_keep) eX8_end_109 (xw_5 lRX8_137 wy_X8_keep) rfl ⟨wd_X8_keep, by decide, by decide⟩ (by decide) (fun _ => rfl) rfl (Nat.le_of_ble_eq_true rfl) rfl (k_X8_keep (p := j.toNat) (g := 11) (by omega) rfl (by omega) (by decide) (by decide) ?_)
          rw [up_stM]
          refine xs_iload_2 eX8_end_112 ?_
          exact xa_iret eX8_end_113 rfl ⟨_, rfl, by have h9 := hq; unfold o_end at h9; rw [if_pos c6, if_pos (show C 10 (32 * 0 + j.toNat) 0 = 0 by have z := hTQ j.toNat (by omega); omega)] at h9; exact h9 _ _ _ (fun _ => show (0 : Int) = C 10 (32 * 0 + j.toNat) 6 by rw [hR.left (by omega) c43]) rfr.t (by rw [up_same]; rfl) (hR.end (by omega) hN20 (by omega))⟩
        · refine xs_aload_0 eX8_end_46 ?_
          refine xs_iload_1 eX8_end_47 ?_
          refine xa_bipush eX8_end_48 (by decide) ?_
          refine xbi_V20 (mi' := mX8_told0) (y := yX8_told0) eX8_end_50 (xw_5 lRX8_122 wy_X8_told0) rfl ⟨wd_X8_told0, by decide, by decide⟩ (by decide) (fun _ => rfl) rfl (Nat.le_of_ble_eq_true rfl) rfl (r_X8_told0j (j := j.toNat) (g := 6) hR (by omega) rfl (by omega) hN20 (by decide) c43 ?_)
          refine xa_goto (tgt := 57) eX8_end_53 (by decide) ?_
          refine xs_istore_2 eX8_end_57 rfl ?_
          refine xs_aload_0 eX8_end_58 ?_
          refine xs_iload_1 eX8_end_59 ?_
          refine xa_iconst eX8_end_60 ?_
          refine xa_iconst eX8_end_61 ?_
          refine xbv_V30 (mi' := mX8_keep) (y := yX8_keep) eX8_end_62 (xw_5 lRX8_137 wy_X8_keep) rfl ⟨wd_X8_keep, by decide, by decide⟩ (by decide) (fun _ => rfl) rfl (Nat.le_of_ble_eq_true rfl) rfl (k_X8_keep (p := j.toNat) (g := 0) (by omega) rfl (by omega) (by decide) (by decide) ?_)
          rw [up_stM]
          refine xs_aload_0 eX8_end_65 ?_
          refine xs_iload_1 eX8_end_66 ?_
          refine xa_iconst eX8_end_67 ?_
          refine xa_iconst eX8_end_68 ?_
          refine xbv_V30 (mi' := mX8_keep) (y := yX8_keep) eX8_end_69 (xw_5 lRX8_137 wy_X8_keep) rfl ⟨wd_X8_keep, by decide, by decide⟩ (by decide) (fun _ => rfl) rfl (Nat.le_of_ble_eq_true rfl) rfl (k_X8_keep (p := j.toNat) (g := 5) (by omega) rfl (by omega) (by decide) (by decide) ?_)
          rw [up_stM]
          refine xs_aload_0 eX8_end_72 ?_
          refine xs_iload_1 eX8_end_73 ?_
          refine xa_bipush eX8_end_74 (by decide) ?_
          refine xa_iconst eX8_end_76 ?_
          refine xbv_V30 (mi' := mX8_keep) (y := yX8_keep) eX8_end_77 (xw_5 lRX8_137 wy_X8_keep) rfl ⟨wd_X8_keep, by decide, by decide⟩ (by decide) (fun _ => rfl) rfl (Nat.le_of_ble_eq_true rfl) rfl (k_X8_keep (p := j.toNat) (g := 17) (by omega) rfl (by omega) (by decide) (by decide) ?_)
          rw [up_stM]
          refine xs_aload_0 eX8_end_80 ?_
          refine xs_iload_1 eX8_end_81 ?_
          refine xa_bipush eX8_end_82 (by decide) ?_
          refine xa_iconst eX8_end_84 ?_
          refine xbv_V30 (mi' := mX8_keep) (y := yX8_keep) eX8_end_85 (xw_5 lRX8_137 wy_X8_keep) rfl ⟨wd_X8_keep, by decide, by decide⟩ (by decide) (fun _ => rfl) rfl (Nat.le_of_ble_eq_true rfl) rfl (k_X8_keep (p := j.toNat) (g := 6) (by omega) rfl (by omega) (by decide) (by decide) ?_)
          rw [up_stM]
          refine xs_aload_0 eX8_end_88 ?_
          refine xs_iload_1 eX8_end_89 ?_
          refine xa_bipush eX8_end_90 (by decide) ?_
          refine xa_iconst eX8_end_92 ?_
          refine xbv_V30 (mi' := mX8_keep) (y := yX8_keep) eX8_end_93 (xw_5 lRX8_137 wy_X8_keep) rfl ⟨wd_X8_keep, by decide, by decide⟩ (by decide) (fun _ => rfl) rfl (Nat.le_of_ble_eq_true rfl) rfl (k_X8_keep (p := j.toNat) (g := 9) (by omega) rfl (by omega) (by decide) (by decide) ?_)
          rw [up_stM]
          refine xs_aload_0 eX8_end_96 ?_
          refine xs_iload_1 eX8_end_97 ?_
          refine xa_bipush eX8_end_98 (by decide) ?_
          refine xa_iconst eX8_end_100 ?_
          refine xbv_V30 (mi' := mX8_keep) (y := yX8_keep) eX8_end_101 (xw_5 lRX8_137 wy_X8_keep) rfl ⟨wd_X8_keep, by decide, by decide⟩ (by decide) (fun _ => rfl) rfl (Nat.le_of_ble_eq_true rfl) rfl (k_X8_keep (p := j.toNat) (g := 10) (by omega) rfl (by omega) (by decide) (by decide) ?_)
          rw [up_stM]
          refine xs_aload_0 eX8_end_104 ?_
          refine xs_iload_1 eX8_end_105 ?_
          refine xa_bipush eX8_end_106 (by decide) ?_
          refine xa_iconst eX8_end_108 ?_
          refine xbv_V30 (mi' := mX8_keep) (y := yX8_keep) eX8_end_109 (xw_5 lRX8_137 wy_X8_keep) rfl ⟨wd_X8_keep, by decide, by decide⟩ (by decide) (fun _ => rfl) rfl (Nat.le_of_ble_eq_true rfl) rfl (k_X8_keep (p := j.toNat) (g := 11) (by omega) rfl (by omega) (by decide) (by decide) ?_)
          rw [up_stM]
          refine xs_iload_2 eX8_end_112 ?_
          exact xa_iret eX8_end_113 rfl ⟨_, rfl, by have h9 := hq; unfold o_end at h9; rw [if_pos c6, if_pos (show C 10 (32 * 0 + j.toNat) 0 = 0 by have z := hTQ j.toNat (by omega); omega)] at h9; exact h9 _ _ _ (fun _ => rfl) rfr.t (by rw [up_same]; rfl) (hR.end (by omega) hN20 (by omega))⟩
      · exact absurd rfl c33
    · refine xa_iconst eX8_end_21 ?_
      refine xa_goto (tgt := 26) eX8_end_22 (by decide) ?_
      refine p_X8_4 eX8_end_26 lRX8_52 (by decide) ?_
      rw [up_stO (by decide)]
      refine xs_aload_0 eX8_end_29 ?_
      refine gr_X8_4 eX8_end_30 lRX8_52 (fun r30 => ?_)
      try simp (decide := true) only [stM_31, stM_k, up_same, hM1, hM2, show (0 : Int).toNat = 0 from rfl, show (1 : Int).toNat = 1 from rfl, show (2 : Int).toNat = 2 from rfl, show (3 : Int).toNat = 3 from rfl, show (4 : Int).toNat = 4 from rfl, show (5 : Int).toNat = 5 from rfl, show (6 : Int).toNat = 6 from rfl, show (7 : Int).toNat = 7 from rfl, show (8 : Int).toNat = 8 from rfl, show (9 : Int).toNat = 9 from rfl, show (10 : Int).toNat = 10 from rfl, show (11 : Int).toNat = 11 from rfl, show (12 : Int).toNat = 12 from rfl, show (13 : Int).toNat = 13 from rfl, show (14 : Int).toNat = 14 from rfl, Int.toNat_natCast] at r30 ⊢
      refine xa_if_eq (tgt := 38) eX8_end_33 (by decide) (by decide) (fun c33 => ?_) (fun c33 => ?_)
      · exact absurd c33 (by decide)
      · refine xa_iconst eX8_end_36 ?_
        exact xa_iret eX8_end_37 rfl ⟨_, rfl, by have h9 := hq; unfold o_end at h9; rw [if_pos c6, if_neg (by omega)] at h9; exact h9 _ _ _ (fun z => absurd z (Nat.succ_ne_zero _)) rfr.t (by rw [up_same]; rfl) hR⟩
  · refine xa_iconst eX8_end_9 ?_
    refine xa_goto (tgt := 26) eX8_end_10 (by decide) ?_
    refine p_X8_4 eX8_end_26 lRX8_52 (by decide) ?_
    rw [up_stO (by decide)]
    refine xs_aload_0 eX8_end_29 ?_
    refine gr_X8_4 eX8_end_30 lRX8_52 (fun r30 => ?_)
    try simp (decide := true) only [stM_31, stM_k, up_same, hM1, hM2, show (0 : Int).toNat = 0 from rfl, show (1 : Int).toNat = 1 from rfl, show (2 : Int).toNat = 2 from rfl, show (3 : Int).toNat = 3 from rfl, show (4 : Int).toNat = 4 from rfl, show (5 : Int).toNat = 5 from rfl, show (6 : Int).toNat = 6 from rfl, show (7 : Int).toNat = 7 from rfl, show (8 : Int).toNat = 8 from rfl, show (9 : Int).toNat = 9 from rfl, show (10 : Int).toNat = 10 from rfl, show (11 : Int).toNat = 11 from rfl, show (12 : Int).toNat = 12 from rfl, show (13 : Int).toNat = 13 from rfl, show (14 : Int).toNat = 14 from rfl, Int.toNat_natCast] at r30 ⊢
    refine xa_if_eq (tgt := 38) eX8_end_33 (by decide) (by decide) (fun c33 => ?_) (fun c33 => ?_)
    · exact absurd c33 (by decide)
    · refine xa_iconst eX8_end_36 ?_
      exact xa_iret eX8_end_37 rfl ⟨_, rfl, by have h9 := hq; unfold o_end at h9; rw [if_neg c6] at h9; exact h9 _ _ _ (fun z => absurd z (Nat.succ_ne_zero _)) rfr.t (by rw [up_same]; rfl) hR⟩
theorem divS_eq {N j : Nat} {a : Int} {S : xS} (hj : j < N) : divS 0 N j a S = rwS 10 (32 * 0 + N) (xgr2 a (S 10 (32 * 0 + j)) (xbeg (S 10 (32 * 0 + j) 1) (S 10 (32 * 0 + j) 2) (S 10 (32 * 0 + j) 3 - a) (S 10 (32 * 0 + j) 4) (S 2 0 2))) (rwS 10 (32 * 0 + j) (xgr1 a (S 10 (32 * 0 + j))) (addT 0 N (S 10 (32 * 0 + j) 1) (S 10 (32 * 0 + j) 2) (S 10 (32 * 0 + j) 3 - a) (S 10 (32 * 0 + j) 4) S)) := by
  funext k y f
  unfold divS rwS addT
  by_cases c1 : k = 10 ∧ y = 32 * 0 + j
  · rw [if_pos c1, if_neg (by omega), if_pos c1]
  · rw [if_neg c1, if_neg c1]
    by_cases c2 : k = 10 ∧ y = 32 * 0 + N
    · rw [if_pos c2, if_pos c2]
    · rw [if_neg c2, if_neg c2]
      by_cases c3 : k = 2 ∧ y = 0 ∧ f = 1
      · rw [if_pos c3, if_pos c3]
      · rw [if_neg c3, if_neg c3, if_neg (by omega)]
theorem dv21 {N j : Nat} {a : Int} {S : xS} : divS 0 N j a S 2 0 1 = (N : Int) + 1 := by unfold divS; rw [if_neg (by omega), if_neg (by omega), if_pos ⟨rfl, rfl, rfl⟩]
/-- the reference's two rows, made into the class's -/
theorem Rel.div {n N j : Nat} {a : Int} {C : xS} {M M' : Nat → Int} (h : Rel 0 n N C M) (hj : j < N) (hN : N < 20) (ht : 0 ≤ C 2 0 2) (h0 : C 10 (32 * 0 + j) 0 = 0) (ho : ∀ i, i ≠ 2 → ¬ (103 + 18 * j ≤ i ∧ i < 103 + 18 * j + 18) → ¬ (103 + 18 * N ≤ i ∧ i < 103 + 18 * N + 18) → M' i = M i) (h2 : M' 2 = (N : Int) + 1) (hr : PR (C 2 0 2) (xgr1 a (C 10 (32 * 0 + j))) (fun f => M' (103 + 18 * j + f))) (hr2 : PR (C 2 0 2) (xgr2 a (C 10 (32 * 0 + j)) (xbeg (C 10 (32 * 0 + j) 1) (C 10 (32 * 0 + j) 2) (C 10 (32 * 0 + j) 3 - a) (C 10 (32 * 0 + j) 4) (C 2 0 2))) (fun f => M' (103 + 18 * N + f))) : Rel 0 n (N + 1) (divS 0 N j a C) M' := by
  rw [divS_eq hj]
  have e22 : ∀ o p b d, addT 0 N o p b d C 2 0 2 = C 2 0 2 := fun o p b d => by unfold addT; rw [if_neg (by omega), if_neg (by omega)]
  have h9 := h.pro (o := C 10 (32 * 0 + j) 1) (p := C 10 (32 * 0 + j) 2) (b := C 10 (32 * 0 + j) 3 - a) (d := C 10 (32 * 0 + j) 4) hN ht
  have h8 := h9.row (j := j) (M' := fun i => if 103 + 18 * j ≤ i ∧ i < 103 + 18 * j + 18 then M' i else apM N (C 10 (32 * 0 + j) 1) (C 10 (32 * 0 + j) 2) (C 10 (32 * 0 + j) 3 - a) (C 10 (32 * 0 + j) 4) M i) (F := xgr1 a (C 10 (32 * 0 + j))) (by omega) (by omega) (fun i hi => if_neg hi) (by rw [e22]; exact hr.g (fun f hf => if_pos (by omega)))
  refine h8.row (by omega) (by omega) (fun i hi => ?_) ?_
  · by_cases c1 : 103 + 18 * j ≤ i ∧ i < 103 + 18 * j + 18
    · rw [if_pos c1]
    · rw [if_neg c1]
      by_cases c2 : i = 2
      · subst c2; rw [apM_2]; exact h2
      · rw [apM_o hi c2]; exact ho i c2 c1 hi
  · rw [rwS_oth (by omega), e22]; exact hr2
set_option maxHeartbeats 400000 in
theorem F_split {w : xW} {S : xS} {B : String → xS → Prop} {A : Int → xS → Prop} {j a : Int} {n N : Nat} {T : Int} (hV : VS 0 n N T S) (hT : T ≤ 800000) (yj : xr j) (ya : xr a)  (hA : ∀ S', (o_split j a n N S).1 = 0 → scr S' (o_split j a n N S).2.2.2.2 → A (o_split j a n N S).2.1 S') (hB1 : ∀ S', (o_split j a n N S).1 = 1 → scr S' S → B "java/lang/IndexOutOfBoundsException" S') (hB2 : ∀ S', (o_split j a n N S).1 = 2 → scr S' S → B "java/lang/IllegalArgumentException" S') (hB3 : ∀ S', (o_split j a n N S).1 = 3 → scr S' S → B "java/lang/IllegalStateException" S') : Ki w mX7_split yX7_split 1 6 [xp 0 0, xi j, xi a] S A B := by
  refine K.of rfl rfl rfl rfl (Nat.le_of_ble_eq_true rfl) rfl ?_
  obtain ⟨hVT, hN20, h8, hg, hp, ho, hs⟩ := id hV
  have hn := hg.1
  have hN := hVT.1
  have ht := hVT.2.2.1
  refine xs_aload_0 eX7_split_0 ?_
  refine g_X7_0 eX7_split_1 lRX7_10 ?_
  refine g_X4_0 eX7_split_4 lRX7_88 ?_
  refine xs_iload_1 eX7_split_7 ?_
  by_cases c8 : 0 ≤ j ∧ j < (N : Int)
  · refine xbo_V10 (mi' := mX5_knownPromise) (y := yX5_knownPromise) eX7_split_8 (xw_5 lRX7_126 wy_X5_knownPromise) rfl ⟨wd_X5_knownPromise, by decide, by decide⟩ (by decide) (fun _ => rfl) rfl (Nat.le_of_ble_eq_true rfl) rfl (kI_X5_knownPromise hN (by omega) c8 ?_)
    have hTQ := hVT.2.2.2 j.toNat (by omega)
    unfold TQ at hTQ
    refine xs_astore_3 eX7_split_11 rfl ?_
    refine xs_iload_2 eX7_split_12 ?_
    refine xa_iconst eX7_split_13 ?_
    refine xs_aload_3 eX7_split_14 ?_
    refine gr_X1_3 eX7_split_15 lRX7_140 (fun r15 => ?_)
    try rw [hN] at r15 ⊢
    refine xa_iconst eX7_split_18 ?_
    refine xa_isub eX7_split_19 ?_
    by_cases c20 : 1 ≤ a ∧ a ≤ S 10 (32 * 0 + j.toNat) 3 - 1
    · refine xbv_S30 (mi' := mX7_checkRange) (y := yX7_checkRange) eX7_split_20 (xw_4 lRX7_45 wy_X7_checkRange) rfl rfl ⟨wd_X7_checkRange, by decide, by decide⟩ (Nat.le_of_ble_eq_true rfl) rfl (kk_X7_checkRange ya (by decide) (by omega) c20 ?_)
      refine xs_aload_3 eX7_split_23 ?_
      refine gr_X1_0 eX7_split_24 lRX7_130 (fun r24 => ?_)
      try rw [hN] at r24 ⊢
      refine xa_if_ne (tgt := 49) eX7_split_27 (by decide) (by omega) (fun c27 => ?_) (fun c27 => ?_)
      · refine xa_iconst eX7_split_49 ?_
        exact xbv_S1 (mi' := mX7_checkState) (y := yX7_checkState) eX7_split_50 (xw_4 lRX7_53 wy_X7_checkState) rfl rfl ⟨wd_X7_checkState, by decide, by decide⟩ (Nat.le_of_ble_eq_true rfl) rfl ⟨by decide, by decide⟩ (kt_X7_checkState (P := False) id (xt_out rfl (hB3 S (by unfold o_split; rw [if_pos c8, if_pos c20, if_neg (by omega)]) scr.rf)))
      · refine xs_aload_0 eX7_split_30 ?_
        refine g_X7_0 eX7_split_31 lRX7_10 ?_
        refine g_X4_0 eX7_split_34 lRX7_88 ?_
        refine gr_X5_1 eX7_split_37 lRX7_101 (fun r37 => ?_)
        try rw [hN] at r37 ⊢
        refine xa_bipush eX7_split_40 (by decide) ?_
        refine xa_icmp_ge (tgt := 49) eX7_split_42 (by decide) (by omega) (by omega) (fun c42 => ?_) (fun c42 => ?_)
        · refine xa_iconst eX7_split_49 ?_
          exact xbv_S1 (mi' := mX7_checkState) (y := yX7_checkState) eX7_split_50 (xw_4 lRX7_53 wy_X7_checkState) rfl rfl ⟨wd_X7_checkState, by decide, by decide⟩ (Nat.le_of_ble_eq_true rfl) rfl ⟨by decide, by decide⟩ (kt_X7_checkState (P := False) id (xt_out rfl (hB3 S (by unfold o_split; rw [if_pos c8, if_pos c20, if_neg (by omega)]) scr.rf)))
        · refine xa_iconst eX7_split_45 ?_
          refine xa_goto (tgt := 50) eX7_split_46 (by decide) ?_
          refine xbv_S10 (mi' := mX7_checkState) (y := yX7_checkState) eX7_split_50 (xw_4 lRX7_53 wy_X7_checkState) rfl rfl ⟨wd_X7_checkState, by decide, by decide⟩ (Nat.le_of_ble_eq_true rfl) rfl (kk_X7_checkState (P := True) trivial ?_)
          refine xs_aload_0 eX7_split_53 ?_
          refine g_X7_0 eX7_split_54 lRX7_10 ?_
          refine g_X4_0 eX7_split_57 lRX7_88 ?_
          refine xs_aload_3 eX7_split_60 ?_
          refine xs_iload_2 eX7_split_61 ?_
          refine xbv_V20 (mi' := mX5_divide) (y := yX5_divide) eX7_split_62 (xw_5 lRX7_143 wy_X5_divide) rfl ⟨wd_X5_divide, by decide, by decide⟩ (by decide) (fun _ => rfl) rfl (Nat.le_of_ble_eq_true rfl) rfl (f_X5_divide (t := 0) ya hN (by omega) (by omega) (by omega) (by omega) ?_)
          refine xs_aload_0 eX7_split_65 ?_
          refine g_X7_0 eX7_split_66 lRX7_10 ?_
          refine g_X4_0 eX7_split_69 lRX7_88 ?_
          refine gr_X5_1 eX7_split_72 lRX7_101 (fun r72 => ?_)
          try rw [dv21] at r72 ⊢
          refine xa_iconst eX7_split_75 ?_
          refine xa_isub eX7_split_76 ?_
          exact xa_iret eX7_split_77 rfl ⟨_, rfl, by have h9 := hA; unfold o_split at h9; rw [if_pos c8, if_pos c20, if_pos (by omega)] at h9; have h7 := h9 _ rfl scr.rf; rw [show (N : Int) + 1 - 1 = (N : Int) by omega]; exact h7⟩
    · exact xbv_S3 (mi' := mX7_checkRange) (y := yX7_checkRange) eX7_split_20 (xw_4 lRX7_45 wy_X7_checkRange) rfl rfl ⟨wd_X7_checkRange, by decide, by decide⟩ (Nat.le_of_ble_eq_true rfl) rfl ⟨by decide, by decide⟩ (kt_X7_checkRange ya (by decide) (by omega) c20 (xt_out rfl (hB2 S (by unfold o_split; rw [if_pos c8, if_neg c20]) scr.rf)))
  · exact xbo_V1 (mi' := mX5_knownPromise) (y := yX5_knownPromise) eX7_split_8 (xw_5 lRX7_126 wy_X5_knownPromise) rfl ⟨wd_X5_knownPromise, by decide, by decide⟩ (by decide) (fun _ => rfl) rfl (Nat.le_of_ble_eq_true rfl) rfl ⟨by decide, by decide⟩ (kt_X5_knownPromise hN (by omega) yj c8 (xt_out rfl (hB1 S (by unfold o_split; rw [if_neg c8]) scr.rf)))
def paM (N j : Nat) (a : Int) (M : Nat → Int) : Nat → Int := upM (upM (apM N (M (103 + 18 * j + 1)) (M (103 + 18 * j + 2)) (M (103 + 18 * j + 3) - a) (M (103 + 18 * j + 4)) M) (103 + 18 * N + 5) (M (103 + 18 * j + 5))) (103 + 18 * j + 3) a
def pbM (N j : Nat) (a : Int) (M : Nat → Int) : Nat → Int := upM (upM (upM (upM (upM (paM N j a M) (103 + 18 * j + 6) (xmin a (M (103 + 18 * j + 6)))) (103 + 18 * N + 6) (M (103 + 18 * j + 6) - xmin a (M (103 + 18 * j + 6)))) (103 + 18 * N + 7) (M (103 + 18 * j + 7))) (103 + 18 * N + 8) (M (103 + 18 * j + 8))) (103 + 18 * N + 17) 1
theorem paM_o {N j i : Nat} {a : Int} {M : Nat → Int} (h2 : i ≠ 2) (hj : i ≠ 103 + 18 * j + 3) (hN : ¬ (103 + 18 * N ≤ i ∧ i < 103 + 18 * N + 18)) : paM N j a M i = M i := by
  unfold paM
  rw [upM_o hj, upM_o (by omega), apM_o hN h2]
theorem paM_2 {N j : Nat} {a : Int} {M : Nat → Int} : paM N j a M 2 = (N : Int) + 1 := by
  unfold paM
  rw [upM_o (by omega), upM_o (by omega), apM_2]
theorem pbM_o {N j i : Nat} {a : Int} {M : Nat → Int} (hj : i ≠ 103 + 18 * j + 6) (hN : ¬ (103 + 18 * N ≤ i ∧ i < 103 + 18 * N + 18)) : pbM N j a M i = paM N j a M i := by
  unfold pbM
  rw [upM_o (by omega), upM_o (by omega), upM_o (by omega), upM_o (by omega), upM_o hj]
theorem paM_N {N j f : Nat} {a : Int} {M : Nat → Int} (hj : j < N) (hf : f < 18) : paM N j a M (103 + 18 * N + f) = if f = 5 then M (103 + 18 * j + 5) else (if f = 1 then M (103 + 18 * j + 1) else if f = 2 then M (103 + 18 * j + 2) else if f = 3 then M (103 + 18 * j + 3) - a else if f = 4 then M (103 + 18 * j + 4) else if f = 5 then M 0 else if f = 8 then -1 else if f = 9 then -1 else if f = 10 then -1 else 0) := by
  unfold paM
  rw [upM_o (by omega)]
  by_cases c : f = 5
  · subst c; rw [upM_same, if_pos rfl]
  · rw [upM_o (by omega), apM_r hf]; exact (if_neg c).symm
theorem pbM_N {N j f : Nat} {a : Int} {M : Nat → Int} (hj : j < N) (hf : f < 18) : pbM N j a M (103 + 18 * N + f) = if f = 17 then 1 else if f = 8 then M (103 + 18 * j + 8) else if f = 7 then M (103 + 18 * j + 7) else if f = 6 then M (103 + 18 * j + 6) - xmin a (M (103 + 18 * j + 6)) else paM N j a M (103 + 18 * N + f) := by
  unfold pbM
  by_cases c17 : f = 17
  · subst c17; rw [upM_same, if_pos rfl]
  · rw [upM_o (by omega), if_neg c17]
    by_cases c8 : f = 8
    · subst c8; rw [upM_same, if_pos rfl]
    · rw [upM_o (by omega), if_neg c8]
      by_cases c7 : f = 7
      · subst c7; rw [upM_same, if_pos rfl]
      · rw [upM_o (by omega), if_neg c7]
        by_cases c6 : f = 6
        · subst c6; rw [upM_same, if_pos rfl]
        · rw [upM_o (by omega), if_neg c6, upM_o (by omega)]
theorem xmin_comm (a b : Int) : xmin a b = xmin b a := by unfold xmin; split <;> split <;> omega
theorem xgr2_6 (a : Int) (F R : Nat → Int) : xgr2 a F R 6 = F 6 - xmin a (F 6) := by
  show xmax 0 (F 6 - a) = _
  unfold xmax xmin
  split <;> split <;> omega
theorem Rel.par {n N j : Nat} {a : Int} {C : xS} {M : Nat → Int} (h : Rel 0 n N C M) (hj : j < N) (hN : N < 20) (ht : 0 ≤ C 2 0 2) (h0 : C 10 (32 * 0 + j) 0 = 0) (ha : 0 ≤ a) : Rel 0 n (N + 1) (divS 0 N j a C) (if C 2 0 2 < C 10 (32 * 0 + j) 7 then pbM N j a M else paM N j a M) := by
  have hr := id (h.2.2.1 j hj)
  unfold PR at hr
  obtain ⟨r1, r2, r3⟩ := hr
  have q := fun f h1 h6 h7 h8 => r1 f h1 h6 h7 h8
  dsimp only at q r2 r3
  have eqr : ∀ f, f ≤ 16 → f ≠ 3 → f ≠ 6 → f ≠ 7 → f ≠ 8 → xgr1 a (C 10 (32 * 0 + j)) f = C 10 (32 * 0 + j) f := fun f h1 h2 h3 h4 h5 => by unfold xgr1; rw [if_neg h2, if_neg h3]
  have eN : ∀ f, f ≤ 16 → f ≠ 6 → f ≠ 7 → f ≠ 8 → paM N j a M (103 + 18 * N + f) = xgr2 a (C 10 (32 * 0 + j)) (xbeg (C 10 (32 * 0 + j) 1) (C 10 (32 * 0 + j) 2) (C 10 (32 * 0 + j) 3 - a) (C 10 (32 * 0 + j) 4) (C 2 0 2)) f := fun f h1 h2 h3 h4 => by
    rw [paM_N hj (by omega), q 5 (by decide) (by decide) (by decide) (by decide), q 1 (by decide) (by decide) (by decide) (by decide), q 2 (by decide) (by decide) (by decide) (by decide), q 3 (by decide) (by decide) (by decide) (by decide), q 4 (by decide) (by decide) (by decide) (by decide)]
    unfold xgr2 xbeg
    have hf9 : f = 0 ∨ f = 1 ∨ f = 2 ∨ f = 3 ∨ f = 4 ∨ f = 5 ∨ f = 9 ∨ f = 10 ∨ f = 11 ∨ f = 12 ∨ f = 13 ∨ f = 14 ∨ f = 15 ∨ f = 16 := by omega
    rcases hf9 with rfl | rfl | rfl | rfl | rfl | rfl | rfl | rfl | rfl | rfl | rfl | rfl | rfl | rfl <;> rfl
  have ej : ∀ f, f ≤ 16 → f ≠ 6 → f ≠ 7 → f ≠ 8 → paM N j a M (103 + 18 * j + f) = xgr1 a (C 10 (32 * 0 + j)) f := fun f h1 h2 h3 h4 => by
    by_cases c : f = 3
    · subst c; unfold paM; rw [upM_same]; rfl
    · rw [paM_o (by omega) (by omega) (by omega), eqr f h1 c h2 h3 h4]; exact q f h1 h2 h3 h4
  have e7 : ∀ R, xgr2 a (C 10 (32 * 0 + j)) R 7 = C 10 (32 * 0 + j) 7 := fun R => rfl
  have e8 : ∀ R, xgr2 a (C 10 (32 * 0 + j)) R 8 = C 10 (32 * 0 + j) 8 := fun R => rfl
  by_cases c : C 2 0 2 < C 10 (32 * 0 + j) 7
  · rw [if_pos c]
    have r4 : M (103 + 18 * j + 17) = 1 ∧ M (103 + 18 * j + 6) = C 10 (32 * 0 + j) 6 ∧ M (103 + 18 * j + 7) = C 10 (32 * 0 + j) 7 ∧ M (103 + 18 * j + 8) = C 10 (32 * 0 + j) 8 := by omega
    refine h.div hj hN ht h0 (fun i h2 h3 h4 => ?_) ?_ ⟨fun f h1 h2 h3 h4 => ?_, ?_, Or.inl ⟨c, ?_, ?_, ?_, ?_⟩⟩ ⟨fun f h1 h2 h3 h4 => ?_, ?_, Or.inl ⟨?_, ?_, ?_, ?_, ?_⟩⟩
    · rw [pbM_o (by omega) h4, paM_o h2 (by omega) h4]
    · rw [pbM_o (by omega) (by omega), paM_2]
    · show pbM N j a M _ = _; rw [pbM_o (by omega) (by omega)]; exact ej f h1 h2 h3 h4
    · show 0 ≤ pbM N j a M _ ∧ pbM N j a M _ ≤ _; rw [pbM_o (by omega) (by omega), paM_o (by omega) (by omega) (by omega)]; exact r2
    · show pbM N j a M _ = _; rw [pbM_o (by omega) (by omega), paM_o (by omega) (by omega) (by omega)]; exact r4.1
    · show pbM N j a M _ = xmin (C 10 (32 * 0 + j) 6) a
      unfold pbM
      rw [upM_o (by omega), upM_o (by omega), upM_o (by omega), upM_o (by omega), upM_same, r4.2.1, xmin_comm]
    · show pbM N j a M _ = C 10 (32 * 0 + j) 7; rw [pbM_o (by omega) (by omega), paM_o (by omega) (by omega) (by omega)]; exact r4.2.2.1
    · show pbM N j a M _ = C 10 (32 * 0 + j) 8; rw [pbM_o (by omega) (by omega), paM_o (by omega) (by omega) (by omega)]; exact r4.2.2.2
    · show pbM N j a M _ = _; rw [pbM_N hj (by omega), if_neg (by omega), if_neg h4, if_neg h3, if_neg h2]; exact eN f h1 h2 h3 h4
    · show 0 ≤ pbM N j a M _ ∧ pbM N j a M _ ≤ _; rw [pbM_N hj (by decide), if_neg (by decide), if_neg (by decide), if_pos rfl]; exact r2
    · rw [e7]; exact c
    · show pbM N j a M _ = _; rw [pbM_N hj (by decide), if_pos rfl]
    · show pbM N j a M _ = _; rw [pbM_N hj (by decide), if_neg (by decide), if_neg (by decide), if_neg (by decide), if_pos rfl, xgr2_6, r4.2.1]
    · show pbM N j a M _ = _; rw [pbM_N hj (by decide), if_neg (by decide), if_neg (by decide), if_pos rfl, e7]; exact r4.2.2.1
    · show pbM N j a M _ = _; rw [pbM_N hj (by decide), if_neg (by decide), if_pos rfl, e8]; exact r4.2.2.2
  · rw [if_neg c]
    have r4 : C 10 (32 * 0 + j) 6 = 0 ∧ (M (103 + 18 * j + 17) = 0 ∨ M (103 + 18 * j + 17) = 1 ∧ M (103 + 18 * j + 7) ≤ C 2 0 2) := by omega
    refine h.div hj hN ht h0 (fun i h2 h3 h4 => ?_) ?_ ⟨fun f h1 h2 h3 h4 => ?_, ?_, Or.inr ⟨?_, ?_, ?_⟩⟩ ⟨fun f h1 h2 h3 h4 => ?_, ?_, Or.inr ⟨?_, ?_, Or.inl ?_⟩⟩
    · rw [paM_o h2 (by omega) h4]
    · rw [paM_2]
    · exact ej f h1 h2 h3 h4
    · show 0 ≤ paM N j a M _ ∧ paM N j a M _ ≤ _; rw [paM_o (by omega) (by omega) (by omega)]; exact r2
    · show C 10 (32 * 0 + j) 7 ≤ _; omega
    · show xmin (C 10 (32 * 0 + j) 6) a = 0; unfold xmin; split <;> omega
    · show paM N j a M _ = 0 ∨ paM N j a M _ = 1 ∧ paM N j a M _ ≤ _; rw [paM_o (by omega) (by omega) (by omega), paM_o (by omega) (by omega) (by omega)]; exact r4.2
    · exact eN f h1 h2 h3 h4
    · show 0 ≤ paM N j a M _ ∧ paM N j a M _ ≤ _; rw [paM_N hj (by decide)]; show 0 ≤ (0 : Int) ∧ (0 : Int) ≤ 2000000; decide
    · rw [e7]; omega
    · rw [xgr2_6, r4.1]; unfold xmin; split <;> omega
    · show paM N j a M _ = 0; rw [paM_N hj (by decide)]; rfl
