/-! the reference: spare, saved states, small ones -/
set_option maxHeartbeats 400000 in
theorem F_spare {w : xW} {S : xS} {B : String → xS → Prop} {A : Int → xS → Prop} {n N : Nat} {T : Int} (hV : VS 0 n N T S) (hT : T ≤ 800000) (hA : ∀ S', scr S' S → A (freT 0 N 360 S) S') : Ki w mX7_spare yX7_spare 0 0 [xp 0 0] S A B := by
  refine K.of rfl rfl rfl rfl (Nat.le_of_ble_eq_true rfl) rfl ?_
  obtain ⟨hVT, hN20, h8, hg, hp9, ho9, hs⟩ := id hV
  have hn := hg.1
  have hN := hVT.1
  have ht := hVT.2.2.1
  refine xs_aload_0 eX7_spare_0 ?_
  refine g_X7_4 eX7_spare_1 lRX7_30 ?_
  refine xs_aload_0 eX7_spare_4 ?_
  refine g_X7_0 eX7_spare_5 lRX7_10 ?_
  refine g_X4_0 eX7_spare_8 lRX7_88 ?_
  refine xbv_V10 (mi' := mX5_copyFrom) (y := yX5_copyFrom) eX7_spare_11 (xw_5 lRX7_119 wy_X5_copyFrom) rfl ⟨wd_X5_copyFrom, by decide, by decide⟩ (by decide) (fun _ => rfl) rfl (Nat.le_of_ble_eq_true rfl) rfl (f_X5_copyFrom (t := 0) (u := 5) (by decide) hVT (by omega) ?_)
  refine xs_aload_0 eX7_spare_14 ?_
  refine g_X7_4 eX7_spare_15 lRX7_30 ?_
  refine xbi_V00 (mi' := mX5_passFreeTicks) (y := yX5_passFreeTicks) eX7_spare_18 (xw_5 lRX7_163 wy_X5_passFreeTicks) rfl ⟨wd_X5_passFreeTicks, by decide, by decide⟩ (by decide) (fun _ => rfl) rfl (Nat.le_of_ble_eq_true rfl) rfl (f_X5_passFreeTicks hVT.cpy (by omega) (fun S1 hx1 => ?_))
  exact xa_iret eX7_spare_21 rfl ⟨_, rfl, by have h9 := hA S1 ((hx1.tr (cpyT_fr (by omega))).scr (by decide)); rw [← (tlq.cpy (t := 0) (u := 5) (N := N) (C := S)).fre] at h9; exact h9⟩
set_option maxHeartbeats 400000 in
theorem G_spare {w : xW} {S : xS} {B : String → xS → Prop} {A : Int → xS → Prop} {n N : Nat} {T : Int} {C : xS} {M : Nat → Int} (hV : VS 0 n N T C) (hT : T ≤ 800000) (hR : Rel 0 n N C M) (hok : okT 0 N 360 C = true) (hq : ∀ S', rfr S' S → S' 30 0 4 = 0 → A (freT 0 N 360 C) (stM M S')) : Ki w mX8_spare yX8_spare 0 0 [xp 30 0] (stM M S) A B := by
  refine K.of rfl rfl rfl rfl (Nat.le_of_ble_eq_true rfl) rfl ?_
  obtain ⟨hVT, hN20, h8, hg, hp9, ho9, hs⟩ := id hV
  have hn := hg.1
  have hN := hVT.1
  have ht := hVT.2.2.1
  refine xs_aload_0 eX8_spare_0 ?_
  refine xa_iconst eX8_spare_1 ?_
  refine p_X8_4 eX8_spare_2 lRX8_52 (by decide) ?_
  rw [up_stO (by decide)]
  refine xs_aload_0 eX8_spare_5 ?_
  refine xbv_V00 (mi' := mX8_layLine) (y := yX8_layLine) eX8_spare_6 (xw_5 lRX8_157 wy_X8_layLine) rfl ⟨wd_X8_layLine, by decide, by decide⟩ (by decide) (fun _ => rfl) rfl (Nat.le_of_ble_eq_true rfl) rfl (f_X8_layLine hV (by omega) (by rw [stM_31]; exact hR) (fun S1 hx1 hR1 => ?_))
  refine xs_aload_0 eX8_spare_9 ?_
  refine xbi_V00 (mi' := mX8_runsWell) (y := yX8_runsWell) eX8_spare_10 (xw_5 lRX8_163 wy_X8_runsWell) rfl ⟨wd_X8_runsWell, by decide, by decide⟩ (by decide) (fun _ => rfl) rfl (Nat.le_of_ble_eq_true rfl) rfl (f_X8_runsWell (u := 0) hV.1 (by omega) hR1 (by rw [hx1.1 31 0 (Or.inl (by decide)) (by decide), stM_31]; exact hR.1 0 (by decide)) (fun S2 hx2 hf2 => ?_))
  refine xs_istore_1 eX8_spare_13 rfl ?_
  refine xs_iload_1 eX8_spare_14 ?_
  refine xa_ifb_eq (tgt := 25) eX8_spare_15 (by decide) (fun c15 => ?_) (fun c15 => ?_)
  · exact absurd hok c15
  · refine xs_aload_0 eX8_spare_18 ?_
    refine gr_X8_12 eX8_spare_19 lRX8_146 (fun r19 => ?_)
    refine xa_goto (tgt := 29) eX8_spare_22 (by decide) ?_
    exact xa_iret eX8_spare_29 rfl ⟨_, rfl, by have hx := hx2.tr hx1; have e31 : S2 31 0 = M := (by rw [hx.1 31 0 (Or.inl (by decide)) (by decide), stM_31]); have h9 := hq S2 ⟨fun k j hk => by rw [hx.1 k j (by omega) (by omega), stM_k (by omega), up_oth (by omega)], fun f hf => by rw [hx.2 0 f (by omega) (by omega), stM_k (by decide), up_f (by omega)]⟩ (by rw [hx.2 0 4 (by decide) (by decide), stM_k (by decide), up_same]); have e := stM_self S2; rw [e31] at e; rw [e] at h9; rw [hf2 hok]; exact h9⟩
set_option maxHeartbeats 400000 in
theorem G_errorCode {w : xW} {S : xS} {B : String → xS → Prop} {A : Int → xS → Prop} (hq : A (S 30 0 20) (up S 30 0 4 0)) : Ki w mX8_errorCode yX8_errorCode 0 0 [xp 30 0] S A B := by
  refine K.of rfl rfl rfl rfl (Nat.le_of_ble_eq_true rfl) rfl ?_
  refine xs_aload_0 eX8_errorCode_0 ?_
  refine xa_iconst eX8_errorCode_1 ?_
  refine p_X8_4 eX8_errorCode_2 lRX8_52 (by decide) ?_
  refine xs_aload_0 eX8_errorCode_5 ?_
  refine gr_X8_20 eX8_errorCode_6 lRX8_317 (fun r6 => ?_)
  exact xa_iret eX8_errorCode_9 rfl ⟨_, rfl, hq⟩
set_option maxHeartbeats 400000 in
theorem G_errorPosition {w : xW} {S : xS} {B : String → xS → Prop} {A : Int → xS → Prop} (hq : A (S 30 0 21) (up S 30 0 4 0)) : Ki w mX8_errorPosition yX8_errorPosition 0 0 [xp 30 0] S A B := by
  refine K.of rfl rfl rfl rfl (Nat.le_of_ble_eq_true rfl) rfl ?_
  refine xs_aload_0 eX8_errorPosition_0 ?_
  refine xa_iconst eX8_errorPosition_1 ?_
  refine p_X8_4 eX8_errorPosition_2 lRX8_52 (by decide) ?_
  refine xs_aload_0 eX8_errorPosition_5 ?_
  refine gr_X8_21 eX8_errorPosition_6 lRX8_45 (fun r6 => ?_)
  exact xa_iret eX8_errorPosition_9 rfl ⟨_, rfl, hq⟩
set_option maxHeartbeats 400000 in
theorem G_truncateText {w : xW} {S : xS} {B : String → xS → Prop} {A : Int → xS → Prop} {a : Int} (ya : xr a) (h14 : xr (S 30 0 14)) (hq1 : 0 ≤ a ∧ a ≤ S 30 0 14 → A a (up (up S 30 0 4 0) 30 0 14 a)) (hq0 : ¬ (0 ≤ a ∧ a ≤ S 30 0 14) → A 0 (up (up S 30 0 4 0) 30 0 4 1)) : Ki w mX8_truncateText yX8_truncateText 0 0 [xp 30 0, xi a] S A B := by
  refine K.of rfl rfl rfl rfl (Nat.le_of_ble_eq_true rfl) rfl ?_
  refine xs_aload_0 eX8_truncateText_0 ?_
  refine xa_iconst eX8_truncateText_1 ?_
  refine p_X8_4 eX8_truncateText_2 lRX8_52 (by decide) ?_
  refine xs_iload_1 eX8_truncateText_5 ?_
  refine xa_i2l eX8_truncateText_6 (by omega) ?_
  refine xa_lconst0 eX8_truncateText_7 ?_
  refine xs_aload_0 eX8_truncateText_8 ?_
  refine gr_X8_14 eX8_truncateText_9 lRX8_264 (fun r9 => ?_)
  try simp (decide := true) only [up_app, if_true, if_false, and_true, true_and, and_false, false_and, Int.toNat_natCast] at r9 ⊢
  refine xa_i2l eX8_truncateText_12 (by omega) ?_
  refine xbi_S30 (mi' := mX8_isBetween) (y := yX8_isBetween) eX8_truncateText_13 (xw_4 lRX8_61 wy_X8_isBetween) rfl rfl ⟨wd_X8_isBetween, by decide, by decide⟩ (Nat.le_of_ble_eq_true rfl) rfl (k_X8_isBetween (by omega) (by decide) (by omega) ?_)
  refine xa_ifb_ne (tgt := 25) eX8_truncateText_16 (by decide) (fun c16 => ?_) (fun c16 => ?_)
  · refine xs_aload_0 eX8_truncateText_25 ?_
    refine xs_iload_1 eX8_truncateText_26 ?_
    refine p_X8_14 eX8_truncateText_27 lRX8_264 (by omega) ?_
    refine xs_aload_0 eX8_truncateText_30 ?_
    refine gr_X8_14 eX8_truncateText_31 lRX8_264 (fun r31 => ?_)
    try simp (decide := true) only [up_app, if_true, if_false, and_true, true_and, and_false, false_and, Int.toNat_natCast] at r31 ⊢
    exact xa_iret eX8_truncateText_34 rfl ⟨_, rfl, hq1 c16⟩
  · refine xs_aload_0 eX8_truncateText_19 ?_
    refine xa_iconst eX8_truncateText_20 ?_
    refine xbi_V10 (mi' := mX8_fail) (y := yX8_fail) eX8_truncateText_21 (xw_5 lRX8_89 wy_X8_fail) rfl ⟨wd_X8_fail, by decide, by decide⟩ (by decide) (fun _ => rfl) rfl (Nat.le_of_ble_eq_true rfl) rfl (k_X8_fail (by decide) ?_)
    exact xa_iret eX8_truncateText_24 rfl ⟨_, rfl, hq0 c16⟩
set_option maxHeartbeats 400000 in
theorem G_save {w : xW} {S : xS} {B : String → xS → Prop} {A : xS → Prop} {i : Int} (yi : xr i) (hq1 : 0 ≤ i ∧ i < 2 → A (up (cpA 31 0 33 (527 * i.toNat) 527 (up S 30 0 4 0)) 34 0 i.toNat 1)) (hq0 : ¬ (0 ≤ i ∧ i < 2) → A (up S 30 0 4 1)) : Kv w mX8_save yX8_save 0 0 [xp 30 0, xi i] S A B := by
  refine K.of rfl rfl rfl rfl (Nat.le_of_ble_eq_true rfl) rfl ?_
  refine xs_aload_0 eX8_save_0 ?_
  refine xs_iload_1 eX8_save_1 ?_
  refine xa_i2l eX8_save_2 (by omega) ?_
  refine xa_lconst0 eX8_save_3 ?_
  refine xa_lconst1 eX8_save_4 ?_
  refine xbi_S30 (mi' := mX8_isBetween) (y := yX8_isBetween) eX8_save_5 (xw_4 lRX8_61 wy_X8_isBetween) rfl rfl ⟨wd_X8_isBetween, by decide, by decide⟩ (Nat.le_of_ble_eq_true rfl) rfl (k_X8_isBetween (by omega) (by decide) (by decide) ?_)
  refine xa_ifb_eq (tgt := 15) eX8_save_8 (by decide) (fun c8 => ?_) (fun c8 => ?_)
  · refine xa_iconst eX8_save_15 ?_
    refine p_X8_4 eX8_save_16 lRX8_52 (by decide) ?_
    refine xs_aload_0 eX8_save_19 ?_
    refine gr_X8_4 eX8_save_20 lRX8_52 (fun r20 => ?_)
    try simp only [up_same] at r20 ⊢
    refine xa_if_ne (tgt := 50) eX8_save_23 (by decide) (by decide) (fun c23 => ?_) (fun c23 => ?_)
    · exact xa_vret eX8_save_50 rfl ⟨rfl, hq0 (by omega)⟩
    · exact absurd c23 (by decide)
  · refine xa_iconst eX8_save_11 ?_
    refine xa_goto (tgt := 16) eX8_save_12 (by decide) ?_
    refine p_X8_4 eX8_save_16 lRX8_52 (by decide) ?_
    refine xs_aload_0 eX8_save_19 ?_
    refine gr_X8_4 eX8_save_20 lRX8_52 (fun r20 => ?_)
    try simp only [up_same] at r20 ⊢
    refine xa_if_ne (tgt := 50) eX8_save_23 (by decide) (by decide) (fun c23 => ?_) (fun c23 => ?_)
    · exact absurd rfl c23
    · rcases (show i = 0 ∨ i = 1 by omega) with rfl | rfl
      · refine xs_aload_0 eX8_save_26 ?_
        refine g_X8_0 eX8_save_27 lRX8_7 ?_
        refine xa_iconst eX8_save_30 ?_
        refine xs_aload_0 eX8_save_31 ?_
        refine g_X8_2 eX8_save_32 lRX8_16 ?_
        refine xa_sipush eX8_save_35 (by decide) ?_
        refine xs_iload_1 eX8_save_38 ?_
        refine xa_imul eX8_save_39 ?_
        rw [show (527 : Int) * 0 = ((0 : Nat) : Int) from rfl]
        refine xbv_S40 (mi' := mX8_copy) (y := yX8_copy) eX8_save_40 (xw_4 lRX8_180 wy_X8_copy) rfl rfl ⟨wd_X8_copy, by decide, by decide⟩ (Nat.le_of_ble_eq_true rfl) rfl (k_X8_copy_31_33 (b := 0) (by decide) ?_)
        refine xs_aload_0 eX8_save_43 ?_
        refine g_X8_3 eX8_save_44 lRX8_19 ?_
        refine xs_iload_1 eX8_save_47 ?_
        refine xa_iconst eX8_save_48 ?_
        refine pa_34 eX8_save_49 (by decide) (by decide) ?_
        exact xa_vret eX8_save_50 rfl ⟨rfl, hq1 (by decide)⟩
      · refine xs_aload_0 eX8_save_26 ?_
        refine g_X8_0 eX8_save_27 lRX8_7 ?_
        refine xa_iconst eX8_save_30 ?_
        refine xs_aload_0 eX8_save_31 ?_
        refine g_X8_2 eX8_save_32 lRX8_16 ?_
        refine xa_sipush eX8_save_35 (by decide) ?_
        refine xs_iload_1 eX8_save_38 ?_
        refine xa_imul eX8_save_39 ?_
        rw [show (527 : Int) * 1 = ((527 : Nat) : Int) from rfl]
        refine xbv_S40 (mi' := mX8_copy) (y := yX8_copy) eX8_save_40 (xw_4 lRX8_180 wy_X8_copy) rfl rfl ⟨wd_X8_copy, by decide, by decide⟩ (Nat.le_of_ble_eq_true rfl) rfl (k_X8_copy_31_33 (b := 527) (by decide) ?_)
        refine xs_aload_0 eX8_save_43 ?_
        refine g_X8_3 eX8_save_44 lRX8_19 ?_
        refine xs_iload_1 eX8_save_47 ?_
        refine xa_iconst eX8_save_48 ?_
        refine pa_34 eX8_save_49 (by decide) (by decide) ?_
        exact xa_vret eX8_save_50 rfl ⟨rfl, hq1 (by decide)⟩
set_option maxHeartbeats 400000 in
theorem G_restore {w : xW} {S : xS} {B : String → xS → Prop} {A : xS → Prop} {i : Int} (yi : xr i) (hq1 : 0 ≤ i ∧ i < 2 → S 34 0 i.toNat ≠ 0 → A (cpA 33 (527 * i.toNat) 31 0 527 (up S 30 0 4 0))) (hq0 : ¬ (0 ≤ i ∧ i < 2) → A (up S 30 0 4 1)) (hq2 : 0 ≤ i ∧ i < 2 → S 34 0 i.toNat = 0 → A (up S 30 0 4 2)) : Kv w mX8_restore yX8_restore 0 0 [xp 30 0, xi i] S A B := by
  refine K.of rfl rfl rfl rfl (Nat.le_of_ble_eq_true rfl) rfl ?_
  refine xs_aload_0 eX8_restore_0 ?_
  refine xs_iload_1 eX8_restore_1 ?_
  refine xa_i2l eX8_restore_2 (by omega) ?_
  refine xa_lconst0 eX8_restore_3 ?_
  refine xa_lconst1 eX8_restore_4 ?_
  refine xbi_S30 (mi' := mX8_isBetween) (y := yX8_isBetween) eX8_restore_5 (xw_4 lRX8_61 wy_X8_isBetween) rfl rfl ⟨wd_X8_isBetween, by decide, by decide⟩ (Nat.le_of_ble_eq_true rfl) rfl (k_X8_isBetween (by omega) (by decide) (by decide) ?_)
  refine xa_ifb_ne (tgt := 15) eX8_restore_8 (by decide) (fun c8 => ?_) (fun c8 => ?_)
  · refine xs_aload_0 eX8_restore_15 ?_
    refine g_X8_3 eX8_restore_16 lRX8_19 ?_
    refine xs_iload_1 eX8_restore_19 ?_
    refine gar_34 eX8_restore_20 (by omega) (fun r20 => ?_)
    try simp only [up_same] at r20 ⊢
    refine xa_if_ne (tgt := 28) eX8_restore_21 (by decide) (by omega) (fun c21 => ?_) (fun c21 => ?_)
    · refine xa_iconst eX8_restore_28 ?_
      refine p_X8_4 eX8_restore_29 lRX8_52 (by decide) ?_
      refine xs_aload_0 eX8_restore_32 ?_
      refine gr_X8_4 eX8_restore_33 lRX8_52 (fun r33 => ?_)
      try simp only [up_same] at r33 ⊢
      refine xa_if_ne (tgt := 56) eX8_restore_36 (by decide) (by decide) (fun c36 => ?_) (fun c36 => ?_)
      · exact absurd rfl c36
      · rcases (show i = 0 ∨ i = 1 by omega) with rfl | rfl
        · refine xs_aload_0 eX8_restore_39 ?_
          refine g_X8_2 eX8_restore_40 lRX8_16 ?_
          refine xa_sipush eX8_restore_43 (by decide) ?_
          refine xs_iload_1 eX8_restore_46 ?_
          refine xa_imul eX8_restore_47 ?_
          rw [show (527 : Int) * 0 = ((0 : Nat) : Int) from rfl]
          refine xs_aload_0 eX8_restore_48 ?_
          refine g_X8_0 eX8_restore_49 lRX8_7 ?_
          refine xa_iconst eX8_restore_52 ?_
          refine xbv_S40 (mi' := mX8_copy) (y := yX8_copy) eX8_restore_53 (xw_4 lRX8_180 wy_X8_copy) rfl rfl ⟨wd_X8_copy, by decide, by decide⟩ (Nat.le_of_ble_eq_true rfl) rfl (k_X8_copy_33_31 (a := 0) (by decide) ?_)
          exact xa_vret eX8_restore_56 rfl ⟨rfl, hq1 (by decide) (by simpa using c21)⟩
        · refine xs_aload_0 eX8_restore_39 ?_
          refine g_X8_2 eX8_restore_40 lRX8_16 ?_
          refine xa_sipush eX8_restore_43 (by decide) ?_
          refine xs_iload_1 eX8_restore_46 ?_
          refine xa_imul eX8_restore_47 ?_
          rw [show (527 : Int) * 1 = ((527 : Nat) : Int) from rfl]
          refine xs_aload_0 eX8_restore_48 ?_
          refine g_X8_0 eX8_restore_49 lRX8_7 ?_
          refine xa_iconst eX8_restore_52 ?_
          refine xbv_S40 (mi' := mX8_copy) (y := yX8_copy) eX8_restore_53 (xw_4 lRX8_180 wy_X8_copy) rfl rfl ⟨wd_X8_copy, by decide, by decide⟩ (Nat.le_of_ble_eq_true rfl) rfl (k_X8_copy_33_31 (a := 527) (by decide) ?_)
          exact xa_vret eX8_restore_56 rfl ⟨rfl, hq1 (by decide) (by simpa using c21)⟩
    · refine xa_iconst eX8_restore_24 ?_
      refine xa_goto (tgt := 29) eX8_restore_25 (by decide) ?_
      refine p_X8_4 eX8_restore_29 lRX8_52 (by decide) ?_
      refine xs_aload_0 eX8_restore_32 ?_
      refine gr_X8_4 eX8_restore_33 lRX8_52 (fun r33 => ?_)
      try simp only [up_same] at r33 ⊢
      refine xa_if_ne (tgt := 56) eX8_restore_36 (by decide) (by decide) (fun c36 => ?_) (fun c36 => ?_)
      · exact xa_vret eX8_restore_56 rfl ⟨rfl, hq2 (by omega) (by omega)⟩
      · exact absurd c36 (by decide)
  · refine xa_iconst eX8_restore_11 ?_
    refine xa_goto (tgt := 29) eX8_restore_12 (by decide) ?_
    refine p_X8_4 eX8_restore_29 lRX8_52 (by decide) ?_
    refine xs_aload_0 eX8_restore_32 ?_
    refine gr_X8_4 eX8_restore_33 lRX8_52 (fun r33 => ?_)
    try simp only [up_same] at r33 ⊢
    refine xa_if_ne (tgt := 56) eX8_restore_36 (by decide) (by decide) (fun c36 => ?_) (fun c36 => ?_)
    · exact xa_vret eX8_restore_56 rfl ⟨rfl, hq0 (by omega)⟩
    · exact absurd c36 (by decide)
