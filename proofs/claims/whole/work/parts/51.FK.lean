/-! load and mean price -/
set_option maxHeartbeats 400000 in
theorem F_load {w : xW} {S : xS} {B : String → xS → Prop} {A : UInt64 → xS → Prop} {n N : Nat} {T : Int} (hV : VS 0 n N T S) (hT : T ≤ 800000) (hA : ∀ D S', dsm (fun j => xshr (S 10 (32 * 0 + j))) (fun j => S 10 (32 * 0 + j) 0 = 0) N D → scr S' S → A D S') : Kd w mX7_load yX7_load 0 0 [xp 0 0] S A B := by
  refine K.of rfl rfl rfl rfl (Nat.le_of_ble_eq_true rfl) rfl ?_
  obtain ⟨hVT, hN20, h8, hg, hp9, ho9, hs⟩ := id hV
  have hn := hg.1
  have hN := hVT.1
  have ht := hVT.2.2.1
  refine xs_aload_0 eX7_load_0 ?_
  refine g_X7_0 eX7_load_1 lRX7_10 ?_
  refine g_X4_0 eX7_load_4 lRX7_88 ?_
  refine xbd_V00 (mi' := mX5_sumOfShares) (y := yX5_sumOfShares) eX7_load_7 (xw_5 lRX7_159 wy_X5_sumOfShares) rfl ⟨wd_X5_sumOfShares, by decide, by decide⟩ (by decide) (fun _ => rfl) rfl (Nat.le_of_ble_eq_true rfl) rfl (k_X5_sumOfShares hN (by omega) (fun j hj _ _ => by have z := hVT.2.2.2 j hj; unfold TQ at z; exact (psD_ddiv (by omega) (by omega)).vf) (fun j hj _ D hD => (psD_dadd (psD_dsm (fun i hi _ => ps_shr (hVT.2.2.2 i (by omega))) hD) (ps_shr (hVT.2.2.2 j hj))).vf) (fun D hD => ?_))
  exact xa_dret eX7_load_10 rfl ⟨_, rfl, hA D S hD scr.rf⟩
set_option maxHeartbeats 400000 in
theorem G_load {w : xW} {S : xS} {B : String → xS → Prop} {A : UInt64 → xS → Prop} {n N : Nat} {T : Int} {C : xS} {M : Nat → Int} (hV : VS 0 n N T C) (hT : T ≤ 800000) (hR : Rel 0 n N C M) (hq : ∀ D S' M', dsm (fun j => xshr (C 10 (32 * 0 + j))) (fun j => C 10 (32 * 0 + j) 0 = 0) N D → rfr S' S → S' 30 0 4 = 0 → Rel 0 n N C M' → A D (stM M' S')) : Kd w mX8_load yX8_load 0 0 [xp 30 0] (stM M S) A B := by
  refine K.of rfl rfl rfl rfl (Nat.le_of_ble_eq_true rfl) rfl ?_
  obtain ⟨hVT, hN20, h8, hg, hp9, ho9, hs⟩ := id hV
  have hn := hg.1
  have hN := hVT.1
  have ht := hVT.2.2.1
  have hM1 : M 1 = (n : Int) := by rw [hR.1 1 (by decide)]; exact hn
  have hM2 : M 2 = (N : Int) := by rw [hR.1 2 (by decide)]; exact hN
  have lp : ∀ i : Nat, i ≤ N → ∀ D, dsm (fun j => xshr (C 10 (32 * 0 + j))) (fun j => C 10 (32 * 0 + j) 0 = 0) i D → X w mX8_load (xTG w (fun v S' => ∃ a, v = some (xv (.double a)) ∧ A a S') B) 0 0 9 [xp 30 0, xv (.double D), xj, xi (i : Int)] [] (stM M (up S 30 0 4 0)) := by
    refine nloop (N) (fun i hi ih D hD => ?_)
    have hT9 : i < N → TQ (C 2 0 2) T (C 10 (32 * 0 + i)) := fun z => hV.t z
    unfold TQ at hT9
    refine xs_iload_3 eX8_load_9 ?_
    refine xa_i2l eX8_load_10 (by omega) ?_
    refine xs_aload_0 eX8_load_11 ?_
    refine g_X8_0 eX8_load_12 lRX8_7 ?_
    refine xa_iconst eX8_load_15 ?_
    refine gar_31 eX8_load_16 (by decide) (fun r16 => ?_)
    try simp (decide := true) only [stM_31, stM_k, up_same, hM1, hM2, show (0 : Int).toNat = 0 from rfl, show (1 : Int).toNat = 1 from rfl, show (2 : Int).toNat = 2 from rfl, show (3 : Int).toNat = 3 from rfl, show (4 : Int).toNat = 4 from rfl, show (5 : Int).toNat = 5 from rfl, show (6 : Int).toNat = 6 from rfl, show (7 : Int).toNat = 7 from rfl, show (8 : Int).toNat = 8 from rfl, show (9 : Int).toNat = 9 from rfl, show (10 : Int).toNat = 10 from rfl, show (11 : Int).toNat = 11 from rfl, show (12 : Int).toNat = 12 from rfl, show (13 : Int).toNat = 13 from rfl, show (14 : Int).toNat = 14 from rfl, Int.toNat_natCast] at r16 ⊢
    refine xa_lcmp eX8_load_17 (by omega) (by omega) ?_
    refine xa_ifc_ge (tgt := 53) eX8_load_18 (by decide) (fun c18 => ?_) (fun c18 => ?_)
    · refine xs_dload_1 eX8_load_53 ?_
      exact xa_dret eX8_load_54 rfl ⟨_, rfl, by have e : N = i := (by omega); exact hq D _ M (by rw [e]; exact hD) rfr.t (up_same _ _ _ _ _) hR⟩
    · refine xs_aload_0 eX8_load_21 ?_
      refine xs_iload_3 eX8_load_22 ?_
      refine xbi_V10 (mi' := mX8_hasEnded) (y := yX8_hasEnded) eX8_load_23 (xw_5 lRX8_119 wy_X8_hasEnded) rfl ⟨wd_X8_hasEnded, by decide, by decide⟩ (by decide) (fun _ => rfl) rfl (Nat.le_of_ble_eq_true rfl) rfl (r_X8_hasEnded (j := i) hV hR rfl (by omega) ?_)
      refine xa_ifb_ne (tgt := 47) eX8_load_26 (by decide) (fun c26 => ?_) (fun c26 => ?_)
      · refine xs_iinc_3 eX8_load_47 rfl ?_
        refine xa_goto (tgt := 9) eX8_load_50 (by decide) ?_
        exact ih (i + 1) (by omega) (by omega) _ ⟨D, hD, Or.inr ⟨by omega, rfl⟩⟩
      · have eS : xshr (C 10 (32 * 0 + i)) = FP.ddiv (FP.i2d (Int32.ofInt (C 10 (32 * 0 + i) 3))) (FP.i2d (Int32.ofInt (C 10 (32 * 0 + i) 2))) := by unfold xshr; rw [if_neg (by omega)]
        refine xs_dload_1 eX8_load_29 ?_
        refine xs_aload_0 eX8_load_30 ?_
        refine xs_iload_3 eX8_load_31 ?_
        refine xa_iconst eX8_load_32 ?_
        refine xbi_V20 (mi' := mX8_told0) (y := yX8_told0) eX8_load_33 (xw_5 lRX8_122 wy_X8_told0) rfl ⟨wd_X8_told0, by decide, by decide⟩ (by decide) (fun _ => rfl) rfl (Nat.le_of_ble_eq_true rfl) rfl (r_X8_told0 (j := i) (g := 3) hR rfl rfl (by omega) hN20 (by decide) (by decide) (by decide) (by decide) ?_)
        refine xa_i2d eX8_load_36 ?_
        refine xs_aload_0 eX8_load_37 ?_
        refine xs_iload_3 eX8_load_38 ?_
        refine xa_iconst eX8_load_39 ?_
        refine xbi_V20 (mi' := mX8_told0) (y := yX8_told0) eX8_load_40 (xw_5 lRX8_122 wy_X8_told0) rfl ⟨wd_X8_told0, by decide, by decide⟩ (by decide) (fun _ => rfl) rfl (Nat.le_of_ble_eq_true rfl) rfl (r_X8_told0 (j := i) (g := 2) hR rfl rfl (by omega) hN20 (by decide) (by decide) (by decide) (by decide) ?_)
        refine xa_i2d eX8_load_43 ?_
        refine xa_ddiv eX8_load_44 (psD_ddiv (by omega) (by omega)).vf ?_
        refine xa_dadd eX8_load_45 (by rw [← eS]; exact (psD_dadd (psD_dsm (fun k hk _ => ps_shr (hVT.2.2.2 k (by omega))) hD) (ps_shr (hVT.2.2.2 i (by omega)))).vf) ?_
        refine xs_dstore_1 eX8_load_46 rfl ?_
        refine xs_iinc_3 eX8_load_47 rfl ?_
        refine xa_goto (tgt := 9) eX8_load_50 (by decide) ?_
        exact ih (i + 1) (by omega) (by omega) _ ⟨D, hD, Or.inl ⟨by omega, by rw [← eS]⟩⟩
  refine xs_aload_0 eX8_load_0 ?_
  refine xa_iconst eX8_load_1 ?_
  refine p_X8_4 eX8_load_2 lRX8_52 (by decide) ?_
  rw [up_stO (by decide)]
  refine xa_dconst0 eX8_load_5 ?_
  refine xs_dstore_1 eX8_load_6 rfl ?_
  refine xa_iconst eX8_load_7 ?_
  refine xs_istore_3 eX8_load_8 rfl ?_
  exact lp 0 (by omega) _ rfl
set_option maxHeartbeats 400000 in
theorem F_meanPrice {w : xW} {S : xS} {B : String → xS → Prop} {A : UInt32 → xS → Prop} {n N : Nat} {T : Int} (hV : VS 0 n N T S) (hT : T ≤ 800000) (hA : ∀ S', scr S' S → A (meanF (S 5 0 1) (S 5 0 2)) S') : Kf w mX7_meanPrice yX7_meanPrice 0 0 [xp 0 0] S A B := by
  refine K.of rfl rfl rfl rfl (Nat.le_of_ble_eq_true rfl) rfl ?_
  obtain ⟨hVT, hN20, h8, hg, hp9, ho9, hs⟩ := id hV
  have hn := hg.1
  have hN := hVT.1
  have ht := hVT.2.2.1
  refine xs_aload_0 eX7_meanPrice_0 ?_
  refine g_X7_0 eX7_meanPrice_1 lRX7_10 ?_
  refine g_X4_2 eX7_meanPrice_4 lRX7_193 ?_
  refine xbf_V00 (mi' := mX2_mean) (y := yX2_mean) eX7_meanPrice_7 (xw_5 lRX7_205 wy_X2_mean) rfl ⟨wd_X2_mean, by decide, by decide⟩ (by decide) (fun _ => rfl) rfl (Nat.le_of_ble_eq_true rfl) rfl (k_X2_mean (fun z => vf_fdiv (by have z1 := hs.2.1; omega) z (by have z1 := hs.1; omega)) ?_)
  exact xa_fret eX7_meanPrice_10 rfl ⟨_, rfl, hA S scr.rf⟩
set_option maxHeartbeats 400000 in
theorem G_meanPrice {w : xW} {S : xS} {B : String → xS → Prop} {A : UInt32 → xS → Prop} {n N : Nat} {T : Int} {C : xS} {M : Nat → Int} (hV : VS 0 n N T C) (hT : T ≤ 800000) (hR : Rel 0 n N C M) (hq : ∀ S' M', rfr S' S → S' 30 0 4 = 0 → Rel 0 n N C M' → A (meanF (C 5 0 1) (C 5 0 2)) (stM M' S')) : Kf w mX8_meanPrice yX8_meanPrice 0 0 [xp 30 0] (stM M S) A B := by
  refine K.of rfl rfl rfl rfl (Nat.le_of_ble_eq_true rfl) rfl ?_
  obtain ⟨hVT, hN20, h8, hg, hp9, ho9, hs⟩ := id hV
  have hn := hg.1
  have hN := hVT.1
  have ht := hVT.2.2.1
  have hM1 : M 1 = (n : Int) := by rw [hR.1 1 (by decide)]; exact hn
  have hM2 : M 2 = (N : Int) := by rw [hR.1 2 (by decide)]; exact hN
  have h12 : M 12 = C 5 0 1 := hR.1 12 (by decide)
  refine xs_aload_0 eX8_meanPrice_0 ?_
  refine xa_iconst eX8_meanPrice_1 ?_
  refine p_X8_4 eX8_meanPrice_2 lRX8_52 (by decide) ?_
  rw [up_stO (by decide)]
  refine xs_aload_0 eX8_meanPrice_5 ?_
  refine g_X8_0 eX8_meanPrice_6 lRX8_7 ?_
  refine xa_bipush eX8_meanPrice_9 (by decide) ?_
  refine gar_31 eX8_meanPrice_11 (by decide) (fun r11 => ?_)
  try simp (decide := true) only [stM_31, h12, show (12 : Int).toNat = 12 from rfl] at r11 ⊢
  refine xa_lconst0 eX8_meanPrice_12 ?_
  refine xa_lcmp eX8_meanPrice_13 (by have z1 := hs.1; omega) (by decide) ?_
  refine xa_ifc_ne (tgt := 22) eX8_meanPrice_14 (by decide) (fun c14 => ?_) (fun c14 => ?_)
  · refine xs_aload_0 eX8_meanPrice_22 ?_
    refine xa_bipush eX8_meanPrice_23 (by decide) ?_
    refine xbi_V10 (mi' := mX8_number) (y := yX8_number) eX8_meanPrice_25 (xw_5 lRX8_65 wy_X8_number) rfl ⟨wd_X8_number, by decide, by decide⟩ (by decide) (fun _ => rfl) rfl (Nat.le_of_ble_eq_true rfl) rfl (r_X8_number (i := 13) hR rfl (by decide) ?_)
    rw [show gl 0 C 13 = C 5 0 2 from rfl]
    refine xa_i2f eX8_meanPrice_28 ?_
    refine xs_aload_0 eX8_meanPrice_29 ?_
    refine xa_bipush eX8_meanPrice_30 (by decide) ?_
    refine xbi_V10 (mi' := mX8_number) (y := yX8_number) eX8_meanPrice_32 (xw_5 lRX8_65 wy_X8_number) rfl ⟨wd_X8_number, by decide, by decide⟩ (by decide) (fun _ => rfl) rfl (Nat.le_of_ble_eq_true rfl) rfl (r_X8_number (i := 12) hR rfl (by decide) ?_)
    rw [show gl 0 C 12 = C 5 0 1 from rfl]
    refine xa_i2f eX8_meanPrice_35 ?_
    refine xa_fdiv eX8_meanPrice_36 (vf_fdiv (by have z1 := hs.2.1; omega) c14 (by have z1 := hs.1; omega)) ?_
    exact xa_fret eX8_meanPrice_37 rfl ⟨_, rfl, by have h9 := hq _ M rfr.t (up_same _ _ _ _ _) hR; rw [meanF, if_neg c14] at h9; exact h9⟩
  · refine xa_ldcf eX8_meanPrice_17 lRX8_227 ?_
    refine xa_goto (tgt := 37) eX8_meanPrice_19 (by decide) ?_
    exact xa_fret eX8_meanPrice_37 rfl ⟨_, rfl, by have h9 := hq _ M rfr.t (up_same _ _ _ _ _) hR; rw [meanF, if_pos c14] at h9; exact h9⟩
