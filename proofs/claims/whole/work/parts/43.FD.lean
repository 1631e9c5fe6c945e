/-! promises 12 and 13, the reference -/
set_option maxHeartbeats 400000 in
theorem r_X8_part {w : xW} {S : xS} {B : String → xS → Prop} {A : Int → xS → Prop} {n N j : Nat} {a T : Int} {C : xS} {M : Nat → Int} (hV : VS 0 n N T C) (hT : T ≤ 900000) (hR : Rel 0 n N C M) (hj : j < N) (hN20b : N < 20) (ha : 1 ≤ a ∧ a ≤ C 10 (32 * 0 + j) 3 - 1) (hq : A (N : Int) (stM (if C 2 0 2 < C 10 (32 * 0 + j) 7 then pbM N j a M else paM N j a M) S)) : Ki w mX8_part yX8_part 0 0 [xp 30 0, xi (j : Int), xi a] (stM M S) A B := by
  refine K.of rfl rfl rfl rfl (Nat.le_of_ble_eq_true rfl) rfl ?_
  obtain ⟨hVT, hN20, h8, hg, hp, ho, hs⟩ := id hV
  have hn := hg.1
  have hN := hVT.1
  have ht := hVT.2.2.1
  have hM1 : M 1 = (n : Int) := by rw [hR.1 1 (by decide)]; exact hn
  have hM2 : M 2 = (N : Int) := by rw [hR.1 2 (by decide)]; exact hN
  have hTQ := hV.1.2.2.2 j hj
  unfold TQ at hTQ
  have hOQ := hV.2.2.2.2.2.1 j hj
  unfold OQ at hOQ
  have hPR := hR.2.2.1 j hj
  unfold PR at hPR
  obtain ⟨r1, r2, r3⟩ := hPR
  dsimp only at r2 r3
  have hM0 : M 0 = C 2 0 2 := hR.1 0 (by decide)
  have q1 : M (103 + 18 * j + 1) = C 10 (32 * 0 + j) 1 := hR.q hj (by decide) (by decide) (by decide) (by decide)
  have q2 : M (103 + 18 * j + 2) = C 10 (32 * 0 + j) 2 := hR.q hj (by decide) (by decide) (by decide) (by decide)
  have q3 : M (103 + 18 * j + 3) = C 10 (32 * 0 + j) 3 := hR.q hj (by decide) (by decide) (by decide) (by decide)
  have q4 : M (103 + 18 * j + 4) = C 10 (32 * 0 + j) 4 := hR.q hj (by decide) (by decide) (by decide) (by decide)
  have q5 : M (103 + 18 * j + 5) = C 10 (32 * 0 + j) 5 := hR.q hj (by decide) (by decide) (by decide) (by decide)
  have hjb : (M (103 + 18 * j + 17) = 1 ∧ M 0 < M (103 + 18 * j + 7)) ↔ C 2 0 2 < C 10 (32 * 0 + j) 7 := by omega
  have hxm := xmin_le a (M (103 + 18 * j + 6))
  have hxo := xmin_or a (M (103 + 18 * j + 6))
  refine xs_aload_0 eX8_part_0 ?_
  refine xs_iload_1 eX8_part_1 ?_
  refine xa_iconst eX8_part_2 ?_
  refine xbi_V20 (mi' := mX8_told0) (y := yX8_told0) eX8_part_3 (xw_5 lRX8_122 wy_X8_told0) rfl ⟨wd_X8_told0, by decide, by decide⟩ (by decide) (fun _ => rfl) rfl (Nat.le_of_ble_eq_true rfl) rfl (k_X8_told0 (p := j) (g := 3) rfl rfl (by omega) (by decide) ?_)
  rw [stM_31]
  refine xs_istore_3 eX8_part_6 rfl ?_
  refine xs_aload_0 eX8_part_7 ?_
  refine xs_aload_0 eX8_part_8 ?_
  refine xs_iload_1 eX8_part_9 ?_
  refine xa_iconst eX8_part_10 ?_
  refine xbi_V20 (mi' := mX8_told0) (y := yX8_told0) eX8_part_11 (xw_5 lRX8_122 wy_X8_told0) rfl ⟨wd_X8_told0, by decide, by decide⟩ (by decide) (fun _ => rfl) rfl (Nat.le_of_ble_eq_true rfl) rfl (k_X8_told0 (p := j) (g := 1) rfl rfl (by omega) (by decide) ?_)
  rw [stM_31]
  refine xs_aload_0 eX8_part_14 ?_
  refine xs_iload_1 eX8_part_15 ?_
  refine xa_iconst eX8_part_16 ?_
  refine xbi_V20 (mi' := mX8_told0) (y := yX8_told0) eX8_part_17 (xw_5 lRX8_122 wy_X8_told0) rfl ⟨wd_X8_told0, by decide, by decide⟩ (by decide) (fun _ => rfl) rfl (Nat.le_of_ble_eq_true rfl) rfl (k_X8_told0 (p := j) (g := 2) rfl rfl (by omega) (by decide) ?_)
  rw [stM_31]
  refine xs_iload_3 eX8_part_20 ?_
  refine xs_iload_2 eX8_part_21 ?_
  refine xa_isub eX8_part_22 ?_
  refine xs_aload_0 eX8_part_23 ?_
  refine xs_iload_1 eX8_part_24 ?_
  refine xa_iconst eX8_part_25 ?_
  refine xbi_V20 (mi' := mX8_told0) (y := yX8_told0) eX8_part_26 (xw_5 lRX8_122 wy_X8_told0) rfl ⟨wd_X8_told0, by decide, by decide⟩ (by decide) (fun _ => rfl) rfl (Nat.le_of_ble_eq_true rfl) rfl (k_X8_told0 (p := j) (g := 4) rfl rfl (by omega) (by decide) ?_)
  rw [stM_31]
  refine xbi_V40 (mi' := mX8_appendPromise) (y := yX8_appendPromise) eX8_part_29 (xw_5 lRX8_176 wy_X8_appendPromise) rfl ⟨wd_X8_appendPromise, by decide, by decide⟩ (by decide) (fun _ => rfl) rfl (Nat.le_of_ble_eq_true rfl) rfl (r_X8_appendPromise hM2 hN20b (by omega) (by omega) (by omega) (by omega) (by omega) ?_)
  refine xs_istore_4 eX8_part_32 rfl ?_
  refine xs_aload_0 eX8_part_34 ?_
  refine xs_iload_4 eX8_part_35 ?_
  refine xa_iconst eX8_part_37 ?_
  refine xs_aload_0 eX8_part_38 ?_
  refine xs_iload_1 eX8_part_39 ?_
  refine xa_iconst eX8_part_40 ?_
  refine xbi_V20 (mi' := mX8_told0) (y := yX8_told0) eX8_part_41 (xw_5 lRX8_122 wy_X8_told0) rfl ⟨wd_X8_told0, by decide, by decide⟩ (by decide) (fun _ => rfl) rfl (Nat.le_of_ble_eq_true rfl) rfl (k_X8_told0 (p := j) (g := 5) rfl rfl (by omega) (by decide) ?_)
  rw [stM_31, apM_o (by omega) (by omega)]
  refine xbv_V30 (mi' := mX8_keep) (y := yX8_keep) eX8_part_44 (xw_5 lRX8_137 wy_X8_keep) rfl ⟨wd_X8_keep, by decide, by decide⟩ (by decide) (fun _ => rfl) rfl (Nat.le_of_ble_eq_true rfl) rfl (k_X8_keep (p := N) (g := 5) rfl rfl (by omega) (by decide) (by omega) ?_)
  rw [up_stM]
  refine xs_aload_0 eX8_part_47 ?_
  refine xs_iload_1 eX8_part_48 ?_
  refine xa_iconst eX8_part_49 ?_
  refine xs_iload_2 eX8_part_50 ?_
  refine xbv_V30 (mi' := mX8_keep) (y := yX8_keep) eX8_part_51 (xw_5 lRX8_137 wy_X8_keep) rfl ⟨wd_X8_keep, by decide, by decide⟩ (by decide) (fun _ => rfl) rfl (Nat.le_of_ble_eq_true rfl) rfl (k_X8_keep (p := j) (g := 3) rfl rfl (by omega) (by decide) (by omega) ?_)
  rw [up_stM]
  have epa : upM (upM (apM N (M (103 + 18 * j + 1)) (M (103 + 18 * j + 2)) (M (103 + 18 * j + 3) - a) (M (103 + 18 * j + 4)) M) (103 + 18 * N + 5) (M (103 + 18 * j + 5))) (103 + 18 * j + 3) a = paM N j a M := rfl
  rw [epa]
  refine xs_aload_0 eX8_part_54 ?_
  refine xs_iload_1 eX8_part_55 ?_
  refine xbi_V10 (mi' := mX8_hasJob) (y := yX8_hasJob) eX8_part_56 (xw_5 lRX8_143 wy_X8_hasJob) rfl ⟨wd_X8_hasJob, by decide, by decide⟩ (by decide) (fun _ => rfl) rfl (Nat.le_of_ble_eq_true rfl) rfl (k_X8_hasJob (j := j) rfl (by omega) (by rw [stM_31, paM_o (by omega) (by omega) (by omega)]; omega) (by rw [stM_31, paM_o (by omega) (by omega) (by omega)]; omega) ?_)
  rw [stM_31, paM_o (i := 103 + 18 * j + 17) (by omega) (by omega) (by omega), paM_o (i := 103 + 18 * j + 7) (by omega) (by omega) (by omega), paM_o (i := 0) (by omega) (by omega) (by omega)]
  refine xa_ifb_eq (tgt := 140) eX8_part_59 (by decide) (fun c59 => ?_) (fun c59 => ?_)
  · refine xs_iload_4 eX8_part_140 ?_
    exact xa_iret eX8_part_142 rfl ⟨_, rfl, by rw [if_neg (fun z => c59 (hjb.mpr z))] at hq; exact hq⟩
  · refine xs_aload_0 eX8_part_62 ?_
    refine xs_iload_1 eX8_part_63 ?_
    refine xa_bipush eX8_part_64 (by decide) ?_
    refine xbi_V20 (mi' := mX8_told0) (y := yX8_told0) eX8_part_66 (xw_5 lRX8_122 wy_X8_told0) rfl ⟨wd_X8_told0, by decide, by decide⟩ (by decide) (fun _ => rfl) rfl (Nat.le_of_ble_eq_true rfl) rfl (k_X8_told0 (p := j) (g := 6) rfl rfl (by omega) (by decide) ?_)
    rw [stM_31, paM_o (by omega) (by omega) (by omega)]
    have cj := hjb.mp c59
    refine xs_istore_5 eX8_part_69 rfl ?_
    refine xs_aload_0 eX8_part_71 ?_
    refine xs_iload_1 eX8_part_72 ?_
    refine xa_bipush eX8_part_73 (by decide) ?_
    refine xs_iload_2 eX8_part_75 ?_
    refine xs_iload_5 eX8_part_76 ?_
    refine xa_min eX8_part_78 lRX8_74 lm_min1 li_Math lm_min2 (by decide) (Nat.le_of_ble_eq_true rfl) rfl (by omega) (by omega) ?_
    refine xbv_V30 (mi' := mX8_keep) (y := yX8_keep) eX8_part_81 (xw_5 lRX8_137 wy_X8_keep) rfl ⟨wd_X8_keep, by decide, by decide⟩ (by decide) (fun _ => rfl) rfl (Nat.le_of_ble_eq_true rfl) rfl (k_X8_keep (p := j) (g := 6) rfl rfl (by omega) (by decide) (by omega) ?_)
    rw [up_stM]
    refine xs_aload_0 eX8_part_84 ?_
    refine xs_iload_4 eX8_part_85 ?_
    refine xa_bipush eX8_part_87 (by decide) ?_
    refine xs_iload_5 eX8_part_89 ?_
    refine xs_iload_2 eX8_part_91 ?_
    refine xs_iload_5 eX8_part_92 ?_
    refine xa_min eX8_part_94 lRX8_74 lm_min1 li_Math lm_min2 (by decide) (Nat.le_of_ble_eq_true rfl) rfl (by omega) (by omega) ?_
    refine xa_isub eX8_part_97 ?_
    refine xbv_V30 (mi' := mX8_keep) (y := yX8_keep) eX8_part_98 (xw_5 lRX8_137 wy_X8_keep) rfl ⟨wd_X8_keep, by decide, by decide⟩ (by decide) (fun _ => rfl) rfl (Nat.le_of_ble_eq_true rfl) rfl (k_X8_keep (p := N) (g := 6) rfl rfl (by omega) (by decide) (by omega) ?_)
    rw [up_stM]
    refine xs_aload_0 eX8_part_101 ?_
    refine xs_iload_4 eX8_part_102 ?_
    refine xa_bipush eX8_part_104 (by decide) ?_
    refine xs_aload_0 eX8_part_106 ?_
    refine xs_iload_1 eX8_part_107 ?_
    refine xa_bipush eX8_part_108 (by decide) ?_
    refine xbi_V20 (mi' := mX8_told0) (y := yX8_told0) eX8_part_110 (xw_5 lRX8_122 wy_X8_told0) rfl ⟨wd_X8_told0, by decide, by decide⟩ (by decide) (fun _ => rfl) rfl (Nat.le_of_ble_eq_true rfl) rfl (k_X8_told0 (p := j) (g := 7) rfl rfl (by omega) (by decide) ?_)
    rw [stM_31, upM_o (by omega), upM_o (by omega), paM_o (by omega) (by omega) (by omega)]
    refine xbv_V30 (mi' := mX8_keep) (y := yX8_keep) eX8_part_113 (xw_5 lRX8_137 wy_X8_keep) rfl ⟨wd_X8_keep, by decide, by decide⟩ (by decide) (fun _ => rfl) rfl (Nat.le_of_ble_eq_true rfl) rfl (k_X8_keep (p := N) (g := 7) rfl rfl (by omega) (by decide) (by omega) ?_)
    rw [up_stM]
    refine xs_aload_0 eX8_part_116 ?_
    refine xs_iload_4 eX8_part_117 ?_
    refine xa_bipush eX8_part_119 (by decide) ?_
    refine xs_aload_0 eX8_part_121 ?_
    refine xs_iload_1 eX8_part_122 ?_
    refine xa_bipush eX8_part_123 (by decide) ?_
    refine xbi_V20 (mi' := mX8_told0) (y := yX8_told0) eX8_part_125 (xw_5 lRX8_122 wy_X8_told0) rfl ⟨wd_X8_told0, by decide, by decide⟩ (by decide) (fun _ => rfl) rfl (Nat.le_of_ble_eq_true rfl) rfl (k_X8_told0 (p := j) (g := 8) rfl rfl (by omega) (by decide) ?_)
    rw [stM_31, upM_o (by omega), upM_o (by omega), upM_o (by omega), paM_o (by omega) (by omega) (by omega)]
    refine xbv_V30 (mi' := mX8_keep) (y := yX8_keep) eX8_part_128 (xw_5 lRX8_137 wy_X8_keep) rfl ⟨wd_X8_keep, by decide, by decide⟩ (by decide) (fun _ => rfl) rfl (Nat.le_of_ble_eq_true rfl) rfl (k_X8_keep (p := N) (g := 8) rfl rfl (by omega) (by decide) (by omega) ?_)
    rw [up_stM]
    refine xs_aload_0 eX8_part_131 ?_
    refine xs_iload_4 eX8_part_132 ?_
    refine xa_bipush eX8_part_134 (by decide) ?_
    refine xa_iconst eX8_part_136 ?_
    refine xbv_V30 (mi' := mX8_keep) (y := yX8_keep) eX8_part_137 (xw_5 lRX8_137 wy_X8_keep) rfl ⟨wd_X8_keep, by decide, by decide⟩ (by decide) (fun _ => rfl) rfl (Nat.le_of_ble_eq_true rfl) rfl (k_X8_keep (p := N) (g := 17) rfl rfl (by omega) (by decide) (by decide) ?_)
    rw [up_stM]
    refine xs_iload_4 eX8_part_140 ?_
    exact xa_iret eX8_part_142 rfl ⟨_, rfl, by rw [if_pos cj] at hq; exact hq⟩
set_option maxHeartbeats 400000 in
theorem G_split {w : xW} {S : xS} {B : String → xS → Prop} {A : Int → xS → Prop} {j a : Int} {n N : Nat} {T : Int} {C : xS} {M : Nat → Int} (hV : VS 0 n N T C) (hT : T ≤ 800000) (hR : Rel 0 n N C M) (yj : xr j) (ya : xr a)  (hq : ∀ r S' M', ((o_split j a n N C).1 = 0 → r = (o_split j a n N C).2.1) → rfr S' S → S' 30 0 4 = ((o_split j a n N C).1 : Int) → Rel 0 (o_split j a n N C).2.2.1 (o_split j a n N C).2.2.2.1 (o_split j a n N C).2.2.2.2 M' → A r (stM M' S')) : Ki w mX8_split yX8_split 0 0 [xp 30 0, xi j, xi a] (stM M S) A B := by
  refine K.of rfl rfl rfl rfl (Nat.le_of_ble_eq_true rfl) rfl ?_
  obtain ⟨hVT, hN20, h8, hg, hp, ho, hs⟩ := id hV
  have hn := hg.1
  have hN := hVT.1
  have ht := hVT.2.2.1
  have hM1 : M 1 = (n : Int) := by rw [hR.1 1 (by decide)]; exact hn
  have hM2 : M 2 = (N : Int) := by rw [hR.1 2 (by decide)]; exact hN
  refine xs_aload_0 eX8_split_0 ?_
  refine xa_iconst eX8_split_1 ?_
  refine p_X8_4 eX8_split_2 lRX8_52 (by decide) ?_
  rw [up_stO (by decide)]
  refine xs_aload_0 eX8_split_5 ?_
  refine xs_iload_1 eX8_split_6 ?_
  refine xbi_V10 (mi' := mX8_isPromise) (y := yX8_isPromise) eX8_split_7 (xw_5 lRX8_187 wy_X8_isPromise) rfl ⟨wd_X8_isPromise, by decide, by decide⟩ (by decide) (fun _ => rfl) rfl (Nat.le_of_ble_eq_true rfl) rfl (r_X8_isPromise hV hR yj ?_)
  refine xa_ifb_ne (tgt := 19) eX8_split_10 (by decide) (fun c10 => ?_) (fun c10 => ?_)
  · refine xs_iload_2 eX8_split_19 ?_
    refine xa_i2l eX8_split_20 (by omega) ?_
    refine xa_lconst1 eX8_split_21 ?_
    refine xs_aload_0 eX8_split_22 ?_
    refine xs_iload_1 eX8_split_23 ?_
    refine xa_iconst eX8_split_24 ?_
    refine xbi_V20 (mi' := mX8_told0) (y := yX8_told0) eX8_split_25 (xw_5 lRX8_122 wy_X8_told0) rfl ⟨wd_X8_told0, by decide, by decide⟩ (by decide) (fun _ => rfl) rfl (Nat.le_of_ble_eq_true rfl) rfl (r_X8_told0 (j := j.toNat) (g := 3) hR (by omega) rfl (by omega) hN20 (by decide) (by decide) (by decide) (by decide) ?_)
    refine xa_iconst eX8_split_28 ?_
    refine xa_isub eX8_split_29 ?_
    refine xa_i2l eX8_split_30 (by have z := (hVT.2.2.2 j.toNat (by omega)); unfold TQ at z; omega) ?_
    refine xbi_S30 (mi' := mX8_isBetween) (y := yX8_isBetween) eX8_split_31 (xw_4 lRX8_61 wy_X8_isBetween) rfl rfl ⟨wd_X8_isBetween, by decide, by decide⟩ (Nat.le_of_ble_eq_true rfl) rfl (k_X8_isBetween (by omega) (by decide) (by have z := (hVT.2.2.2 j.toNat (by omega)); unfold TQ at z; omega) ?_)
    refine xa_ifb_ne (tgt := 43) eX8_split_34 (by decide) (fun c34 => ?_) (fun c34 => ?_)
    · refine xs_aload_0 eX8_split_43 ?_
      refine xs_iload_1 eX8_split_44 ?_
      refine xbi_V10 (mi' := mX8_hasEnded) (y := yX8_hasEnded) eX8_split_45 (xw_5 lRX8_119 wy_X8_hasEnded) rfl ⟨wd_X8_hasEnded, by decide, by decide⟩ (by decide) (fun _ => rfl) rfl (Nat.le_of_ble_eq_true rfl) rfl (r_X8_hasEnded (j := j.toNat) hV hR (by omega) (by omega) ?_)
      refine xa_ifb_ne (tgt := 64) eX8_split_48 (by decide) (fun c48 => ?_) (fun c48 => ?_)
      · refine xs_aload_0 eX8_split_64 ?_
        refine xa_iconst eX8_split_65 ?_
        refine xbi_V10 (mi' := mX8_fail) (y := yX8_fail) eX8_split_66 (xw_5 lRX8_89 wy_X8_fail) rfl ⟨wd_X8_fail, by decide, by decide⟩ (by decide) (fun _ => rfl) rfl (Nat.le_of_ble_eq_true rfl) rfl (k_X8_fail (by decide) ?_)
        rw [up_stO (by decide)]
        refine xa_goto (tgt := 78) eX8_split_69 (by decide) ?_
        exact xa_iret eX8_split_78 rfl ⟨_, rfl, by have h9 := hq; unfold o_split at h9; rw [if_pos c10, if_pos c34, if_neg (by omega)] at h9; exact h9 _ _ _ (fun z => absurd z (Nat.succ_ne_zero _)) (rfr.t.tr rfr.t) (by rw [up_same]; rfl) hR⟩
      · refine xs_aload_0 eX8_split_51 ?_
        refine g_X8_0 eX8_split_52 lRX8_7 ?_
        refine xa_iconst eX8_split_55 ?_
        refine gar_31 eX8_split_56 (by decide) (fun r56 => ?_)
        try simp (decide := true) only [stM_31, stM_k, up_same, hM1, hM2, show (0 : Int).toNat = 0 from rfl, show (1 : Int).toNat = 1 from rfl, show (2 : Int).toNat = 2 from rfl, show (3 : Int).toNat = 3 from rfl, show (4 : Int).toNat = 4 from rfl, show (5 : Int).toNat = 5 from rfl, show (6 : Int).toNat = 6 from rfl, show (7 : Int).toNat = 7 from rfl, show (8 : Int).toNat = 8 from rfl, show (9 : Int).toNat = 9 from rfl, show (10 : Int).toNat = 10 from rfl, show (11 : Int).toNat = 11 from rfl, show (12 : Int).toNat = 12 from rfl, show (13 : Int).toNat = 13 from rfl, show (14 : Int).toNat = 14 from rfl, Int.toNat_natCast] at r56 ⊢
        refine xa_ldc2 (a := 20) eX8_split_57 lRX8_171 (by decide) ?_
        refine xa_lcmp eX8_split_60 (by omega) (by decide) ?_
        refine xa_ifc_ne (tgt := 72) eX8_split_61 (by decide) (fun c61 => ?_) (fun c61 => ?_)
        · have ej : j = (j.toNat : Int) := by omega
          have h00 := (hVT.2.2.2 j.toNat (by omega)).1
          have h000 : C 10 (32 * 0 + j.toNat) 0 = 0 := by omega
          refine xs_aload_0 eX8_split_72 ?_
          refine xs_iload_1 eX8_split_73 ?_
          rw [show xi j = xi (j.toNat : Int) by rw [← ej]]
          refine xs_iload_2 eX8_split_74 ?_
          refine xbi_V20 (mi' := mX8_part) (y := yX8_part) eX8_split_75 (xw_5 lRX8_190 wy_X8_part) rfl ⟨wd_X8_part, by decide, by decide⟩ (by decide) (fun _ => rfl) rfl (Nat.le_of_ble_eq_true rfl) rfl (r_X8_part (j := j.toNat) hV (by omega) hR (by omega) (by omega) (by omega) ?_)
          exact xa_iret eX8_split_78 rfl ⟨_, rfl, by have h9 := hq; unfold o_split at h9; rw [if_pos c10, if_pos c34, if_pos ⟨h000, by omega⟩] at h9; exact h9 _ _ _ (fun _ => rfl) rfr.t (by rw [up_same]; rfl) (hR.par (by omega) (by omega) (by omega) h000 (by omega))⟩
        · refine xs_aload_0 eX8_split_64 ?_
          refine xa_iconst eX8_split_65 ?_
          refine xbi_V10 (mi' := mX8_fail) (y := yX8_fail) eX8_split_66 (xw_5 lRX8_89 wy_X8_fail) rfl ⟨wd_X8_fail, by decide, by decide⟩ (by decide) (fun _ => rfl) rfl (Nat.le_of_ble_eq_true rfl) rfl (k_X8_fail (by decide) ?_)
          rw [up_stO (by decide)]
          refine xa_goto (tgt := 78) eX8_split_69 (by decide) ?_
          exact xa_iret eX8_split_78 rfl ⟨_, rfl, by have h9 := hq; unfold o_split at h9; rw [if_pos c10, if_pos c34, if_neg (by omega)] at h9; exact h9 _ _ _ (fun z => absurd z (Nat.succ_ne_zero _)) (rfr.t.tr rfr.t) (by rw [up_same]; rfl) hR⟩
    · refine xs_aload_0 eX8_split_37 ?_
      refine xa_iconst eX8_split_38 ?_
      refine xbi_V10 (mi' := mX8_fail) (y := yX8_fail) eX8_split_39 (xw_5 lRX8_89 wy_X8_fail) rfl ⟨wd_X8_fail, by decide, by decide⟩ (by decide) (fun _ => rfl) rfl (Nat.le_of_ble_eq_true rfl) rfl (k_X8_fail (by decide) ?_)
      rw [up_stO (by decide)]
      exact xa_iret eX8_split_42 rfl ⟨_, rfl, by have h9 := hq; unfold o_split at h9; rw [if_pos c10, if_neg c34] at h9; exact h9 _ _ _ (fun z => absurd z (Nat.succ_ne_zero _)) (rfr.t.tr rfr.t) (by rw [up_same]; rfl) hR⟩
  · refine xs_aload_0 eX8_split_13 ?_
    refine xa_iconst eX8_split_14 ?_
    refine xbi_V10 (mi' := mX8_fail) (y := yX8_fail) eX8_split_15 (xw_5 lRX8_89 wy_X8_fail) rfl ⟨wd_X8_fail, by decide, by decide⟩ (by decide) (fun _ => rfl) rfl (Nat.le_of_ble_eq_true rfl) rfl (k_X8_fail (by decide) ?_)
    rw [up_stO (by decide)]
    exact xa_iret eX8_split_18 rfl ⟨_, rfl, by have h9 := hq; unfold o_split at h9; rw [if_neg c10] at h9; exact h9 _ _ _ (fun z => absurd z (Nat.succ_ne_zero _)) (rfr.t.tr rfr.t) (by rw [up_same]; rfl) hR⟩
theorem q_X8_accepts {w : xW} {S C : xS} {B : String → xS → Prop} {A : Int → xS → Prop} {n N : Nat} {M : Nat → Int} {p b d T : Int} (hV : VS 0 n N T C) (hT : T ≤ 900000) (hR : Rel 0 n N C M) (hp : 1 ≤ p ∧ p ≤ 120) (hb : 1 ≤ b ∧ b ≤ 120) (hd : 1 ≤ d ∧ d ≤ 120) (hq : ∀ S', lnr S' S → S' 32 0 = S 32 0 → A (b2i (accF 0 5 N p b d C = true)) (stM M S')) : Ki w mX8_accepts yX8_accepts 0 0 [xp 30 0, xi p, xi b, xi d] (stM M S) A B := by
  refine f_X8_accepts (u := 5) hV hT (by rw [stM_31]; exact hR) hp hb hd (fun S2 h => ?_)
  have e : stM M S2 = S2 := by
    have h9 := stM_self S2
    rw [h.1 31 0 (Or.inl (by decide)) (by decide), stM_31] at h9
    exact h9
  have h9 := hq S2 ⟨⟨fun k j hk => ?_, fun f hf => ?_⟩, fun f h1 h2 => ?_⟩ ?_
  · rw [e] at h9; exact h9
  · rw [h.1 k j (by omega) (by omega), stM_k (by omega)]
  · rw [h.2 0 f (by omega) (by omega), stM_k (by decide)]
  · rw [h.2 0 f h1 h2, stM_k (by decide)]
  · rw [h.1 32 0 (by omega) (by decide), stM_k (by decide)]
theorem bkp (M : Nat → Int) (S : xS) : cpA 31 0 32 0 527 (stM M S) = stM M (cpA 31 0 32 0 527 (stM M S)) := by
  have h := stM_self (cpA 31 0 32 0 527 (stM M S))
  rw [cpA_o (show (31 : Nat) ≠ 32 by decide), stM_31] at h
  exact h.symm
theorem bkp_32 {M : Nat → Int} {S : xS} {f : Nat} (hf : f < 527) : cpA 31 0 32 0 527 (stM M S) 32 0 f = M f := by
  unfold cpA
  rw [if_pos (by omega), stM_31, show 0 + (f - 0) = f by omega]
theorem bkp_rfr (M : Nat → Int) (S : xS) : rfr (cpA 31 0 32 0 527 (stM M S)) S := ⟨fun k j h => by rw [cpA_o (by omega), stM_k (by omega)], fun f hf => by rw [cpA_o (by decide), stM_k (by decide)]⟩
theorem rst_rfr (M : Nat → Int) (S : xS) : rfr (cpA 32 0 31 0 527 (stM M S)) S := ⟨fun k j h => by rw [cpA_o (by omega), stM_k (by omega)], fun f hf => by rw [cpA_o (by decide), stM_k (by decide)]⟩
theorem rst_rel {n N : Nat} {C S : xS} {M M1 : Nat → Int} (h : Rel 0 n N C M) (hN : N ≤ 20) (e : ∀ f, f < 527 → S 32 0 f = M f) : Rel 0 n N C (cpA 32 0 31 0 527 (stM M1 S) 31 0) := by
  refine h.arr hN (fun i hi => ?_)
  unfold cpA
  rw [if_pos (by omega), stM_k (by decide), show 0 + (i - 0) = i by omega]
  exact e i hi
theorem frs_s {g : Nat → Bool} {i : Nat} (h : i ≤ 120) : frs g (121 - i) i = if g i = true then (i : Int) else frs g (121 - (i + 1)) (i + 1) := by
  rw [show 121 - i = (121 - (i + 1)) + 1 by omega, frs]
set_option maxHeartbeats 400000 in
theorem F_waitFor {w : xW} {S : xS} {B : String → xS → Prop} {A : Int → xS → Prop} {p b d : Int} {n N : Nat} {T : Int} (hV : VS 0 n N T S) (hT : T ≤ 800000) (yp : xr p) (yb : xr b) (yd : xr d)  (hA : ∀ S', (o_waitFor p b d n N S).1 = 0 → scr S' (o_waitFor p b d n N S).2.2.2.2 → A (o_waitFor p b d n N S).2.1 S') (hB1 : ∀ S', (o_waitFor p b d n N S).1 = 1 → scr S' S → B "java/lang/IllegalArgumentException" S') : Ki w mX7_waitFor yX7_waitFor 1 6 [xp 0 0, xi p, xi b, xi d] S A B := by
  refine K.of rfl rfl rfl rfl (Nat.le_of_ble_eq_true rfl) rfl ?_
  obtain ⟨hVT, hN20, h8, hg, hp, ho, hs⟩ := id hV
  have hn := hg.1
  have hN := hVT.1
  have ht := hVT.2.2.1
  refine xs_iload_1 eX7_waitFor_0 ?_
  refine xs_iload_2 eX7_waitFor_1 ?_
  refine xs_iload_3 eX7_waitFor_2 ?_
  by_cases c3 : wshP p b d
  · refine xbv_S30 (mi' := mX7_checkPromise) (y := yX7_checkPromise) eX7_waitFor_3 (xw_4 lRX7_98 wy_X7_checkPromise) rfl rfl ⟨wd_X7_checkPromise, by decide, by decide⟩ (Nat.le_of_ble_eq_true rfl) rfl (kk_X7_checkPromise yp yb yd c3 ?_)
    refine xs_aload_0 eX7_waitFor_6 ?_
    refine g_X7_5 eX7_waitFor_7 lRX7_34 ?_
    refine xs_aload_0 eX7_waitFor_10 ?_
    refine g_X7_0 eX7_waitFor_11 lRX7_10 ?_
    refine g_X4_0 eX7_waitFor_14 lRX7_88 ?_
    refine xbv_V10 (mi' := mX5_copyFrom) (y := yX5_copyFrom) eX7_waitFor_17 (xw_5 lRX7_119 wy_X5_copyFrom) rfl ⟨wd_X5_copyFrom, by decide, by decide⟩ (by decide) (fun _ => rfl) rfl (Nat.le_of_ble_eq_true rfl) rfl (f_X5_copyFrom (t := 0) (u := 6) (by decide) hVT (by omega) ?_)
    obtain ⟨g, hg9⟩ : ∃ g : Nat → Bool, g = (fun i => accF 0 5 N p b d (itr (tckS 0 n N) i S)) := ⟨_, rfl⟩
    have lp : ∀ i : Nat, i ≤ 121 → ∀ S1, scr S1 S ∧ VT 6 N (T + 2 * (i : Int)) S1 ∧ tlq 6 0 N S1 (itr (tckS 0 n N) i S) ∧ frs g (121 - i) i = frs g 121 0 → X w mX7_waitFor (xTG w (fun v S' => ∃ a, v = some (xi a) ∧ A a S') B) 1 6 23 [xp 0 0, xi p, xi b, xi d, xi (i : Int)] [] S1 := by
      refine nloop 121 (fun i hi ih S1 hI => ?_)
      refine xs_iload_4 eX7_waitFor_23 ?_
      refine xa_bipush eX7_waitFor_25 (by decide) ?_
      refine xa_icmp_gt (tgt := 63) eX7_waitFor_27 (by decide) (by omega) (by omega) (fun c27 => ?_) (fun c27 => ?_)
      · refine xa_iconst eX7_waitFor_63 ?_
        exact xa_iret eX7_waitFor_64 rfl ⟨_, rfl, by have h9 := hA; unfold o_waitFor at h9; rw [if_pos c3, ← hg9, ← hI.2.2.2, show 121 - i = 0 by omega, frs] at h9; exact h9 S1 rfl hI.1⟩
      · refine xs_aload_0 eX7_waitFor_30 ?_
        refine g_X7_4 eX7_waitFor_31 lRX7_30 ?_
        refine xs_aload_0 eX7_waitFor_34 ?_
        refine g_X7_5 eX7_waitFor_35 lRX7_34 ?_
        refine xs_iload_1 eX7_waitFor_38 ?_
        refine xs_iload_2 eX7_waitFor_39 ?_
        refine xs_iload_3 eX7_waitFor_40 ?_
        refine xbi_V40 (mi' := mX5_accepts) (y := yX5_accepts) eX7_waitFor_41 (xw_5 lRX7_104 wy_X5_accepts) rfl ⟨wd_X5_accepts, by decide, by decide⟩ (by decide) (fun _ => rfl) rfl (Nat.le_of_ble_eq_true rfl) rfl (f_X5_accepts (t := 6) (u := 5) (by decide) hI.2.1 hN20 (by have z := c3.1; omega) c3.2.1 (by have z := c3; omega) (by omega) (fun S2 hx2 => ?_))
        have ea : accF 6 5 N p b d S1 = g i := by rw [hg9]; exact hI.2.2.1.acc
        rw [ea]
        refine xa_ifb_eq (tgt := 50) eX7_waitFor_44 (by decide) (fun c44 => ?_) (fun c44 => ?_)
        · refine xs_aload_0 eX7_waitFor_50 ?_
          refine g_X7_5 eX7_waitFor_51 lRX7_34 ?_
          refine xbv_V00 (mi' := mX5_passTick) (y := yX5_passTick) eX7_waitFor_54 (xw_5 lRX7_123 wy_X5_passTick) rfl ⟨wd_X5_passTick, by decide, by decide⟩ (by decide) (fun _ => rfl) rfl (Nat.le_of_ble_eq_true rfl) rfl (f_X5_passTick (hI.2.1.xtl hx2 (by decide)) (by omega) ?_)
          refine xs_iinc_4 eX7_waitFor_57 rfl ?_
          refine xa_goto (tgt := 23) eX7_waitFor_60 (by decide) ?_
          have h9 := ih (i + 1) (by omega) (by omega) _ ⟨((tckT_fr (by omega)).scr (by decide)).tr ((hx2.scr (by decide)).tr hI.1), ((hI.2.1.xtl hx2 (by decide)).tck).mono (by omega), ((tlq.xtl hx2 (by omega) (by decide)).tr hI.2.2.1).tck.tr tlq.tckS.sym, by rw [← hI.2.2.2, frs_s (i := i) (by omega), if_neg c44]⟩
          rw [show (i : Int) + 1 = ((i + 1 : Nat) : Int) by omega]
          exact h9
        · refine xs_iload_4 eX7_waitFor_47 ?_
          exact xa_iret eX7_waitFor_49 rfl ⟨_, rfl, by have h9 := hA; unfold o_waitFor at h9; rw [if_pos c3, ← hg9, ← hI.2.2.2, frs_s (by omega), if_pos c44] at h9; exact h9 S2 rfl ((hx2.scr (by decide)).tr hI.1)⟩
    have h15 := lp 0 (by omega) _ ⟨(cpyT_fr (by omega)).scr (by decide), hVT.cpy.mono (by omega), tlq.cpy, rfl⟩
    refine xa_iconst eX7_waitFor_20 ?_
    refine xs_istore_4 eX7_waitFor_21 rfl ?_
    exact h15
  · exact xbv_S3 (mi' := mX7_checkPromise) (y := yX7_checkPromise) eX7_waitFor_3 (xw_4 lRX7_98 wy_X7_checkPromise) rfl rfl ⟨wd_X7_checkPromise, by decide, by decide⟩ (Nat.le_of_ble_eq_true rfl) rfl ⟨by decide, by decide⟩ (kt_X7_checkPromise yp yb yd c3 (xt_out rfl (hB1 S (by unfold o_waitFor; rw [if_neg c3]) scr.rf)))
set_option maxHeartbeats 400000 in
theorem G_waitFor {w : xW} {S : xS} {B : String → xS → Prop} {A : Int → xS → Prop} {p b d : Int} {n N : Nat} {T : Int} {C : xS} {M : Nat → Int} (hV : VS 0 n N T C) (hT : T ≤ 800000) (hR : Rel 0 n N C M) (yp : xr p) (yb : xr b) (yd : xr d)  (hq : ∀ r S' M', ((o_waitFor p b d n N C).1 = 0 → r = (o_waitFor p b d n N C).2.1) → rfr S' S → S' 30 0 4 = ((o_waitFor p b d n N C).1 : Int) → Rel 0 (o_waitFor p b d n N C).2.2.1 (o_waitFor p b d n N C).2.2.2.1 (o_waitFor p b d n N C).2.2.2.2 M' → A r (stM M' S')) : Ki w mX8_waitFor yX8_waitFor 0 0 [xp 30 0, xi p, xi b, xi d] (stM M S) A B := by
  refine K.of rfl rfl rfl rfl (Nat.le_of_ble_eq_true rfl) rfl ?_
  obtain ⟨hVT, hN20, h8, hg, hp, ho, hs⟩ := id hV
  have hn := hg.1
  have hN := hVT.1
  have ht := hVT.2.2.1
  have hM1 : M 1 = (n : Int) := by rw [hR.1 1 (by decide)]; exact hn
  have hM2 : M 2 = (N : Int) := by rw [hR.1 2 (by decide)]; exact hN
  refine xs_aload_0 eX8_waitFor_0 ?_
  refine xs_iload_1 eX8_waitFor_1 ?_
  refine xs_iload_2 eX8_waitFor_2 ?_
  refine xs_iload_3 eX8_waitFor_3 ?_
  refine xbi_S30 (mi' := mX8_isWish) (y := yX8_isWish) eX8_waitFor_4 (xw_4 lRX8_167 wy_X8_isWish) rfl rfl ⟨wd_X8_isWish, by decide, by decide⟩ (Nat.le_of_ble_eq_true rfl) rfl (k_X8_isWish yp yb yd ?_)
  refine xa_ifb_eq (tgt := 14) eX8_waitFor_7 (by decide) (fun c7 => ?_) (fun c7 => ?_)
  · refine xa_iconst eX8_waitFor_14 ?_
    refine p_X8_4 eX8_waitFor_15 lRX8_52 (by decide) ?_
    rw [up_stO (by decide)]
    refine xs_aload_0 eX8_waitFor_18 ?_
    refine gr_X8_4 eX8_waitFor_19 lRX8_52 (fun r19 => ?_)
    try simp (decide := true) only [stM_31, stM_k, up_same, hM1, hM2, show (0 : Int).toNat = 0 from rfl, show (1 : Int).toNat = 1 from rfl, show (2 : Int).toNat = 2 from rfl, show (3 : Int).toNat = 3 from rfl, show (4 : Int).toNat = 4 from rfl, show (5 : Int).toNat = 5 from rfl, show (6 : Int).toNat = 6 from rfl, show (7 : Int).toNat = 7 from rfl, show (8 : Int).toNat = 8 from rfl, show (9 : Int).toNat = 9 from rfl, show (10 : Int).toNat = 10 from rfl, show (11 : Int).toNat = 11 from rfl, show (12 : Int).toNat = 12 from rfl, show (13 : Int).toNat = 13 from rfl, show (14 : Int).toNat = 14 from rfl, Int.toNat_natCast] at r19 ⊢
    refine xa_if_eq (tgt := 27) eX8_waitFor_22 (by decide) (by decide) (fun c22 => ?_) (fun c22 => ?_)
    · exact absurd c22 (by decide)
    · refine xa_iconst eX8_waitFor_25 ?_
      exact xa_iret eX8_waitFor_26 rfl ⟨_, rfl, by have h9 := hq; unfold o_waitFor at h9; rw [if_neg c7] at h9; exact h9 _ _ _ (fun z => absurd z (Nat.succ_ne_zero _)) rfr.t (by rw [up_same]; rfl) hR⟩
  · refine xa_iconst eX8_waitFor_10 ?_
    refine xa_goto (tgt := 15) eX8_waitFor_11 (by decide) ?_
    refine p_X8_4 eX8_waitFor_15 lRX8_52 (by decide) ?_
    rw [up_stO (by decide)]
    refine xs_aload_0 eX8_waitFor_18 ?_
    refine gr_X8_4 eX8_waitFor_19 lRX8_52 (fun r19 => ?_)
    try simp (decide := true) only [stM_31, stM_k, up_same, hM1, hM2, show (0 : Int).toNat = 0 from rfl, show (1 : Int).toNat = 1 from rfl, show (2 : Int).toNat = 2 from rfl, show (3 : Int).toNat = 3 from rfl, show (4 : Int).toNat = 4 from rfl, show (5 : Int).toNat = 5 from rfl, show (6 : Int).toNat = 6 from rfl, show (7 : Int).toNat = 7 from rfl, show (8 : Int).toNat = 8 from rfl, show (9 : Int).toNat = 9 from rfl, show (10 : Int).toNat = 10 from rfl, show (11 : Int).toNat = 11 from rfl, show (12 : Int).toNat = 12 from rfl, show (13 : Int).toNat = 13 from rfl, show (14 : Int).toNat = 14 from rfl, Int.toNat_natCast] at r19 ⊢
    refine xa_if_eq (tgt := 27) eX8_waitFor_22 (by decide) (by decide) (fun c22 => ?_) (fun c22 => ?_)
    · refine xs_aload_0 eX8_waitFor_27 ?_
      refine g_X8_0 eX8_waitFor_28 lRX8_7 ?_
      refine xa_iconst eX8_waitFor_31 ?_
      refine xs_aload_0 eX8_waitFor_32 ?_
      refine g_X8_1 eX8_waitFor_33 lRX8_13 ?_
      refine xa_iconst eX8_waitFor_36 ?_
      refine xbv_S40 (mi' := mX8_copy) (y := yX8_copy) eX8_waitFor_37 (xw_4 lRX8_180 wy_X8_copy) rfl rfl ⟨wd_X8_copy, by decide, by decide⟩ (Nat.le_of_ble_eq_true rfl) rfl (k_X8_copy_31_32 ?_)
      rw [bkp]
      obtain ⟨g, hg9⟩ : ∃ g : Nat → Bool, g = (fun i => accF 0 5 N p b d (itr (tckS 0 n N) i C)) := ⟨_, rfl⟩
      have lp : ∀ i : Nat, i ≤ 120 → ∀ (S1 : xS) (M1 : Nat → Int), rfr S1 S ∧ S1 30 0 4 = 0 ∧ (∀ f, f < 527 → S1 32 0 f = M f) ∧ Rel 0 n N (itr (tckS 0 n N) i C) M1 ∧ frs g (121 - i) i = frs g 121 0 → X w mX8_waitFor (xTG w (fun v S' => ∃ a, v = some (xi a) ∧ A a S') B) 0 0 52 [xp 30 0, xi p, xi b, xi d, xi (i : Int), xi (b2i (g i = true))] [] (stM M1 S1) := by
        refine nloop 120 (fun i hi ih S1 M1 hI => ?_)
        refine xs_iload_5 eX8_waitFor_52 ?_
        refine xa_ifb_ne (tgt := 83) eX8_waitFor_54 (by decide) (fun c54 => ?_) (fun c54 => ?_)
        · refine xs_aload_0 eX8_waitFor_83 ?_
          refine g_X8_1 eX8_waitFor_84 lRX8_13 ?_
          refine xa_iconst eX8_waitFor_87 ?_
          refine xs_aload_0 eX8_waitFor_88 ?_
          refine g_X8_0 eX8_waitFor_89 lRX8_7 ?_
          refine xa_iconst eX8_waitFor_92 ?_
          refine xbv_S40 (mi' := mX8_copy) (y := yX8_copy) eX8_waitFor_93 (xw_4 lRX8_180 wy_X8_copy) rfl rfl ⟨wd_X8_copy, by decide, by decide⟩ (Nat.le_of_ble_eq_true rfl) rfl (k_X8_copy_32_31 ?_)
          refine xs_iload_5 eX8_waitFor_96 ?_
          refine xa_ifb_eq (tgt := 106) eX8_waitFor_98 (by decide) (fun c98 => ?_) (fun c98 => ?_)
          · exact absurd c54 c98
          · refine xs_iload_4 eX8_waitFor_101 ?_
            refine xa_goto (tgt := 107) eX8_waitFor_103 (by decide) ?_
            exact xa_iret eX8_waitFor_107 rfl ⟨_, rfl, by have h9 := hq; unfold o_waitFor at h9; rw [if_pos c7] at h9; rw [← hg9] at h9; have h8b := h9 (i : Int) (cpA 32 0 31 0 527 (stM M1 S1)) (cpA 32 0 31 0 527 (stM M1 S1) 31 0) (fun _ => by rw [← hI.2.2.2.2, frs_s hi, if_pos c54]) ((rst_rfr M1 S1).tr hI.1) (by rw [cpA_o (by decide), stM_k (by decide)]; exact hI.2.1) (rst_rel hR hN20 hI.2.2.1); rw [stM_self] at h8b; exact h8b⟩
        · refine xs_iload_4 eX8_waitFor_57 ?_
          refine xa_bipush eX8_waitFor_59 (by decide) ?_
          refine xa_icmp_ge (tgt := 83) eX8_waitFor_61 (by decide) (by omega) (by decide) (fun c61 => ?_) (fun c61 => ?_)
          · refine xs_aload_0 eX8_waitFor_83 ?_
            refine g_X8_1 eX8_waitFor_84 lRX8_13 ?_
            refine xa_iconst eX8_waitFor_87 ?_
            refine xs_aload_0 eX8_waitFor_88 ?_
            refine g_X8_0 eX8_waitFor_89 lRX8_7 ?_
            refine xa_iconst eX8_waitFor_92 ?_
            refine xbv_S40 (mi' := mX8_copy) (y := yX8_copy) eX8_waitFor_93 (xw_4 lRX8_180 wy_X8_copy) rfl rfl ⟨wd_X8_copy, by decide, by decide⟩ (Nat.le_of_ble_eq_true rfl) rfl (k_X8_copy_32_31 ?_)
            refine xs_iload_5 eX8_waitFor_96 ?_
            refine xa_ifb_eq (tgt := 106) eX8_waitFor_98 (by decide) (fun c98 => ?_) (fun c98 => ?_)
            · refine xa_iconst eX8_waitFor_106 ?_
              exact xa_iret eX8_waitFor_107 rfl ⟨_, rfl, by have h9 := hq; unfold o_waitFor at h9; rw [if_pos c7] at h9; rw [← hg9] at h9; have h8b := h9 (-1) (cpA 32 0 31 0 527 (stM M1 S1)) (cpA 32 0 31 0 527 (stM M1 S1) 31 0) (fun _ => by rw [← hI.2.2.2.2, frs_s hi, if_neg c54, show 121 - (i + 1) = 0 by omega, frs]) ((rst_rfr M1 S1).tr hI.1) (by rw [cpA_o (by decide), stM_k (by decide)]; exact hI.2.1) (rst_rel hR hN20 hI.2.2.1); rw [stM_self] at h8b; exact h8b⟩
            · exact absurd c98 c54
          · refine xs_aload_0 eX8_waitFor_64 ?_
            refine xbv_V00 (mi' := mX8_tick) (y := yX8_tick) eX8_waitFor_65 (xw_5 lRX8_184 wy_X8_tick) rfl ⟨wd_X8_tick, by decide, by decide⟩ (by decide) (fun _ => rfl) rfl (Nat.le_of_ble_eq_true rfl) rfl (f_X8_tick (hV.itr i) (by omega) hI.2.2.2.1 (fun M2 hM2 => ?_))
            refine xs_iinc_4 eX8_waitFor_68 rfl ?_
            refine xs_aload_0 eX8_waitFor_71 ?_
            refine xs_iload_1 eX8_waitFor_72 ?_
            refine xs_iload_2 eX8_waitFor_73 ?_
            refine xs_iload_3 eX8_waitFor_74 ?_
            refine xbi_V30 (mi' := mX8_accepts) (y := yX8_accepts) eX8_waitFor_75 (xw_5 lRX8_173 wy_X8_accepts) rfl ⟨wd_X8_accepts, by decide, by decide⟩ (by decide) (fun _ => rfl) rfl (Nat.le_of_ble_eq_true rfl) rfl (q_X8_accepts (hV.itr (i + 1)) (by omega) hM2 (by have z := c7.1; omega) c7.2.1 (by have z := c7; omega) (fun S2 hx2 h32 => ?_))
            have ea : accF 0 5 N p b d (itr (tckS 0 n N) (i + 1) C) = g (i + 1) := by rw [hg9]
            rw [ea]
            refine xs_istore_5 eX8_waitFor_78 rfl ?_
            refine xa_goto (tgt := 52) eX8_waitFor_80 (by decide) ?_
            have h9 := ih (i + 1) (by omega) (by omega) S2 M2 ⟨hx2.1.tr hI.1, by rw [hx2.2 4 (by decide) (by decide)]; exact hI.2.1, fun f hf => by rw [h32]; exact hI.2.2.1 f hf, hM2, by rw [← hI.2.2.2.2, frs_s (i := i) (by omega), if_neg c54]⟩
            rw [show (i : Int) + 1 = ((i + 1 : Nat) : Int) by omega]
            exact h9
      refine xa_iconst eX8_waitFor_40 ?_
      refine xs_istore_4 eX8_waitFor_41 rfl ?_
      refine xs_aload_0 eX8_waitFor_43 ?_
      refine xs_iload_1 eX8_waitFor_44 ?_
      refine xs_iload_2 eX8_waitFor_45 ?_
      refine xs_iload_3 eX8_waitFor_46 ?_
      refine xbi_V30 (mi' := mX8_accepts) (y := yX8_accepts) eX8_waitFor_47 (xw_5 lRX8_173 wy_X8_accepts) rfl ⟨wd_X8_accepts, by decide, by decide⟩ (by decide) (fun _ => rfl) rfl (Nat.le_of_ble_eq_true rfl) rfl (q_X8_accepts hV (by omega) hR (by have z := c7.1; omega) c7.2.1 (by have z := c7; omega) (fun S2 hx2 h32 => ?_))
      have ea : accF 0 5 N p b d C = g 0 := by rw [hg9]; rfl
      rw [ea]
      refine xs_istore_5 eX8_waitFor_50 rfl ?_
      have h9 := lp 0 (by omega) S2 M ⟨hx2.1.tr ((bkp_rfr M _).tr rfr.t), by rw [hx2.2 4 (by decide) (by decide), cpA_o (by decide), stM_k (by decide), up_same], fun f hf => by rw [h32]; exact bkp_32 hf, hR, rfl⟩
      exact h9
    · exact absurd rfl c22
