/-! the cheapest promise, leases -/
set_option maxHeartbeats 400000 in
theorem r_X8_isCheaper {w : xW} {S : xS} {B : String → xS → Prop} {A : Int → xS → Prop} {n N i b : Nat} {T : Int} {C : xS} {M : Nat → Int} (hV : VS 0 n N T C) (hT : T ≤ 900000) (hR : Rel 0 n N C M) (hi : i < N) (hb : b < N) (hq : A (b2i (C 10 (32 * 0 + i) 9 < C 10 (32 * 0 + b) 9 ∨ C 10 (32 * 0 + i) 9 = C 10 (32 * 0 + b) 9 ∧ C 10 (32 * 0 + b) 3 < C 10 (32 * 0 + i) 3)) (stM M S)) : Ki w mX8_isCheaper yX8_isCheaper 0 0 [xp 30 0, xi (i : Int), xi (b : Int)] (stM M S) A B := by
  refine K.of rfl rfl rfl rfl (Nat.le_of_ble_eq_true rfl) rfl ?_
  obtain ⟨hVT, hN20, h8, hg, hp, ho, hs⟩ := id hV
  have hO1 := ho i hi
  have hO2 := ho b hb
  have hT1 := hVT.2.2.2 i hi
  have hT2 := hVT.2.2.2 b hb
  unfold OQ at hO1 hO2
  unfold TQ at hT1 hT2
  refine xs_aload_0 eX8_isCheaper_0 ?_
  refine xs_iload_1 eX8_isCheaper_1 ?_
  refine xa_bipush eX8_isCheaper_2 (by decide) ?_
  refine xbi_V20 (mi' := mX8_told0) (y := yX8_told0) eX8_isCheaper_4 (xw_5 lRX8_122 wy_X8_told0) rfl ⟨wd_X8_told0, by decide, by decide⟩ (by decide) (fun _ => rfl) rfl (Nat.le_of_ble_eq_true rfl) rfl (r_X8_told0 (j := i) (g := 9) hR rfl rfl hi hN20 (by decide) (by decide) (by decide) (by decide) ?_)
  refine xs_aload_0 eX8_isCheaper_7 ?_
  refine xs_iload_2 eX8_isCheaper_8 ?_
  refine xa_bipush eX8_isCheaper_9 (by decide) ?_
  refine xbi_V20 (mi' := mX8_told0) (y := yX8_told0) eX8_isCheaper_11 (xw_5 lRX8_122 wy_X8_told0) rfl ⟨wd_X8_told0, by decide, by decide⟩ (by decide) (fun _ => rfl) rfl (Nat.le_of_ble_eq_true rfl) rfl (r_X8_told0 (j := b) (g := 9) hR rfl rfl hb hN20 (by decide) (by decide) (by decide) (by decide) ?_)
  refine xa_isub eX8_isCheaper_14 ?_
  refine xs_istore_3 eX8_isCheaper_15 rfl ?_
  refine xs_iload_3 eX8_isCheaper_16 ?_
  refine xa_if_lt (tgt := 39) eX8_isCheaper_17 (by decide) (by omega) (fun c17 => ?_) (fun c17 => ?_)
  · refine xa_iconst eX8_isCheaper_39 ?_
    refine xa_goto (tgt := 44) eX8_isCheaper_40 (by decide) ?_
    exact xa_zret eX8_isCheaper_44 rfl (by decide) ⟨_, rfl, by have h9 := hq; rw [b2i, if_pos (by omega)] at h9; exact h9⟩
  · refine xs_iload_3 eX8_isCheaper_20 ?_
    refine xa_if_ne (tgt := 43) eX8_isCheaper_21 (by decide) (by omega) (fun c21 => ?_) (fun c21 => ?_)
    · refine xa_iconst eX8_isCheaper_43 ?_
      exact xa_zret eX8_isCheaper_44 rfl (by decide) ⟨_, rfl, by have h9 := hq; rw [b2i, if_neg (by omega)] at h9; exact h9⟩
    · refine xs_aload_0 eX8_isCheaper_24 ?_
      refine xs_iload_1 eX8_isCheaper_25 ?_
      refine xa_iconst eX8_isCheaper_26 ?_
      refine xbi_V20 (mi' := mX8_told0) (y := yX8_told0) eX8_isCheaper_27 (xw_5 lRX8_122 wy_X8_told0) rfl ⟨wd_X8_told0, by decide, by decide⟩ (by decide) (fun _ => rfl) rfl (Nat.le_of_ble_eq_true rfl) rfl (r_X8_told0 (j := i) (g := 3) hR rfl rfl hi hN20 (by decide) (by decide) (by decide) (by decide) ?_)
      refine xs_aload_0 eX8_isCheaper_30 ?_
      refine xs_iload_2 eX8_isCheaper_31 ?_
      refine xa_iconst eX8_isCheaper_32 ?_
      refine xbi_V20 (mi' := mX8_told0) (y := yX8_told0) eX8_isCheaper_33 (xw_5 lRX8_122 wy_X8_told0) rfl ⟨wd_X8_told0, by decide, by decide⟩ (by decide) (fun _ => rfl) rfl (Nat.le_of_ble_eq_true rfl) rfl (r_X8_told0 (j := b) (g := 3) hR rfl rfl hb hN20 (by decide) (by decide) (by decide) (by decide) ?_)
      refine xa_icmp_le (tgt := 43) eX8_isCheaper_36 (by decide) (by omega) (by omega) (fun c36 => ?_) (fun c36 => ?_)
      · refine xa_iconst eX8_isCheaper_43 ?_
        exact xa_zret eX8_isCheaper_44 rfl (by decide) ⟨_, rfl, by have h9 := hq; rw [b2i, if_neg (by omega)] at h9; exact h9⟩
      · refine xa_iconst eX8_isCheaper_39 ?_
        refine xa_goto (tgt := 44) eX8_isCheaper_40 (by decide) ?_
        exact xa_zret eX8_isCheaper_44 rfl (by decide) ⟨_, rfl, by have h9 := hq; rw [b2i, if_pos (by omega)] at h9; exact h9⟩
set_option maxHeartbeats 400000 in
theorem F_buyCheapest {w : xW} {S : xS} {B : String → xS → Prop} {A : Int → xS → Prop} {q : Int} {n N : Nat} {T : Int} (hV : VS 0 n N T S) (hT : T ≤ 800000) (yq : xr q)  (hA : ∀ S', (o_buyCheapest q n N S).1 = 0 → scr S' (o_buyCheapest q n N S).2.2.2.2 → A (o_buyCheapest q n N S).2.1 S') (hB1 : ∀ S', (o_buyCheapest q n N S).1 = 1 → scr S' S → B "java/lang/IndexOutOfBoundsException" S') : Ki w mX7_buyCheapest yX7_buyCheapest 1 6 [xp 0 0, xi q] S A B := by
  refine K.of rfl rfl rfl rfl (Nat.le_of_ble_eq_true rfl) rfl ?_
  obtain ⟨hVT, hN20, h8, hg, hp, ho, hs⟩ := id hV
  have hn := hg.1
  have hN := hVT.1
  have ht := hVT.2.2.1
  refine xs_aload_0 eX7_buyCheapest_0 ?_
  refine g_X7_0 eX7_buyCheapest_1 lRX7_10 ?_
  refine xs_iload_1 eX7_buyCheapest_4 ?_
  by_cases c5 : 0 ≤ q ∧ q < (n : Int)
  · refine xbo_V10 (mi' := mX4_knownProcess) (y := yX4_knownProcess) eX7_buyCheapest_5 (xw_5 lRX7_60 wy_X4_knownProcess) rfl ⟨wd_X4_knownProcess, by decide, by decide⟩ (by decide) (fun _ => rfl) rfl (Nat.le_of_ble_eq_true rfl) rfl (kI_X4_knownProcess hn h8 c5 ?_)
    obtain ⟨q9, rfl⟩ : ∃ q9 : Nat, q = (q9 : Int) := ⟨q.toNat, by omega⟩
    have hqn : q9 < n := by omega
    refine xa_pop eX7_buyCheapest_8 rfl ?_
    refine xs_aload_0 eX7_buyCheapest_9 ?_
    refine g_X7_0 eX7_buyCheapest_10 lRX7_10 ?_
    refine xs_iload_1 eX7_buyCheapest_13 ?_
    refine xbi_V10 (mi' := mX4_cheapestFor) (y := yX4_cheapestFor) eX7_buyCheapest_14 (xw_5 lRX7_184 wy_X4_cheapestFor) rfl ⟨wd_X4_cheapestFor, by decide, by decide⟩ (by decide) (fun _ => rfl) rfl (Nat.le_of_ble_eq_true rfl) rfl (f_X4_cheapestFor (s := 0) hn h8 hN (by omega) hqn (fun eb => ?_) (fun b eb => ?_))
    · refine xs_istore_2 eX7_buyCheapest_17 rfl ?_
      refine xs_iload_2 eX7_buyCheapest_18 ?_
      refine xa_iconst eX7_buyCheapest_19 ?_
      refine xa_icmp_eq (tgt := 42) eX7_buyCheapest_20 (by decide) (by omega) (by decide) (fun c20 => ?_) (fun c20 => ?_)
      · refine xs_iload_2 eX7_buyCheapest_42 ?_
        exact xa_iret eX7_buyCheapest_43 rfl ⟨_, rfl, by have h9 := hA; unfold o_buyCheapest at h9; rw [if_pos c5, Int.toNat_natCast, eb] at h9; exact h9 _ rfl scr.rf⟩
      · exact absurd rfl c20
    · have hlt := chpS_lt eb
      have hOb := ho b hlt.1
      unfold OQ at hOb
      obtain ⟨o9, eo⟩ : ∃ o9 : Nat, S 10 (32 * 0 + b) 1 = (o9 : Int) := ⟨(S 10 (32 * 0 + b) 1).toNat, by omega⟩
      refine xs_istore_2 eX7_buyCheapest_17 rfl ?_
      refine xs_iload_2 eX7_buyCheapest_18 ?_
      refine xa_iconst eX7_buyCheapest_19 ?_
      refine xa_icmp_eq (tgt := 42) eX7_buyCheapest_20 (by decide) (by omega) (by decide) (fun c20 => ?_) (fun c20 => ?_)
      · exact absurd c20 (by omega)
      · refine xs_aload_0 eX7_buyCheapest_23 ?_
        refine g_X7_0 eX7_buyCheapest_24 lRX7_10 ?_
        refine xs_aload_0 eX7_buyCheapest_27 ?_
        refine g_X7_0 eX7_buyCheapest_28 lRX7_10 ?_
        refine g_X4_0 eX7_buyCheapest_31 lRX7_88 ?_
        refine xs_iload_2 eX7_buyCheapest_34 ?_
        refine xbo_V10 (mi' := mX5_knownPromise) (y := yX5_knownPromise) eX7_buyCheapest_35 (xw_5 lRX7_126 wy_X5_knownPromise) rfl ⟨wd_X5_knownPromise, by decide, by decide⟩ (by decide) (fun _ => rfl) rfl (Nat.le_of_ble_eq_true rfl) rfl (kI_X5_knownPromise hN (by omega) (by omega) ?_)
        rw [Int.toNat_natCast]
        refine xs_iload_1 eX7_buyCheapest_38 ?_
        refine xbv_V20 (mi' := mX4_sell) (y := yX4_sell) eX7_buyCheapest_39 (xw_5 lRX7_181 wy_X4_sell) rfl ⟨wd_X4_sell, by decide, by decide⟩ (by decide) (fun _ => rfl) rfl (Nat.le_of_ble_eq_true rfl) rfl (f_X4_sell (o := o9) hV (by omega) hlt.1 hqn (by omega) hlt.2.2.2 eo (by intro z; exact hlt.2.2.1 (by rw [eo, z])) ?_)
        refine xs_iload_2 eX7_buyCheapest_42 ?_
        exact xa_iret eX7_buyCheapest_43 rfl ⟨_, rfl, by have h9 := hA; unfold o_buyCheapest at h9; rw [if_pos c5, Int.toNat_natCast, eb] at h9; dsimp only at h9; rw [eo, Int.toNat_natCast] at h9; exact h9 _ rfl scr.rf⟩
  · exact xbo_V1 (mi' := mX4_knownProcess) (y := yX4_knownProcess) eX7_buyCheapest_5 (xw_5 lRX7_60 wy_X4_knownProcess) rfl ⟨wd_X4_knownProcess, by decide, by decide⟩ (by decide) (fun _ => rfl) rfl (Nat.le_of_ble_eq_true rfl) rfl ⟨by decide, by decide⟩ (kt_X4_knownProcess hn h8 yq c5 (xt_out rfl (hB1 S (by unfold o_buyCheapest; rw [if_neg c5]) scr.rf)))
set_option maxHeartbeats 400000 in
theorem G_buyCheapest {w : xW} {S : xS} {B : String → xS → Prop} {A : Int → xS → Prop} {q : Int} {n N : Nat} {T : Int} {C : xS} {M : Nat → Int} (hV : VS 0 n N T C) (hT : T ≤ 800000) (hR : Rel 0 n N C M) (yq : xr q)  (hq : ∀ r S' M', ((o_buyCheapest q n N C).1 = 0 → r = (o_buyCheapest q n N C).2.1) → rfr S' S → S' 30 0 4 = ((o_buyCheapest q n N C).1 : Int) → Rel 0 (o_buyCheapest q n N C).2.2.1 (o_buyCheapest q n N C).2.2.2.1 (o_buyCheapest q n N C).2.2.2.2 M' → A r (stM M' S')) : Ki w mX8_buyCheapest yX8_buyCheapest 0 0 [xp 30 0, xi q] (stM M S) A B := by
  refine K.of rfl rfl rfl rfl (Nat.le_of_ble_eq_true rfl) rfl ?_
  obtain ⟨hVT, hN20, h8, hg, hp, ho, hs⟩ := id hV
  have hn := hg.1
  have hN := hVT.1
  have ht := hVT.2.2.1
  have hM1 : M 1 = (n : Int) := by rw [hR.1 1 (by decide)]; exact hn
  have hM2 : M 2 = (N : Int) := by rw [hR.1 2 (by decide)]; exact hN
  refine xs_aload_0 eX8_buyCheapest_0 ?_
  refine xa_iconst eX8_buyCheapest_1 ?_
  refine p_X8_4 eX8_buyCheapest_2 lRX8_52 (by decide) ?_
  rw [up_stO (by decide)]
  refine xs_aload_0 eX8_buyCheapest_5 ?_
  refine xs_iload_1 eX8_buyCheapest_6 ?_
  refine xbi_V10 (mi' := mX8_isProcess) (y := yX8_isProcess) eX8_buyCheapest_7 (xw_5 lRX8_98 wy_X8_isProcess) rfl ⟨wd_X8_isProcess, by decide, by decide⟩ (by decide) (fun _ => rfl) rfl (Nat.le_of_ble_eq_true rfl) rfl (r_X8_isProcess hV hR yq ?_)
  refine xa_ifb_ne (tgt := 19) eX8_buyCheapest_10 (by decide) (fun c10 => ?_) (fun c10 => ?_)
  · obtain ⟨q9, rfl⟩ : ∃ q9 : Nat, q = (q9 : Int) := ⟨q.toNat, by omega⟩
    have hqn : q9 < n := by omega
    have lp : ∀ i : Nat, i ≤ N →  X w mX8_buyCheapest (xTG w (fun v S' => ∃ a, v = some (xi a) ∧ A a S') B) 0 0 23 [xp 30 0, xi (q9 : Int), (match chpS 0 q9 C i with | none => xi (-1) | some b => xi (b : Int)), xi (i : Int)] [] (stM M (up S 30 0 4 0)) := by
      refine nloop (N) (fun i hi ih  => ?_)
      cases hI : chpS 0 q9 C i with
      | none =>
        refine xs_iload_3 eX8_buyCheapest_23 ?_
        refine xa_i2l eX8_buyCheapest_24 (by omega) ?_
        refine xs_aload_0 eX8_buyCheapest_25 ?_
        refine g_X8_0 eX8_buyCheapest_26 lRX8_7 ?_
        refine xa_iconst eX8_buyCheapest_29 ?_
        refine gar_31 eX8_buyCheapest_30 (by decide) (fun r30 => ?_)
        try simp (decide := true) only [stM_31, stM_k, up_same, hM1, hM2, show (0 : Int).toNat = 0 from rfl, show (1 : Int).toNat = 1 from rfl, show (2 : Int).toNat = 2 from rfl, show (3 : Int).toNat = 3 from rfl, show (4 : Int).toNat = 4 from rfl, show (5 : Int).toNat = 5 from rfl, show (6 : Int).toNat = 6 from rfl, show (7 : Int).toNat = 7 from rfl, show (8 : Int).toNat = 8 from rfl, show (9 : Int).toNat = 9 from rfl, show (10 : Int).toNat = 10 from rfl, show (11 : Int).toNat = 11 from rfl, show (12 : Int).toNat = 12 from rfl, show (13 : Int).toNat = 13 from rfl, show (14 : Int).toNat = 14 from rfl, Int.toNat_natCast] at r30 ⊢
        refine xa_lcmp eX8_buyCheapest_31 (by omega) (by omega) ?_
        refine xa_ifc_ge (tgt := 66) eX8_buyCheapest_32 (by decide) (fun c32 => ?_) (fun c32 => ?_)
        · refine xs_iload_2 eX8_buyCheapest_66 ?_
          refine xa_iconst eX8_buyCheapest_67 ?_
          refine xa_icmp_eq (tgt := 78) eX8_buyCheapest_68 (by decide) (by omega) (by decide) (fun c68 => ?_) (fun c68 => ?_)
          · refine xs_iload_2 eX8_buyCheapest_78 ?_
            exact xa_iret eX8_buyCheapest_79 rfl ⟨_, rfl, by have eb : chpS 0 q9 C N = none := (by rw [show N = i by omega]; exact hI); have h9 := hq; unfold o_buyCheapest at h9; rw [if_pos c10, Int.toNat_natCast, eb] at h9; exact h9 _ _ M (fun _ => rfl) rfr.t (by rw [up_same]; rfl) hR⟩
          · exact absurd rfl c68
        · refine xs_aload_0 eX8_buyCheapest_35 ?_
          refine xs_iload_3 eX8_buyCheapest_36 ?_
          refine xs_iload_1 eX8_buyCheapest_37 ?_
          refine xbi_V20 (mi' := mX8_canBuy) (y := yX8_canBuy) eX8_buyCheapest_38 (xw_5 lRX8_213 wy_X8_canBuy) rfl ⟨wd_X8_canBuy, by decide, by decide⟩ (by decide) (fun _ => rfl) rfl (Nat.le_of_ble_eq_true rfl) rfl (r_X8_canBuy hV (by omega) hR (by omega) hqn ?_)
          refine xa_ifb_eq (tgt := 60) eX8_buyCheapest_41 (by decide) (fun c41 => ?_) (fun c41 => ?_)
          · refine xs_iinc_3 eX8_buyCheapest_60 rfl ?_
            refine xa_goto (tgt := 23) eX8_buyCheapest_63 (by decide) ?_
            have e : chpS 0 q9 C (i + 1) = none := by rw [chpS, if_neg (show ¬ (C 10 (32 * 0 + i) 9 ≠ -1 ∧ C 10 (32 * 0 + i) 1 ≠ (q9 : Int) ∧ C 10 (32 * 0 + i) 9 ≤ C 4 (8 * 0 + q9) 0) from c41)]; exact hI
            have h9 := ih (i + 1) (by omega) (by omega)
            rw [e] at h9
            exact h9
          · refine xs_iload_2 eX8_buyCheapest_44 ?_
            refine xa_iconst eX8_buyCheapest_45 ?_
            refine xa_icmp_eq (tgt := 58) eX8_buyCheapest_46 (by decide) (by omega) (by decide) (fun c46 => ?_) (fun c46 => ?_)
            · refine xs_iload_3 eX8_buyCheapest_58 ?_
              refine xs_istore_2 eX8_buyCheapest_59 rfl ?_
              refine xs_iinc_3 eX8_buyCheapest_60 rfl ?_
              refine xa_goto (tgt := 23) eX8_buyCheapest_63 (by decide) ?_
              have e : chpS 0 q9 C (i + 1) = some i := by rw [chpS, if_pos (show C 10 (32 * 0 + i) 9 ≠ -1 ∧ C 10 (32 * 0 + i) 1 ≠ (q9 : Int) ∧ C 10 (32 * 0 + i) 9 ≤ C 4 (8 * 0 + q9) 0 from c41), hI]
              have h9 := ih (i + 1) (by omega) (by omega)
              rw [e] at h9
              exact h9
            · exact absurd rfl c46
      | some b =>
        refine xs_iload_3 eX8_buyCheapest_23 ?_
        refine xa_i2l eX8_buyCheapest_24 (by omega) ?_
        refine xs_aload_0 eX8_buyCheapest_25 ?_
        refine g_X8_0 eX8_buyCheapest_26 lRX8_7 ?_
        refine xa_iconst eX8_buyCheapest_29 ?_
        refine gar_31 eX8_buyCheapest_30 (by decide) (fun r30 => ?_)
        try simp (decide := true) only [stM_31, stM_k, up_same, hM1, hM2, show (0 : Int).toNat = 0 from rfl, show (1 : Int).toNat = 1 from rfl, show (2 : Int).toNat = 2 from rfl, show (3 : Int).toNat = 3 from rfl, show (4 : Int).toNat = 4 from rfl, show (5 : Int).toNat = 5 from rfl, show (6 : Int).toNat = 6 from rfl, show (7 : Int).toNat = 7 from rfl, show (8 : Int).toNat = 8 from rfl, show (9 : Int).toNat = 9 from rfl, show (10 : Int).toNat = 10 from rfl, show (11 : Int).toNat = 11 from rfl, show (12 : Int).toNat = 12 from rfl, show (13 : Int).toNat = 13 from rfl, show (14 : Int).toNat = 14 from rfl, Int.toNat_natCast] at r30 ⊢
        refine xa_lcmp eX8_buyCheapest_31 (by omega) (by omega) ?_
        refine xa_ifc_ge (tgt := 66) eX8_buyCheapest_32 (by decide) (fun c32 => ?_) (fun c32 => ?_)
        · refine xs_iload_2 eX8_buyCheapest_66 ?_
          refine xa_iconst eX8_buyCheapest_67 ?_
          refine xa_icmp_eq (tgt := 78) eX8_buyCheapest_68 (by decide) (by have z := chpS_lt hI; omega) (by decide) (fun c68 => ?_) (fun c68 => ?_)
          · exact absurd c68 (by omega)
          · have eb : chpS 0 q9 C N = some b := by rw [show N = i by omega]; exact hI
            have hlt := chpS_lt eb
            have hOb := ho b hlt.1
            unfold OQ at hOb
            obtain ⟨o9, eo⟩ : ∃ o9 : Nat, C 10 (32 * 0 + b) 1 = (o9 : Int) := ⟨(C 10 (32 * 0 + b) 1).toNat, by omega⟩
            refine xs_aload_0 eX8_buyCheapest_71 ?_
            refine xs_iload_2 eX8_buyCheapest_72 ?_
            refine xs_iload_1 eX8_buyCheapest_73 ?_
            refine xbi_V20 (mi' := mX8_sell) (y := yX8_sell) eX8_buyCheapest_74 (xw_5 lRX8_217 wy_X8_sell) rfl ⟨wd_X8_sell, by decide, by decide⟩ (by decide) (fun _ => rfl) rfl (Nat.le_of_ble_eq_true rfl) rfl (r_X8_sell (o := o9) hV (by omega) hR hlt.1 hqn (by omega) hlt.2.2.2 eo (by intro z; exact hlt.2.2.1 (by rw [eo, z])) (fun M2 hR2 => ?_))
            refine xs_istore_3 eX8_buyCheapest_77 rfl ?_
            refine xs_iload_2 eX8_buyCheapest_78 ?_
            exact xa_iret eX8_buyCheapest_79 rfl ⟨_, rfl, by have h9 := hq; unfold o_buyCheapest at h9; rw [if_pos c10, Int.toNat_natCast, eb] at h9; dsimp only at h9; rw [eo, Int.toNat_natCast] at h9; exact h9 _ _ M2 (fun _ => rfl) rfr.t (by rw [up_same]; rfl) hR2⟩
        · refine xs_aload_0 eX8_buyCheapest_35 ?_
          refine xs_iload_3 eX8_buyCheapest_36 ?_
          refine xs_iload_1 eX8_buyCheapest_37 ?_
          refine xbi_V20 (mi' := mX8_canBuy) (y := yX8_canBuy) eX8_buyCheapest_38 (xw_5 lRX8_213 wy_X8_canBuy) rfl ⟨wd_X8_canBuy, by decide, by decide⟩ (by decide) (fun _ => rfl) rfl (Nat.le_of_ble_eq_true rfl) rfl (r_X8_canBuy hV (by omega) hR (by omega) hqn ?_)
          refine xa_ifb_eq (tgt := 60) eX8_buyCheapest_41 (by decide) (fun c41 => ?_) (fun c41 => ?_)
          · refine xs_iinc_3 eX8_buyCheapest_60 rfl ?_
            refine xa_goto (tgt := 23) eX8_buyCheapest_63 (by decide) ?_
            have e : chpS 0 q9 C (i + 1) = some b := by rw [chpS, if_neg (show ¬ (C 10 (32 * 0 + i) 9 ≠ -1 ∧ C 10 (32 * 0 + i) 1 ≠ (q9 : Int) ∧ C 10 (32 * 0 + i) 9 ≤ C 4 (8 * 0 + q9) 0) from c41)]; exact hI
            have h9 := ih (i + 1) (by omega) (by omega)
            rw [e] at h9
            exact h9
          · refine xs_iload_2 eX8_buyCheapest_44 ?_
            refine xa_iconst eX8_buyCheapest_45 ?_
            refine xa_icmp_eq (tgt := 58) eX8_buyCheapest_46 (by decide) (by have z := chpS_lt hI; omega) (by decide) (fun c46 => ?_) (fun c46 => ?_)
            · exact absurd c46 (by omega)
            · refine xs_aload_0 eX8_buyCheapest_49 ?_
              refine xs_iload_3 eX8_buyCheapest_50 ?_
              refine xs_iload_2 eX8_buyCheapest_51 ?_
              refine xbi_V20 (mi' := mX8_isCheaper) (y := yX8_isCheaper) eX8_buyCheapest_52 (xw_5 lRX8_220 wy_X8_isCheaper) rfl ⟨wd_X8_isCheaper, by decide, by decide⟩ (by decide) (fun _ => rfl) rfl (Nat.le_of_ble_eq_true rfl) rfl (r_X8_isCheaper hV (by omega) hR (by omega) (by have z := chpS_lt hI; omega) ?_)
              refine xa_ifb_eq (tgt := 60) eX8_buyCheapest_55 (by decide) (fun c55 => ?_) (fun c55 => ?_)
              · refine xs_iinc_3 eX8_buyCheapest_60 rfl ?_
                refine xa_goto (tgt := 23) eX8_buyCheapest_63 (by decide) ?_
                have e : chpS 0 q9 C (i + 1) = some b := by rw [chpS, if_pos (show C 10 (32 * 0 + i) 9 ≠ -1 ∧ C 10 (32 * 0 + i) 1 ≠ (q9 : Int) ∧ C 10 (32 * 0 + i) 9 ≤ C 4 (8 * 0 + q9) 0 from c41), hI]; show (if _ then _ else _) = _; rw [if_neg c55]
                have h9 := ih (i + 1) (by omega) (by omega)
                rw [e] at h9
                exact h9
              · refine xs_iload_3 eX8_buyCheapest_58 ?_
                refine xs_istore_2 eX8_buyCheapest_59 rfl ?_
                refine xs_iinc_3 eX8_buyCheapest_60 rfl ?_
                refine xa_goto (tgt := 23) eX8_buyCheapest_63 (by decide) ?_
                have e : chpS 0 q9 C (i + 1) = some i := by rw [chpS, if_pos (show C 10 (32 * 0 + i) 9 ≠ -1 ∧ C 10 (32 * 0 + i) 1 ≠ (q9 : Int) ∧ C 10 (32 * 0 + i) 9 ≤ C 4 (8 * 0 + q9) 0 from c41), hI]; show (if _ then _ else _) = _; rw [if_pos c55]
                have h9 := ih (i + 1) (by omega) (by omega)
                rw [e] at h9
                exact h9
    refine xa_iconst eX8_buyCheapest_19 ?_
    refine xs_istore_2 eX8_buyCheapest_20 rfl ?_
    refine xa_iconst eX8_buyCheapest_21 ?_
    refine xs_istore_3 eX8_buyCheapest_22 rfl ?_
    exact lp 0 (by omega)
  · refine xs_aload_0 eX8_buyCheapest_13 ?_
    refine xa_iconst eX8_buyCheapest_14 ?_
    refine xbi_V10 (mi' := mX8_fail) (y := yX8_fail) eX8_buyCheapest_15 (xw_5 lRX8_89 wy_X8_fail) rfl ⟨wd_X8_fail, by decide, by decide⟩ (by decide) (fun _ => rfl) rfl (Nat.le_of_ble_eq_true rfl) rfl (k_X8_fail (by decide) ?_)
    rw [up_stO (by decide)]
    exact xa_iret eX8_buyCheapest_18 rfl ⟨_, rfl, by have h9 := hq; unfold o_buyCheapest at h9; rw [if_neg c10] at h9; exact h9 _ _ _ (fun z => absurd z (Nat.succ_ne_zero _)) (rfr.t.tr rfr.t) (by rw [up_same]; rfl) hR⟩
abbrev leaP (j q : Nat) (c : Int) (C : xS) : Prop := C 10 (32 * 0 + j) 0 = 0 ∧ C 10 (32 * 0 + j) 11 = 0 ∧ C 10 (32 * 0 + j) 1 ≠ (q : Int) ∧ c ≤ C 4 (8 * 0 + q) 0
def leaS (j q o : Nat) (k c : Int) (C : xS) : xS := up (up (up (up C 4 (8 * 0 + q) 0 (C 4 (8 * 0 + q) 0 - c)) 4 (8 * 0 + o) 0 (xmin 1000000 (C 4 (8 * 0 + o) 0 + c))) 10 (32 * 0 + j) 10 (q : Int)) 10 (32 * 0 + j) 11 k
def o_lease (j q k a : Int) (n N : Nat) (C : xS) : xO := if 0 ≤ j ∧ j < (N : Int) then (if 0 ≤ q ∧ q < (n : Int) then (if (1 ≤ k ∧ k ≤ 50) ∧ (0 ≤ a ∧ a ≤ 999) then (if leaP j.toNat q.toNat (k * a) C then (0, k * a, n, N, leaS j.toNat q.toNat (C 10 (32 * 0 + j.toNat) 1).toNat k (k * a) C) else (3, 0, n, N, C)) else (2, 0, n, N, C)) else (1, 0, n, N, C)) else (1, 0, n, N, C)
theorem mul_r {k a : Int} (hk : 1 ≤ k ∧ k ≤ 50) (ha : 0 ≤ a ∧ a ≤ 999) : 0 ≤ k * a ∧ k * a ≤ 49950 := by
  have h1 : 0 ≤ k * a := Int.mul_nonneg (by omega) ha.1
  have h2 : k * a ≤ k * 999 := Int.mul_le_mul_of_nonneg_left ha.2 (by omega)
  omega
set_option maxHeartbeats 400000 in
theorem F_lease {w : xW} {S : xS} {B : String → xS → Prop} {A : Int → xS → Prop} {j q k a : Int} {n N : Nat} {T : Int} (hV : VS 0 n N T S) (hT : T ≤ 800000) (yj : xr j) (yq : xr q) (yk : xr k) (ya : xr a)  (hA : ∀ S', (o_lease j q k a n N S).1 = 0 → scr S' (o_lease j q k a n N S).2.2.2.2 → A (o_lease j q k a n N S).2.1 S') (hB1 : ∀ S', (o_lease j q k a n N S).1 = 1 → scr S' S → B "java/lang/IndexOutOfBoundsException" S') (hB2 : ∀ S', (o_lease j q k a n N S).1 = 2 → scr S' S → B "java/lang/IllegalArgumentException" S') (hB3 : ∀ S', (o_lease j q k a n N S).1 = 3 → scr S' S → B "java/lang/IllegalStateException" S') : Ki w mX7_lease yX7_lease 1 6 [xp 0 0, xi j, xi q, xi k, xi a] S A B := by
  refine K.of rfl rfl rfl rfl (Nat.le_of_ble_eq_true rfl) rfl ?_
  obtain ⟨hVT, hN20, h8, hg, hp, ho, hs⟩ := id hV
  have hn := hg.1
  have hN := hVT.1
  have ht := hVT.2.2.1
  refine xs_aload_0 eX7_lease_0 ?_
  refine g_X7_0 eX7_lease_1 lRX7_10 ?_
  refine g_X4_0 eX7_lease_4 lRX7_88 ?_
  refine xs_iload_1 eX7_lease_7 ?_
  by_cases c8 : 0 ≤ j ∧ j < (N : Int)
  · refine xbo_V10 (mi' := mX5_knownPromise) (y := yX5_knownPromise) eX7_lease_8 (xw_5 lRX7_126 wy_X5_knownPromise) rfl ⟨wd_X5_knownPromise, by decide, by decide⟩ (by decide) (fun _ => rfl) rfl (Nat.le_of_ble_eq_true rfl) rfl (kI_X5_knownPromise hN (by omega) c8 ?_)
    refine xs_astore_5 eX7_lease_11 rfl ?_
    refine xs_aload_0 eX7_lease_13 ?_
    refine g_X7_0 eX7_lease_14 lRX7_10 ?_
    refine xs_iload_2 eX7_lease_17 ?_
    by_cases c18 : 0 ≤ q ∧ q < (n : Int)
    · refine xbo_V10 (mi' := mX4_knownProcess) (y := yX4_knownProcess) eX7_lease_18 (xw_5 lRX7_60 wy_X4_knownProcess) rfl ⟨wd_X4_knownProcess, by decide, by decide⟩ (by decide) (fun _ => rfl) rfl (Nat.le_of_ble_eq_true rfl) rfl (kI_X4_knownProcess hn h8 c18 ?_)
      have hTQ := hVT.2.2.2 j.toNat (by omega)
      unfold TQ at hTQ
      have hOQ := ho j.toNat (by omega)
      unfold OQ at hOQ
      obtain ⟨q9, rfl⟩ : ∃ q9 : Nat, q = (q9 : Int) := ⟨q.toNat, by omega⟩
      have hqn : q9 < n := by omega
      have hPq := hp q9 hqn
      unfold PQ at hPq
      rw [Int.toNat_natCast]
      refine xs_astore_6 eX7_lease_21 rfl ?_
      refine xs_iload_3 eX7_lease_23 ?_
      refine xa_iconst eX7_lease_24 ?_
      refine xa_bipush eX7_lease_25 (by decide) ?_
      by_cases c27 : 1 ≤ k ∧ k ≤ 50
      · refine xbv_S30 (mi' := mX7_checkRange) (y := yX7_checkRange) eX7_lease_27 (xw_4 lRX7_45 wy_X7_checkRange) rfl rfl ⟨wd_X7_checkRange, by decide, by decide⟩ (Nat.le_of_ble_eq_true rfl) rfl (kk_X7_checkRange yk (by decide) (by decide) c27 ?_)
        refine xs_iload_4 eX7_lease_30 ?_
        refine xa_iconst eX7_lease_32 ?_
        refine xa_sipush eX7_lease_33 (by decide) ?_
        by_cases c36 : 0 ≤ a ∧ a ≤ 999
        · refine xbv_S30 (mi' := mX7_checkRange) (y := yX7_checkRange) eX7_lease_36 (xw_4 lRX7_45 wy_X7_checkRange) rfl rfl ⟨wd_X7_checkRange, by decide, by decide⟩ (Nat.le_of_ble_eq_true rfl) rfl (kk_X7_checkRange ya (by decide) (by decide) c36 ?_)
          have hka := mul_r (k := k) (a := a) (by omega) (by omega)
          obtain ⟨o9, eo⟩ : ∃ o9 : Nat, S 10 (32 * 0 + j.toNat) 1 = (o9 : Int) := ⟨(S 10 (32 * 0 + j.toNat) 1).toNat, by omega⟩
          have hon : o9 < n := by omega
          have hPo := hp o9 hon
          unfold PQ at hPo
          refine xs_iload_3 eX7_lease_39 ?_
          refine xs_iload_4 eX7_lease_40 ?_
          refine xa_imul eX7_lease_42 ?_
          refine xs_istore_7 eX7_lease_43 rfl ?_
          refine xs_aload_5 eX7_lease_45 ?_
          refine gr_X1_0 eX7_lease_47 lRX7_130 (fun r47 => ?_)
          refine xa_if_ne (tgt := 84) eX7_lease_50 (by decide) (by omega) (fun c50 => ?_) (fun c50 => ?_)
          · refine xa_iconst eX7_lease_84 ?_
            exact xbv_S1 (mi' := mX7_checkState) (y := yX7_checkState) eX7_lease_85 (xw_4 lRX7_53 wy_X7_checkState) rfl rfl ⟨wd_X7_checkState, by decide, by decide⟩ (Nat.le_of_ble_eq_true rfl) rfl ⟨by decide, by decide⟩ (kt_X7_checkState (P := False) id (xt_out rfl (hB3 S (by unfold o_lease; rw [if_pos c8, if_pos c18, if_pos ⟨c27, c36⟩, Int.toNat_natCast, if_neg (fun z : leaP j.toNat q9 (k * a) S => by have z1 := z.1; have z2 := z.2.1; have z3 := z.2.2.1; have z4 := z.2.2.2; omega)]) scr.rf)))
          · refine xs_aload_5 eX7_lease_53 ?_
            refine gr_X1_11 eX7_lease_55 lRX7_187 (fun r55 => ?_)
            refine xa_if_ne (tgt := 84) eX7_lease_58 (by decide) (by omega) (fun c58 => ?_) (fun c58 => ?_)
            · refine xa_iconst eX7_lease_84 ?_
              exact xbv_S1 (mi' := mX7_checkState) (y := yX7_checkState) eX7_lease_85 (xw_4 lRX7_53 wy_X7_checkState) rfl rfl ⟨wd_X7_checkState, by decide, by decide⟩ (Nat.le_of_ble_eq_true rfl) rfl ⟨by decide, by decide⟩ (kt_X7_checkState (P := False) id (xt_out rfl (hB3 S (by unfold o_lease; rw [if_pos c8, if_pos c18, if_pos ⟨c27, c36⟩, Int.toNat_natCast, if_neg (fun z : leaP j.toNat q9 (k * a) S => by have z1 := z.1; have z2 := z.2.1; have z3 := z.2.2.1; have z4 := z.2.2.2; omega)]) scr.rf)))
            · refine xs_aload_5 eX7_lease_61 ?_
              refine gr_X1_1 eX7_lease_63 lRX7_178 (fun r63 => ?_)
              refine xs_iload_2 eX7_lease_66 ?_
              refine xa_icmp_eq (tgt := 84) eX7_lease_67 (by decide) (by omega) (by omega) (fun c67 => ?_) (fun c67 => ?_)
              · refine xa_iconst eX7_lease_84 ?_
                exact xbv_S1 (mi' := mX7_checkState) (y := yX7_checkState) eX7_lease_85 (xw_4 lRX7_53 wy_X7_checkState) rfl rfl ⟨wd_X7_checkState, by decide, by decide⟩ (Nat.le_of_ble_eq_true rfl) rfl ⟨by decide, by decide⟩ (kt_X7_checkState (P := False) id (xt_out rfl (hB3 S (by unfold o_lease; rw [if_pos c8, if_pos c18, if_pos ⟨c27, c36⟩, Int.toNat_natCast, if_neg (fun z : leaP j.toNat q9 (k * a) S => by have z1 := z.1; have z2 := z.2.1; have z3 := z.2.2.1; have z4 := z.2.2.2; omega)]) scr.rf)))
              · refine xs_aload_6 eX7_lease_70 ?_
                refine gr_X0_0 eX7_lease_72 lRX7_85 (fun r72 => ?_)
                refine xs_iload_7 eX7_lease_75 ?_
                refine xa_icmp_lt (tgt := 84) eX7_lease_77 (by decide) (by omega) (by omega) (fun c77 => ?_) (fun c77 => ?_)
                · refine xa_iconst eX7_lease_84 ?_
                  exact xbv_S1 (mi' := mX7_checkState) (y := yX7_checkState) eX7_lease_85 (xw_4 lRX7_53 wy_X7_checkState) rfl rfl ⟨wd_X7_checkState, by decide, by decide⟩ (Nat.le_of_ble_eq_true rfl) rfl ⟨by decide, by decide⟩ (kt_X7_checkState (P := False) id (xt_out rfl (hB3 S (by unfold o_lease; rw [if_pos c8, if_pos c18, if_pos ⟨c27, c36⟩, Int.toNat_natCast, if_neg (fun z : leaP j.toNat q9 (k * a) S => by have z1 := z.1; have z2 := z.2.1; have z3 := z.2.2.1; have z4 := z.2.2.2; omega)]) scr.rf)))
                · have hoq : o9 ≠ q9 := fun z => by omega
                  have hne1 : (o9 = q9) = False := eq_false hoq
                  have hne2 : (q9 = o9) = False := eq_false (Ne.symm hoq)
                  refine xa_iconst eX7_lease_80 ?_
                  refine xa_goto (tgt := 85) eX7_lease_81 (by decide) ?_
                  refine xbv_S10 (mi' := mX7_checkState) (y := yX7_checkState) eX7_lease_85 (xw_4 lRX7_53 wy_X7_checkState) rfl rfl ⟨wd_X7_checkState, by decide, by decide⟩ (Nat.le_of_ble_eq_true rfl) rfl (kk_X7_checkState (P := True) trivial ?_)
                  refine xs_aload_6 eX7_lease_88 ?_
                  refine xa_dup eX7_lease_90 rfl ?_
                  refine gr_X0_0 eX7_lease_91 lRX7_85 (fun r91 => ?_)
                  try simp (decide := true) only [up_app, eo, hne1, hne2, if_true, if_false, and_true, true_and, and_false, false_and, Nat.add_left_cancel_iff, Int.toNat_natCast] at r91 ⊢
                  refine xs_iload_7 eX7_lease_94 ?_
                  refine xa_isub eX7_lease_96 ?_
                  refine p_X0_0 eX7_lease_97 lRX7_85 (by omega) ?_
                  refine xs_aload_0 eX7_lease_100 ?_
                  refine g_X7_0 eX7_lease_101 lRX7_10 ?_
                  refine xs_aload_5 eX7_lease_104 ?_
                  refine gr_X1_1 eX7_lease_106 lRX7_178 (fun r106 => ?_)
                  try simp (decide := true) only [up_app, eo, hne1, hne2, if_true, if_false, and_true, true_and, and_false, false_and, Nat.add_left_cancel_iff, Int.toNat_natCast] at r106 ⊢
                  refine xbo_V10 (mi' := mX4_knownProcess) (y := yX4_knownProcess) eX7_lease_109 (xw_5 lRX7_60 wy_X4_knownProcess) rfl ⟨wd_X4_knownProcess, by decide, by decide⟩ (by decide) (fun _ => rfl) rfl (Nat.le_of_ble_eq_true rfl) rfl (kI_X4_knownProcess (n := n) (by exact hn) h8 (by omega) ?_)
                  rw [Int.toNat_natCast]
                  refine xs_iload_7 eX7_lease_112 ?_
                  refine xbv_V10 (mi' := mX0_earn) (y := yX0_earn) eX7_lease_114 (xw_5 lRX7_82 wy_X0_earn) rfl ⟨wd_X0_earn, by decide, by decide⟩ (by decide) (fun _ => rfl) rfl (Nat.le_of_ble_eq_true rfl) rfl (k_X0_earn (by simp (decide := true) only [up_app, hne1, hne2, if_true, if_false, and_true, true_and, and_false, false_and, Nat.add_left_cancel_iff, Int.toNat_natCast]; omega) ?_)
                  rw [show up S 4 (8 * 0 + q9) 0 (S 4 (8 * 0 + q9) 0 - k * a) 4 (8 * 0 + o9) 0 = S 4 (8 * 0 + o9) 0 by simp (decide := true) only [up_app, hne1, hne2, if_true, if_false, and_true, true_and, and_false, false_and, Nat.add_left_cancel_iff, Int.toNat_natCast]]
                  refine xs_aload_5 eX7_lease_117 ?_
                  refine xs_iload_2 eX7_lease_119 ?_
                  refine p_X1_10 eX7_lease_120 lRX7_190 (by omega) ?_
                  refine xs_aload_5 eX7_lease_123 ?_
                  refine xs_iload_3 eX7_lease_125 ?_
                  refine p_X1_11 eX7_lease_126 lRX7_187 (by omega) ?_
                  refine xs_iload_7 eX7_lease_129 ?_
                  exact xa_iret eX7_lease_131 rfl ⟨_, rfl, by have h9 := hA; unfold o_lease at h9; rw [if_pos c8, if_pos c18, if_pos ⟨c27, c36⟩, Int.toNat_natCast, if_pos (show leaP j.toNat q9 (k * a) S from ⟨by omega, by omega, by omega, by show k * a ≤ S 4 (8 * 0 + q9) 0; omega⟩), eo, Int.toNat_natCast] at h9; exact h9 _ rfl scr.rf⟩
        · exact xbv_S3 (mi' := mX7_checkRange) (y := yX7_checkRange) eX7_lease_36 (xw_4 lRX7_45 wy_X7_checkRange) rfl rfl ⟨wd_X7_checkRange, by decide, by decide⟩ (Nat.le_of_ble_eq_true rfl) rfl ⟨by decide, by decide⟩ (kt_X7_checkRange ya (by decide) (by decide) c36 (xt_out rfl (hB2 S (by unfold o_lease; rw [if_pos c8, if_pos c18, if_neg (by omega)]) scr.rf)))
      · exact xbv_S3 (mi' := mX7_checkRange) (y := yX7_checkRange) eX7_lease_27 (xw_4 lRX7_45 wy_X7_checkRange) rfl rfl ⟨wd_X7_checkRange, by decide, by decide⟩ (Nat.le_of_ble_eq_true rfl) rfl ⟨by decide, by decide⟩ (kt_X7_checkRange yk (by decide) (by decide) c27 (xt_out rfl (hB2 S (by unfold o_lease; rw [if_pos c8, if_pos c18, if_neg (by omega)]) scr.rf)))
    · exact xbo_V1 (mi' := mX4_knownProcess) (y := yX4_knownProcess) eX7_lease_18 (xw_5 lRX7_60 wy_X4_knownProcess) rfl ⟨wd_X4_knownProcess, by decide, by decide⟩ (by decide) (fun _ => rfl) rfl (Nat.le_of_ble_eq_true rfl) rfl ⟨by decide, by decide⟩ (kt_X4_knownProcess hn h8 yq c18 (xt_out rfl (hB1 S (by unfold o_lease; rw [if_pos c8, if_neg c18]) scr.rf)))
  · exact xbo_V1 (mi' := mX5_knownPromise) (y := yX5_knownPromise) eX7_lease_8 (xw_5 lRX7_126 wy_X5_knownPromise) rfl ⟨wd_X5_knownPromise, by decide, by decide⟩ (by decide) (fun _ => rfl) rfl (Nat.le_of_ble_eq_true rfl) rfl ⟨by decide, by decide⟩ (kt_X5_knownPromise hN (by omega) yj c8 (xt_out rfl (hB1 S (by unfold o_lease; rw [if_neg c8]) scr.rf)))
set_option maxHeartbeats 400000 in
theorem G_lease {w : xW} {S : xS} {B : String → xS → Prop} {A : Int → xS → Prop} {j q k a : Int} {n N : Nat} {T : Int} {C : xS} {M : Nat → Int} (hV : VS 0 n N T C) (hT : T ≤ 800000) (hR : Rel 0 n N C M) (yj : xr j) (yq : xr q) (yk : xr k) (ya : xr a)  (hq : ∀ r S' M', ((o_lease j q k a n N C).1 = 0 → r = (o_lease j q k a n N C).2.1) → rfr S' S → S' 30 0 4 = ((o_lease j q k a n N C).1 : Int) → Rel 0 (o_lease j q k a n N C).2.2.1 (o_lease j q k a n N C).2.2.2.1 (o_lease j q k a n N C).2.2.2.2 M' → A r (stM M' S')) : Ki w mX8_lease yX8_lease 0 0 [xp 30 0, xi j, xi q, xi k, xi a] (stM M S) A B := by
  refine K.of rfl rfl rfl rfl (Nat.le_of_ble_eq_true rfl) rfl ?_
  obtain ⟨hVT, hN20, h8, hg, hp, ho, hs⟩ := id hV
  have hn := hg.1
  have hN := hVT.1
  have ht := hVT.2.2.1
  have hM1 : M 1 = (n : Int) := by rw [hR.1 1 (by decide)]; exact hn
  have hM2 : M 2 = (N : Int) := by rw [hR.1 2 (by decide)]; exact hN
  refine xs_aload_0 eX8_lease_0 ?_
  refine xa_iconst eX8_lease_1 ?_
  refine p_X8_4 eX8_lease_2 lRX8_52 (by decide) ?_
  rw [up_stO (by decide)]
  refine xs_aload_0 eX8_lease_5 ?_
  refine xs_iload_1 eX8_lease_6 ?_
  refine xbi_V10 (mi' := mX8_isPromise) (y := yX8_isPromise) eX8_lease_7 (xw_5 lRX8_187 wy_X8_isPromise) rfl ⟨wd_X8_isPromise, by decide, by decide⟩ (by decide) (fun _ => rfl) rfl (Nat.le_of_ble_eq_true rfl) rfl (r_X8_isPromise hV hR yj ?_)
  refine xa_ifb_eq (tgt := 21) eX8_lease_10 (by decide) (fun c10 => ?_) (fun c10 => ?_)
  · refine xs_aload_0 eX8_lease_21 ?_
    refine xa_iconst eX8_lease_22 ?_
    refine xbi_V10 (mi' := mX8_fail) (y := yX8_fail) eX8_lease_23 (xw_5 lRX8_89 wy_X8_fail) rfl ⟨wd_X8_fail, by decide, by decide⟩ (by decide) (fun _ => rfl) rfl (Nat.le_of_ble_eq_true rfl) rfl (k_X8_fail (by decide) ?_)
    rw [up_stO (by decide)]
    exact xa_iret eX8_lease_26 rfl ⟨_, rfl, by first | (have h9 := hq; unfold o_lease at h9; rw [if_neg c10] at h9; exact h9 _ _ _ (fun z => absurd z (Nat.succ_ne_zero _)) (rfr.t.tr rfr.t) (by rw [up_same]; rfl) hR) | (have h9 := hq; unfold o_lease at h9; rw [if_pos c10, if_neg c18] at h9; exact h9 _ _ _ (fun z => absurd z (Nat.succ_ne_zero _)) (rfr.t.tr rfr.t) (by rw [up_same]; rfl) hR)⟩
  · refine xs_aload_0 eX8_lease_13 ?_
    refine xs_iload_2 eX8_lease_14 ?_
    refine xbi_V10 (mi' := mX8_isProcess) (y := yX8_isProcess) eX8_lease_15 (xw_5 lRX8_98 wy_X8_isProcess) rfl ⟨wd_X8_isProcess, by decide, by decide⟩ (by decide) (fun _ => rfl) rfl (Nat.le_of_ble_eq_true rfl) rfl (r_X8_isProcess hV hR yq ?_)
    refine xa_ifb_ne (tgt := 27) eX8_lease_18 (by decide) (fun c18 => ?_) (fun c18 => ?_)
    · refine xs_iload_3 eX8_lease_27 ?_
      refine xa_i2l eX8_lease_28 (by omega) ?_
      refine xa_lconst1 eX8_lease_29 ?_
      refine xa_ldc2 (a := 50) eX8_lease_30 lRX8_223 (by decide) ?_
      refine xbi_S30 (mi' := mX8_isBetween) (y := yX8_isBetween) eX8_lease_33 (xw_4 lRX8_61 wy_X8_isBetween) rfl rfl ⟨wd_X8_isBetween, by decide, by decide⟩ (Nat.le_of_ble_eq_true rfl) rfl (k_X8_isBetween (by omega) (by decide) (by decide) ?_)
      refine xa_ifb_eq (tgt := 52) eX8_lease_36 (by decide) (fun c36 => ?_) (fun c36 => ?_)
      · refine xs_aload_0 eX8_lease_52 ?_
        refine xa_iconst eX8_lease_53 ?_
        refine xbi_V10 (mi' := mX8_fail) (y := yX8_fail) eX8_lease_54 (xw_5 lRX8_89 wy_X8_fail) rfl ⟨wd_X8_fail, by decide, by decide⟩ (by decide) (fun _ => rfl) rfl (Nat.le_of_ble_eq_true rfl) rfl (k_X8_fail (by decide) ?_)
        rw [up_stO (by decide)]
        exact xa_iret eX8_lease_57 rfl ⟨_, rfl, by have h9 := hq; unfold o_lease at h9; rw [if_pos c10, if_pos c18, if_neg (show ¬ ((1 ≤ k ∧ k ≤ 50) ∧ (0 ≤ a ∧ a ≤ 999)) by omega)] at h9; exact h9 _ _ _ (fun z => absurd z (Nat.succ_ne_zero _)) (rfr.t.tr rfr.t) (by rw [up_same]; rfl) hR⟩
      · refine xs_iload_4 eX8_lease_39 ?_
        refine xa_i2l eX8_lease_41 (by omega) ?_
        refine xa_lconst0 eX8_lease_42 ?_
        refine xa_ldc2 (a := 999) eX8_lease_43 lRX8_225 (by decide) ?_
        refine xbi_S30 (mi' := mX8_isBetween) (y := yX8_isBetween) eX8_lease_46 (xw_4 lRX8_61 wy_X8_isBetween) rfl rfl ⟨wd_X8_isBetween, by decide, by decide⟩ (Nat.le_of_ble_eq_true rfl) rfl (k_X8_isBetween (by omega) (by decide) (by decide) ?_)
        refine xa_ifb_ne (tgt := 58) eX8_lease_49 (by decide) (fun c49 => ?_) (fun c49 => ?_)
        · obtain ⟨j9, rfl⟩ : ∃ j9 : Nat, j = (j9 : Int) := ⟨j.toNat, by omega⟩
          have hTQ := hVT.2.2.2 j9 (by omega)
          unfold TQ at hTQ
          have hOQ := ho j9 (by omega)
          unfold OQ at hOQ
          obtain ⟨q9, rfl⟩ : ∃ q9 : Nat, q = (q9 : Int) := ⟨q.toNat, by omega⟩
          have hqn : q9 < n := by omega
          have hPq := hp q9 hqn
          unfold PQ at hPq
          have hka := mul_r (k := k) (a := a) (by omega) (by omega)
          obtain ⟨o9, eo⟩ : ∃ o9 : Nat, C 10 (32 * 0 + j9) 1 = (o9 : Int) := ⟨(C 10 (32 * 0 + j9) 1).toNat, by omega⟩
          have hon : o9 < n := by omega
          have hPo := hp o9 hon
          unfold PQ at hPo
          have hna : -k * a = -(k * a) := Int.neg_mul k a
          refine xs_aload_0 eX8_lease_58 ?_
          refine xs_iload_1 eX8_lease_59 ?_
          refine xa_iconst eX8_lease_60 ?_
          refine xbi_V20 (mi' := mX8_told0) (y := yX8_told0) eX8_lease_61 (xw_5 lRX8_122 wy_X8_told0) rfl ⟨wd_X8_told0, by decide, by decide⟩ (by decide) (fun _ => rfl) rfl (Nat.le_of_ble_eq_true rfl) rfl (r_X8_told0 (j := j9) (g := 1) hR rfl rfl (by omega) hN20 (by decide) (by decide) (by decide) (by decide) ?_)
          refine xs_istore_5 eX8_lease_64 rfl ?_
          refine xs_aload_0 eX8_lease_66 ?_
          refine xs_iload_1 eX8_lease_67 ?_
          refine xbi_V10 (mi' := mX8_hasEnded) (y := yX8_hasEnded) eX8_lease_68 (xw_5 lRX8_119 wy_X8_hasEnded) rfl ⟨wd_X8_hasEnded, by decide, by decide⟩ (by decide) (fun _ => rfl) rfl (Nat.le_of_ble_eq_true rfl) rfl (r_X8_hasEnded (j := j9) hV hR rfl (by omega) ?_)
          refine xa_ifb_ne (tgt := 104) eX8_lease_71 (by decide) (fun c71 => ?_) (fun c71 => ?_)
          · refine xs_aload_0 eX8_lease_104 ?_
            refine xa_iconst eX8_lease_105 ?_
            refine xbi_V10 (mi' := mX8_fail) (y := yX8_fail) eX8_lease_106 (xw_5 lRX8_89 wy_X8_fail) rfl ⟨wd_X8_fail, by decide, by decide⟩ (by decide) (fun _ => rfl) rfl (Nat.le_of_ble_eq_true rfl) rfl (k_X8_fail (by decide) ?_)
            rw [up_stO (by decide)]
            exact xa_iret eX8_lease_109 rfl ⟨_, rfl, by have h9 := hq; unfold o_lease at h9; rw [if_pos c10, if_pos c18, if_pos (show (1 ≤ k ∧ k ≤ 50) ∧ (0 ≤ a ∧ a ≤ 999) by omega), Int.toNat_natCast, Int.toNat_natCast, if_neg (fun z : leaP j9 q9 (k * a) C => by have z1 := z.1; have z2 := z.2.1; have z3 := z.2.2.1; have z4 := z.2.2.2; omega)] at h9; exact h9 _ _ _ (fun z => absurd z (Nat.succ_ne_zero _)) (rfr.t.tr rfr.t) (by rw [up_same]; rfl) hR⟩
          · refine xs_aload_0 eX8_lease_74 ?_
            refine xs_iload_1 eX8_lease_75 ?_
            refine xa_bipush eX8_lease_76 (by decide) ?_
            refine xbi_V20 (mi' := mX8_told0) (y := yX8_told0) eX8_lease_78 (xw_5 lRX8_122 wy_X8_told0) rfl ⟨wd_X8_told0, by decide, by decide⟩ (by decide) (fun _ => rfl) rfl (Nat.le_of_ble_eq_true rfl) rfl (r_X8_told0 (j := j9) (g := 10) hR rfl rfl (by omega) hN20 (by decide) (by decide) (by decide) (by decide) ?_)
            refine xa_iconst eX8_lease_81 ?_
            refine xa_icmp_ne (tgt := 104) eX8_lease_82 (by decide) (by omega) (by decide) (fun c82 => ?_) (fun c82 => ?_)
            · refine xs_aload_0 eX8_lease_104 ?_
              refine xa_iconst eX8_lease_105 ?_
              refine xbi_V10 (mi' := mX8_fail) (y := yX8_fail) eX8_lease_106 (xw_5 lRX8_89 wy_X8_fail) rfl ⟨wd_X8_fail, by decide, by decide⟩ (by decide) (fun _ => rfl) rfl (Nat.le_of_ble_eq_true rfl) rfl (k_X8_fail (by decide) ?_)
              rw [up_stO (by decide)]
              exact xa_iret eX8_lease_109 rfl ⟨_, rfl, by have h9 := hq; unfold o_lease at h9; rw [if_pos c10, if_pos c18, if_pos (show (1 ≤ k ∧ k ≤ 50) ∧ (0 ≤ a ∧ a ≤ 999) by omega), Int.toNat_natCast, Int.toNat_natCast, if_neg (fun z : leaP j9 q9 (k * a) C => by have z1 := z.1; have z2 := z.2.1; have z3 := z.2.2.1; have z4 := z.2.2.2; omega)] at h9; exact h9 _ _ _ (fun z => absurd z (Nat.succ_ne_zero _)) (rfr.t.tr rfr.t) (by rw [up_same]; rfl) hR⟩
            · refine xs_iload_2 eX8_lease_85 ?_
              refine xs_iload_5 eX8_lease_86 ?_
              refine xa_icmp_eq (tgt := 104) eX8_lease_88 (by decide) (by omega) (by omega) (fun c88 => ?_) (fun c88 => ?_)
              · refine xs_aload_0 eX8_lease_104 ?_
                refine xa_iconst eX8_lease_105 ?_
                refine xbi_V10 (mi' := mX8_fail) (y := yX8_fail) eX8_lease_106 (xw_5 lRX8_89 wy_X8_fail) rfl ⟨wd_X8_fail, by decide, by decide⟩ (by decide) (fun _ => rfl) rfl (Nat.le_of_ble_eq_true rfl) rfl (k_X8_fail (by decide) ?_)
                rw [up_stO (by decide)]
                exact xa_iret eX8_lease_109 rfl ⟨_, rfl, by have h9 := hq; unfold o_lease at h9; rw [if_pos c10, if_pos c18, if_pos (show (1 ≤ k ∧ k ≤ 50) ∧ (0 ≤ a ∧ a ≤ 999) by omega), Int.toNat_natCast, Int.toNat_natCast, if_neg (fun z : leaP j9 q9 (k * a) C => by have z1 := z.1; have z2 := z.2.1; have z3 := z.2.2.1; have z4 := z.2.2.2; omega)] at h9; exact h9 _ _ _ (fun z => absurd z (Nat.succ_ne_zero _)) (rfr.t.tr rfr.t) (by rw [up_same]; rfl) hR⟩
              · refine xs_aload_0 eX8_lease_91 ?_
                refine xs_iload_2 eX8_lease_92 ?_
                refine xa_iconst eX8_lease_93 ?_
                refine xbi_V20 (mi' := mX8_of) (y := yX8_of) eX8_lease_94 (xw_5 lRX8_70 wy_X8_of) rfl ⟨wd_X8_of, by decide, by decide⟩ (by decide) (fun _ => rfl) rfl (Nat.le_of_ble_eq_true rfl) rfl (r_X8_of (p := q9) (g := 0) hR rfl rfl hqn h8 (by decide) ?_)
                refine xs_iload_3 eX8_lease_97 ?_
                refine xs_iload_4 eX8_lease_98 ?_
                refine xa_imul eX8_lease_100 ?_
                refine xa_icmp_ge (tgt := 110) eX8_lease_101 (by decide) (by omega) (by omega) (fun c101 => ?_) (fun c101 => ?_)
                · have hoq : o9 ≠ q9 := fun z => by omega
                  have hne1 : (o9 = q9) = False := eq_false hoq
                  have hne2 : (q9 = o9) = False := eq_false (Ne.symm hoq)
                  refine xs_aload_0 eX8_lease_110 ?_
                  refine xs_iload_2 eX8_lease_111 ?_
                  refine xa_iconst eX8_lease_112 ?_
                  refine xs_iload_3 eX8_lease_113 ?_
                  refine xa_ineg eX8_lease_114 ?_
                  refine xs_iload_4 eX8_lease_115 ?_
                  refine xa_imul eX8_lease_117 ?_
                  refine xbv_V30 (mi' := mX8_add) (y := yX8_add) eX8_lease_118 (xw_5 lRX8_210 wy_X8_add) rfl ⟨wd_X8_add, by decide, by decide⟩ (by decide) (fun _ => rfl) rfl (Nat.le_of_ble_eq_true rfl) rfl (r_X8_add (p := q9) (g := 0) hR rfl rfl hqn h8 hN20 (by decide) (by omega) (by omega) (fun M1 hR1 => ?_))
                  have hR1 : Rel 0 n N (up C 4 (8 * 0 + q9) 0 (C 4 (8 * 0 + q9) 0 - k * a)) M1 := by have z := hR1; rw [hna, ← Int.sub_eq_add_neg] at z; exact z
                  refine xs_aload_0 eX8_lease_121 ?_
                  refine xs_iload_5 eX8_lease_122 ?_
                  refine xs_iload_3 eX8_lease_124 ?_
                  refine xs_iload_4 eX8_lease_125 ?_
                  refine xa_imul eX8_lease_127 ?_
                  refine xbv_V20 (mi' := mX8_earn) (y := yX8_earn) eX8_lease_128 (xw_5 lRX8_116 wy_X8_earn) rfl ⟨wd_X8_earn, by decide, by decide⟩ (by decide) (fun _ => rfl) rfl (Nat.le_of_ble_eq_true rfl) rfl (r_X8_earn (p := o9) hR1 eo hon h8 hN20 (by simp (decide := true) only [up_app, hne1, hne2, if_true, if_false, and_true, true_and, and_false, false_and, Nat.add_left_cancel_iff, Int.toNat_natCast]; omega) (fun M2 hR2 => ?_))
                  have hR2 : Rel 0 n N (up (up C 4 (8 * 0 + q9) 0 (C 4 (8 * 0 + q9) 0 - k * a)) 4 (8 * 0 + o9) 0 (xmin 1000000 (C 4 (8 * 0 + o9) 0 + k * a))) M2 := by have z := hR2; rw [show up C 4 (8 * 0 + q9) 0 (C 4 (8 * 0 + q9) 0 - k * a) 4 (8 * 0 + o9) 0 = C 4 (8 * 0 + o9) 0 by simp (decide := true) only [up_app, hne1, hne2, if_true, if_false, and_true, true_and, and_false, false_and, Nat.add_left_cancel_iff, Int.toNat_natCast]] at z; exact z
                  refine xs_aload_0 eX8_lease_131 ?_
                  refine xs_iload_1 eX8_lease_132 ?_
                  refine xa_bipush eX8_lease_133 (by decide) ?_
                  refine xs_iload_2 eX8_lease_135 ?_
                  refine xbv_V30 (mi' := mX8_keep) (y := yX8_keep) eX8_lease_136 (xw_5 lRX8_137 wy_X8_keep) rfl ⟨wd_X8_keep, by decide, by decide⟩ (by decide) (fun _ => rfl) rfl (Nat.le_of_ble_eq_true rfl) rfl (r_X8_keep (j := j9) (g := 10) hR2 rfl rfl (by omega) hN20 (by decide) (by decide) (by decide) (by decide) (by omega) (fun M3 hR3 => ?_))
                  refine xs_aload_0 eX8_lease_139 ?_
                  refine xs_iload_1 eX8_lease_140 ?_
                  refine xa_bipush eX8_lease_141 (by decide) ?_
                  refine xs_iload_3 eX8_lease_143 ?_
                  refine xbv_V30 (mi' := mX8_keep) (y := yX8_keep) eX8_lease_144 (xw_5 lRX8_137 wy_X8_keep) rfl ⟨wd_X8_keep, by decide, by decide⟩ (by decide) (fun _ => rfl) rfl (Nat.le_of_ble_eq_true rfl) rfl (r_X8_keep (j := j9) (g := 11) hR3 rfl rfl (by omega) hN20 (by decide) (by decide) (by decide) (by decide) (by omega) (fun M4 hR4 => ?_))
                  refine xs_iload_3 eX8_lease_147 ?_
                  refine xs_iload_4 eX8_lease_148 ?_
                  refine xa_imul eX8_lease_150 ?_
                  exact xa_iret eX8_lease_151 rfl ⟨_, rfl, by have h9 := hq; unfold o_lease at h9; rw [if_pos c10, if_pos c18, if_pos (show (1 ≤ k ∧ k ≤ 50) ∧ (0 ≤ a ∧ a ≤ 999) by omega), Int.toNat_natCast, Int.toNat_natCast, if_pos (show leaP j9 q9 (k * a) C from ⟨by show C 10 (32 * 0 + j9) 0 = 0; omega, by show C 10 (32 * 0 + j9) 11 = 0; omega, by show C 10 (32 * 0 + j9) 1 ≠ (q9 : Int); omega, by show k * a ≤ C 4 (8 * 0 + q9) 0; omega⟩), eo, Int.toNat_natCast] at h9; exact h9 _ _ M4 (fun _ => rfl) rfr.t (by rw [up_same]; rfl) hR4⟩
                · refine xs_aload_0 eX8_lease_104 ?_
                  refine xa_iconst eX8_lease_105 ?_
                  refine xbi_V10 (mi' := mX8_fail) (y := yX8_fail) eX8_lease_106 (xw_5 lRX8_89 wy_X8_fail) rfl ⟨wd_X8_fail, by decide, by decide⟩ (by decide) (fun _ => rfl) rfl (Nat.le_of_ble_eq_true rfl) rfl (k_X8_fail (by decide) ?_)
                  rw [up_stO (by decide)]
                  exact xa_iret eX8_lease_109 rfl ⟨_, rfl, by have h9 := hq; unfold o_lease at h9; rw [if_pos c10, if_pos c18, if_pos (show (1 ≤ k ∧ k ≤ 50) ∧ (0 ≤ a ∧ a ≤ 999) by omega), Int.toNat_natCast, Int.toNat_natCast, if_neg (fun z : leaP j9 q9 (k * a) C => by have z1 := z.1; have z2 := z.2.1; have z3 := z.2.2.1; have z4 := z.2.2.2; omega)] at h9; exact h9 _ _ _ (fun z => absurd z (Nat.succ_ne_zero _)) (rfr.t.tr rfr.t) (by rw [up_same]; rfl) hR⟩
        · refine xs_aload_0 eX8_lease_52 ?_
          refine xa_iconst eX8_lease_53 ?_
          refine xbi_V10 (mi' := mX8_fail) (y := yX8_fail) eX8_lease_54 (xw_5 lRX8_89 wy_X8_fail) rfl ⟨wd_X8_fail, by decide, by decide⟩ (by decide) (fun _ => rfl) rfl (Nat.le_of_ble_eq_true rfl) rfl (k_X8_fail (by decide) ?_)
          rw [up_stO (by decide)]
          exact xa_iret eX8_lease_57 rfl ⟨_, rfl, by have h9 := hq; unfold o_lease at h9; rw [if_pos c10, if_pos c18, if_neg (show ¬ ((1 ≤ k ∧ k ≤ 50) ∧ (0 ≤ a ∧ a ≤ 999)) by omega)] at h9; exact h9 _ _ _ (fun z => absurd z (Nat.succ_ne_zero _)) (rfr.t.tr rfr.t) (by rw [up_same]; rfl) hR⟩
    · refine xs_aload_0 eX8_lease_21 ?_
      refine xa_iconst eX8_lease_22 ?_
      refine xbi_V10 (mi' := mX8_fail) (y := yX8_fail) eX8_lease_23 (xw_5 lRX8_89 wy_X8_fail) rfl ⟨wd_X8_fail, by decide, by decide⟩ (by decide) (fun _ => rfl) rfl (Nat.le_of_ble_eq_true rfl) rfl (k_X8_fail (by decide) ?_)
      rw [up_stO (by decide)]
      exact xa_iret eX8_lease_26 rfl ⟨_, rfl, by first | (have h9 := hq; unfold o_lease at h9; rw [if_neg c10] at h9; exact h9 _ _ _ (fun z => absurd z (Nat.succ_ne_zero _)) (rfr.t.tr rfr.t) (by rw [up_same]; rfl) hR) | (have h9 := hq; unfold o_lease at h9; rw [if_pos c10, if_neg c18] at h9; exact h9 _ _ _ (fun z => absurd z (Nat.succ_ne_zero _)) (rfr.t.tr rfr.t) (by rw [up_same]; rfl) hR)⟩
