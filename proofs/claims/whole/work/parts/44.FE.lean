/-! rules, figures, asking prices -/
def o_setRules (p f : Int) (n N : Nat) (C : xS) : xO := if 0 ≤ p ∧ p ≤ 99 then (if 0 ≤ f ∧ f ≤ 50 then (0, 0, n, N, up (up C 1 0 4 p) 1 0 5 f) else (1, 0, n, N, C)) else (1, 0, n, N, C)
def o_count (a : Int) (n N : Nat) (C : xS) : xO := if 0 ≤ a ∧ a ≤ 12 then (0, figS 0 N C a.toNat, n, N, C) else (1, 0, n, N, C)
def o_bank (n N : Nat) (C : xS) : xO := (0, C 1 0 6, n, N, C)
def o_sales (p q : Int) (n N : Nat) (C : xS) : xO := if 0 ≤ p ∧ p < (n : Int) then (if 0 ≤ q ∧ q < (n : Int) then (0, C 25 0 (8 * p.toNat + q.toNat), n, N, C) else (1, 0, n, N, C)) else (1, 0, n, N, C)
def parS (i : Nat) (C : xS) : Int := sm (fun j => if 0 < C 25 0 j then 1 else 0) i
def o_partners (n N : Nat) (C : xS) : xO := (0, parS 64 C, n, N, C)
def o_ask (j a : Int) (n N : Nat) (C : xS) : xO := if 0 ≤ j ∧ j < (N : Int) then (if -1 ≤ a ∧ a ≤ 99999 then (if C 10 (32 * 0 + j.toNat) 0 = 0 then (0, C 10 (32 * 0 + j.toNat) 9, n, N, up C 10 (32 * 0 + j.toNat) 9 a) else (3, 0, n, N, C)) else (2, 0, n, N, C)) else (1, 0, n, N, C)
set_option maxHeartbeats 400000 in
theorem F_setRules {w : xW} {S : xS} {B : String → xS → Prop} {A : xS → Prop} {p f : Int} {n N : Nat} {T : Int} (hV : VS 0 n N T S) (hT : T ≤ 800000) (yp : xr p) (yf : xr f)  (hA : ∀ S', (o_setRules p f n N S).1 = 0 → scr S' (o_setRules p f n N S).2.2.2.2 → A S') (hB1 : ∀ S', (o_setRules p f n N S).1 = 1 → scr S' S → B "java/lang/IllegalArgumentException" S') : Kv w mX7_setRules yX7_setRules 1 6 [xp 0 0, xi p, xi f] S A B := by
  refine K.of rfl rfl rfl rfl (Nat.le_of_ble_eq_true rfl) rfl ?_
  obtain ⟨hVT, hN20, h8, hg, hp, ho, hs⟩ := id hV
  have hn := hg.1
  have hN := hVT.1
  have ht := hVT.2.2.1
  refine xs_iload_1 eX7_setRules_0 ?_
  refine xa_iconst eX7_setRules_1 ?_
  refine xa_bipush eX7_setRules_2 (by decide) ?_
  by_cases c4 : 0 ≤ p ∧ p ≤ 99
  · refine xbv_S30 (mi' := mX7_checkRange) (y := yX7_checkRange) eX7_setRules_4 (xw_4 lRX7_45 wy_X7_checkRange) rfl rfl ⟨wd_X7_checkRange, by decide, by decide⟩ (Nat.le_of_ble_eq_true rfl) rfl (kk_X7_checkRange yp (by decide) (by decide) c4 ?_)
    refine xs_iload_2 eX7_setRules_7 ?_
    refine xa_iconst eX7_setRules_8 ?_
    refine xa_bipush eX7_setRules_9 (by decide) ?_
    by_cases c11 : 0 ≤ f ∧ f ≤ 50
    · refine xbv_S30 (mi' := mX7_checkRange) (y := yX7_checkRange) eX7_setRules_11 (xw_4 lRX7_45 wy_X7_checkRange) rfl rfl ⟨wd_X7_checkRange, by decide, by decide⟩ (Nat.le_of_ble_eq_true rfl) rfl (kk_X7_checkRange yf (by decide) (by decide) c11 ?_)
      refine xs_aload_0 eX7_setRules_14 ?_
      refine g_X7_0 eX7_setRules_15 lRX7_10 ?_
      refine xs_iload_1 eX7_setRules_18 ?_
      refine p_X4_4 eX7_setRules_19 lRX7_209 (by omega) ?_
      refine xs_aload_0 eX7_setRules_22 ?_
      refine g_X7_0 eX7_setRules_23 lRX7_10 ?_
      refine xs_iload_2 eX7_setRules_26 ?_
      refine p_X4_5 eX7_setRules_27 lRX7_212 (by omega) ?_
      exact xa_vret eX7_setRules_30 rfl ⟨rfl, by have h9 := hA; unfold o_setRules at h9; rw [if_pos c4, if_pos c11] at h9; exact h9 _ rfl scr.rf⟩
    · exact xbv_S3 (mi' := mX7_checkRange) (y := yX7_checkRange) eX7_setRules_11 (xw_4 lRX7_45 wy_X7_checkRange) rfl rfl ⟨wd_X7_checkRange, by decide, by decide⟩ (Nat.le_of_ble_eq_true rfl) rfl ⟨by decide, by decide⟩ (kt_X7_checkRange yf (by decide) (by decide) c11 (xt_out rfl (hB1 S (by unfold o_setRules; rw [if_pos c4, if_neg c11]) scr.rf)))
  · exact xbv_S3 (mi' := mX7_checkRange) (y := yX7_checkRange) eX7_setRules_4 (xw_4 lRX7_45 wy_X7_checkRange) rfl rfl ⟨wd_X7_checkRange, by decide, by decide⟩ (Nat.le_of_ble_eq_true rfl) rfl ⟨by decide, by decide⟩ (kt_X7_checkRange yp (by decide) (by decide) c4 (xt_out rfl (hB1 S (by unfold o_setRules; rw [if_neg c4]) scr.rf)))
set_option maxHeartbeats 400000 in
theorem G_setRules {w : xW} {S : xS} {B : String → xS → Prop} {A : xS → Prop} {p f : Int} {n N : Nat} {T : Int} {C : xS} {M : Nat → Int} (hV : VS 0 n N T C) (hT : T ≤ 800000) (hR : Rel 0 n N C M) (yp : xr p) (yf : xr f)  (hq : ∀ S' M', rfr S' S → S' 30 0 4 = ((o_setRules p f n N C).1 : Int) → Rel 0 (o_setRules p f n N C).2.2.1 (o_setRules p f n N C).2.2.2.1 (o_setRules p f n N C).2.2.2.2 M' → A (stM M' S')) : Kv w mX8_setRules yX8_setRules 0 0 [xp 30 0, xi p, xi f] (stM M S) A B := by
  refine K.of rfl rfl rfl rfl (Nat.le_of_ble_eq_true rfl) rfl ?_
  obtain ⟨hVT, hN20, h8, hg, hp, ho, hs⟩ := id hV
  have hn := hg.1
  have hN := hVT.1
  have ht := hVT.2.2.1
  have hM1 : M 1 = (n : Int) := by rw [hR.1 1 (by decide)]; exact hn
  have hM2 : M 2 = (N : Int) := by rw [hR.1 2 (by decide)]; exact hN
  refine xs_aload_0 eX8_setRules_0 ?_
  refine xs_iload_1 eX8_setRules_1 ?_
  refine xa_i2l eX8_setRules_2 (by omega) ?_
  refine xa_lconst0 eX8_setRules_3 ?_
  refine xa_ldc2 (a := 99) eX8_setRules_4 lRX8_87 (by decide) ?_
  refine xbi_S30 (mi' := mX8_isBetween) (y := yX8_isBetween) eX8_setRules_7 (xw_4 lRX8_61 wy_X8_isBetween) rfl rfl ⟨wd_X8_isBetween, by decide, by decide⟩ (Nat.le_of_ble_eq_true rfl) rfl (k_X8_isBetween (by omega) (by decide) (by decide) ?_)
  refine xa_ifb_eq (tgt := 29) eX8_setRules_10 (by decide) (fun c10 => ?_) (fun c10 => ?_)
  · refine xa_iconst eX8_setRules_29 ?_
    refine p_X8_4 eX8_setRules_30 lRX8_52 (by decide) ?_
    rw [up_stO (by decide)]
    refine xs_aload_0 eX8_setRules_33 ?_
    refine gr_X8_4 eX8_setRules_34 lRX8_52 (fun r34 => ?_)
    try simp (decide := true) only [stM_31, stM_k, up_same, hM1, hM2, show (0 : Int).toNat = 0 from rfl, show (1 : Int).toNat = 1 from rfl, show (2 : Int).toNat = 2 from rfl, show (3 : Int).toNat = 3 from rfl, show (4 : Int).toNat = 4 from rfl, show (5 : Int).toNat = 5 from rfl, show (6 : Int).toNat = 6 from rfl, show (7 : Int).toNat = 7 from rfl, show (8 : Int).toNat = 8 from rfl, show (9 : Int).toNat = 9 from rfl, show (10 : Int).toNat = 10 from rfl, show (11 : Int).toNat = 11 from rfl, show (12 : Int).toNat = 12 from rfl, show (13 : Int).toNat = 13 from rfl, show (14 : Int).toNat = 14 from rfl, Int.toNat_natCast] at r34 ⊢
    refine xa_if_ne (tgt := 56) eX8_setRules_37 (by decide) (by decide) (fun c37 => ?_) (fun c37 => ?_)
    · exact xa_vret eX8_setRules_56 rfl ⟨rfl, by have h9 := hq; unfold o_setRules at h9; rw [if_neg c10] at h9; exact h9 _ _ rfr.t (by rw [up_same]; rfl) hR⟩
    · exact absurd c37 (by decide)
  · refine xs_iload_2 eX8_setRules_13 ?_
    refine xa_i2l eX8_setRules_14 (by omega) ?_
    refine xa_lconst0 eX8_setRules_15 ?_
    refine xa_ldc2 (a := 50) eX8_setRules_16 lRX8_223 (by decide) ?_
    refine xbi_S30 (mi' := mX8_isBetween) (y := yX8_isBetween) eX8_setRules_19 (xw_4 lRX8_61 wy_X8_isBetween) rfl rfl ⟨wd_X8_isBetween, by decide, by decide⟩ (Nat.le_of_ble_eq_true rfl) rfl (k_X8_isBetween (by omega) (by decide) (by decide) ?_)
    refine xa_ifb_eq (tgt := 29) eX8_setRules_22 (by decide) (fun c22 => ?_) (fun c22 => ?_)
    · refine xa_iconst eX8_setRules_29 ?_
      refine p_X8_4 eX8_setRules_30 lRX8_52 (by decide) ?_
      rw [up_stO (by decide)]
      refine xs_aload_0 eX8_setRules_33 ?_
      refine gr_X8_4 eX8_setRules_34 lRX8_52 (fun r34 => ?_)
      try simp (decide := true) only [stM_31, stM_k, up_same, hM1, hM2, show (0 : Int).toNat = 0 from rfl, show (1 : Int).toNat = 1 from rfl, show (2 : Int).toNat = 2 from rfl, show (3 : Int).toNat = 3 from rfl, show (4 : Int).toNat = 4 from rfl, show (5 : Int).toNat = 5 from rfl, show (6 : Int).toNat = 6 from rfl, show (7 : Int).toNat = 7 from rfl, show (8 : Int).toNat = 8 from rfl, show (9 : Int).toNat = 9 from rfl, show (10 : Int).toNat = 10 from rfl, show (11 : Int).toNat = 11 from rfl, show (12 : Int).toNat = 12 from rfl, show (13 : Int).toNat = 13 from rfl, show (14 : Int).toNat = 14 from rfl, Int.toNat_natCast] at r34 ⊢
      refine xa_if_ne (tgt := 56) eX8_setRules_37 (by decide) (by decide) (fun c37 => ?_) (fun c37 => ?_)
      · exact xa_vret eX8_setRules_56 rfl ⟨rfl, by have h9 := hq; unfold o_setRules at h9; rw [if_pos c10, if_neg c22] at h9; exact h9 _ _ rfr.t (by rw [up_same]; rfl) hR⟩
      · exact absurd c37 (by decide)
    · refine xa_iconst eX8_setRules_25 ?_
      refine xa_goto (tgt := 30) eX8_setRules_26 (by decide) ?_
      refine p_X8_4 eX8_setRules_30 lRX8_52 (by decide) ?_
      rw [up_stO (by decide)]
      refine xs_aload_0 eX8_setRules_33 ?_
      refine gr_X8_4 eX8_setRules_34 lRX8_52 (fun r34 => ?_)
      try simp (decide := true) only [stM_31, stM_k, up_same, hM1, hM2, show (0 : Int).toNat = 0 from rfl, show (1 : Int).toNat = 1 from rfl, show (2 : Int).toNat = 2 from rfl, show (3 : Int).toNat = 3 from rfl, show (4 : Int).toNat = 4 from rfl, show (5 : Int).toNat = 5 from rfl, show (6 : Int).toNat = 6 from rfl, show (7 : Int).toNat = 7 from rfl, show (8 : Int).toNat = 8 from rfl, show (9 : Int).toNat = 9 from rfl, show (10 : Int).toNat = 10 from rfl, show (11 : Int).toNat = 11 from rfl, show (12 : Int).toNat = 12 from rfl, show (13 : Int).toNat = 13 from rfl, show (14 : Int).toNat = 14 from rfl, Int.toNat_natCast] at r34 ⊢
      refine xa_if_ne (tgt := 56) eX8_setRules_37 (by decide) (by decide) (fun c37 => ?_) (fun c37 => ?_)
      · exact absurd rfl c37
      · refine xs_aload_0 eX8_setRules_40 ?_
        refine g_X8_0 eX8_setRules_41 lRX8_7 ?_
        refine xa_iconst eX8_setRules_44 ?_
        refine xs_iload_1 eX8_setRules_45 ?_
        refine xa_i2l eX8_setRules_46 (by omega) ?_
        refine pa_31 eX8_setRules_47 (by decide) (by omega) ?_
        rw [show (3 : Int).toNat = 3 from rfl, up_stM]
        refine xs_aload_0 eX8_setRules_48 ?_
        refine g_X8_0 eX8_setRules_49 lRX8_7 ?_
        refine xa_iconst eX8_setRules_52 ?_
        refine xs_iload_2 eX8_setRules_53 ?_
        refine xa_i2l eX8_setRules_54 (by omega) ?_
        refine pa_31 eX8_setRules_55 (by decide) (by omega) ?_
        rw [show (4 : Int).toNat = 4 from rfl, up_stM]
        exact xa_vret eX8_setRules_56 rfl ⟨rfl, by have h9 := hq; unfold o_setRules at h9; rw [if_pos c10, if_pos c22] at h9; exact h9 _ _ rfr.t (by rw [up_same]; rfl) ((hR.gu (i := 3) (by decide) (by decide)).gu (i := 4) (by decide) (by decide))⟩
set_option maxHeartbeats 400000 in
theorem r_X8_living {w : xW} {S : xS} {B : String → xS → Prop} {A : Int → xS → Prop} {n N : Nat} {T : Int} {C : xS} {M : Nat → Int} (hV : VS 0 n N T C) (hR : Rel 0 n N C M) (hq : A (livS 0 N C) (stM M S)) : Ki w mX8_living yX8_living 0 0 [xp 30 0] (stM M S) A B := by
  refine K.of rfl rfl rfl rfl (Nat.le_of_ble_eq_true rfl) rfl ?_
  have hM1 : M 1 = (n : Int) := by rw [hR.1 1 (by decide)]; exact hV.2.2.2.1.1
  have hM2 : M 2 = (N : Int) := by rw [hR.1 2 (by decide)]; exact hV.1.1
  have hN20 := hV.2.1
  have h8 := hV.2.2.1
  have lp : ∀ i : Nat, i ≤ N →  X w mX8_living (xTG w (fun v S' => ∃ a, v = some (xi a) ∧ A a S') B) 0 0 4 [xp 30 0, xi (livS 0 i C), xi (i : Int)] [] (stM M S) := by
    refine nloop (N) (fun i hi ih  => ?_)
    have hT9 : i < N → TQ (C 2 0 2) T (C 10 (32 * 0 + i)) := fun z => hV.t z
    unfold TQ at hT9
    refine xs_iload_2 eX8_living_4 ?_
    refine xa_i2l eX8_living_5 (by omega) ?_
    refine xs_aload_0 eX8_living_6 ?_
    refine g_X8_0 eX8_living_7 lRX8_7 ?_
    refine xa_iconst eX8_living_10 ?_
    refine gar_31 eX8_living_11 (by omega) (fun r11 => ?_)
    try simp (decide := true) only [stM_31, stM_k, up_same, hM1, hM2, show (0 : Int).toNat = 0 from rfl, show (1 : Int).toNat = 1 from rfl, show (2 : Int).toNat = 2 from rfl, show (3 : Int).toNat = 3 from rfl, show (4 : Int).toNat = 4 from rfl, show (5 : Int).toNat = 5 from rfl, show (6 : Int).toNat = 6 from rfl, show (7 : Int).toNat = 7 from rfl, show (8 : Int).toNat = 8 from rfl, show (9 : Int).toNat = 9 from rfl, show (10 : Int).toNat = 10 from rfl, show (11 : Int).toNat = 11 from rfl, show (12 : Int).toNat = 12 from rfl, show (13 : Int).toNat = 13 from rfl, show (14 : Int).toNat = 14 from rfl, Int.toNat_natCast] at r11 ⊢
    refine xa_lcmp eX8_living_12 (by omega) (by omega) ?_
    refine xa_ifc_ge (tgt := 38) eX8_living_13 (by decide) (fun c13 => ?_) (fun c13 => ?_)
    · refine xs_iload_1 eX8_living_38 ?_
      exact xa_iret eX8_living_39 rfl ⟨_, rfl, by rw [show i = N by omega]; exact hq⟩
    · refine xs_iload_1 eX8_living_16 ?_
      refine xs_aload_0 eX8_living_17 ?_
      refine xs_iload_2 eX8_living_18 ?_
      refine xbi_V10 (mi' := mX8_hasEnded) (y := yX8_hasEnded) eX8_living_19 (xw_5 lRX8_119 wy_X8_hasEnded) rfl ⟨wd_X8_hasEnded, by decide, by decide⟩ (by decide) (fun _ => rfl) rfl (Nat.le_of_ble_eq_true rfl) rfl (r_X8_hasEnded (j := i) hV hR rfl (by omega) ?_)
      refine xa_ifb_eq (tgt := 29) eX8_living_22 (by decide) (fun c22 => ?_) (fun c22 => ?_)
      · refine xa_iconst eX8_living_29 ?_
        refine xa_iadd eX8_living_30 ?_
        refine xs_istore_1 eX8_living_31 rfl ?_
        refine xs_iinc_2 eX8_living_32 rfl ?_
        refine xa_goto (tgt := 4) eX8_living_35 (by decide) ?_
        have h9 := ih (i + 1) (by omega) (by omega)
        rw [show livS 0 (i + 1) C = livS 0 i C + (if C 10 (32 * 0 + i) 0 = 0 then 1 else 0) from rfl, if_pos (by omega)] at h9
        exact h9
      · refine xa_iconst eX8_living_25 ?_
        refine xa_goto (tgt := 30) eX8_living_26 (by decide) ?_
        refine xa_iadd eX8_living_30 ?_
        refine xs_istore_1 eX8_living_31 rfl ?_
        refine xs_iinc_2 eX8_living_32 rfl ?_
        refine xa_goto (tgt := 4) eX8_living_35 (by decide) ?_
        have h9 := ih (i + 1) (by omega) (by omega)
        rw [show livS 0 (i + 1) C = livS 0 i C + (if C 10 (32 * 0 + i) 0 = 0 then 1 else 0) from rfl, if_neg (by omega)] at h9
        exact h9
  refine xa_iconst eX8_living_0 ?_
  refine xs_istore_1 eX8_living_1 rfl ?_
  refine xa_iconst eX8_living_2 ?_
  refine xs_istore_2 eX8_living_3 rfl ?_
  exact lp 0 (by omega)
set_option maxHeartbeats 400000 in
theorem F_count {w : xW} {S : xS} {B : String → xS → Prop} {A : Int → xS → Prop} {a : Int} {n N : Nat} {T : Int} (hV : VS 0 n N T S) (hT : T ≤ 800000) (ya : xr a)  (hA : ∀ S', (o_count a n N S).1 = 0 → scr S' (o_count a n N S).2.2.2.2 → A (o_count a n N S).2.1 S') (hB1 : ∀ S', (o_count a n N S).1 = 1 → scr S' S → B "java/lang/IllegalArgumentException" S') : Ki w mX7_count yX7_count 1 6 [xp 0 0, xi a] S A B := by
  refine K.of rfl rfl rfl rfl (Nat.le_of_ble_eq_true rfl) rfl ?_
  obtain ⟨hVT, hN20, h8, hg, hp, ho, hs⟩ := id hV
  have hn := hg.1
  have hN := hVT.1
  have ht := hVT.2.2.1
  refine xs_iload_1 eX7_count_0 ?_
  refine xa_iconst eX7_count_1 ?_
  refine xa_bipush eX7_count_2 (by decide) ?_
  by_cases c4 : 0 ≤ a ∧ a ≤ 12
  · refine xbv_S30 (mi' := mX7_checkRange) (y := yX7_checkRange) eX7_count_4 (xw_4 lRX7_45 wy_X7_checkRange) rfl rfl ⟨wd_X7_checkRange, by decide, by decide⟩ (Nat.le_of_ble_eq_true rfl) rfl (kk_X7_checkRange ya (by decide) (by decide) c4 ?_)
    refine xs_aload_0 eX7_count_7 ?_
    refine g_X7_0 eX7_count_8 lRX7_10 ?_
    refine xs_iload_1 eX7_count_11 ?_
    refine xbi_V10 (mi' := mX4_figure) (y := yX4_figure) eX7_count_12 (xw_5 lRX7_215 wy_X4_figure) rfl ⟨wd_X4_figure, by decide, by decide⟩ (by decide) (fun _ => rfl) rfl (Nat.le_of_ble_eq_true rfl) rfl (f_X4_figure (s := 0) (by omega) hN (by omega) ?_)
    exact xa_iret eX7_count_15 rfl ⟨_, rfl, by have h9 := hA; unfold o_count at h9; rw [if_pos c4] at h9; exact h9 _ rfl scr.rf⟩
  · exact xbv_S3 (mi' := mX7_checkRange) (y := yX7_checkRange) eX7_count_4 (xw_4 lRX7_45 wy_X7_checkRange) rfl rfl ⟨wd_X7_checkRange, by decide, by decide⟩ (Nat.le_of_ble_eq_true rfl) rfl ⟨by decide, by decide⟩ (kt_X7_checkRange ya (by decide) (by decide) c4 (xt_out rfl (hB1 S (by unfold o_count; rw [if_neg c4]) scr.rf)))
set_option maxHeartbeats 400000 in
theorem G_count {w : xW} {S : xS} {B : String → xS → Prop} {A : Int → xS → Prop} {a : Int} {n N : Nat} {T : Int} {C : xS} {M : Nat → Int} (hV : VS 0 n N T C) (hT : T ≤ 800000) (hR : Rel 0 n N C M) (ya : xr a)  (hq : ∀ r S' M', ((o_count a n N C).1 = 0 → r = (o_count a n N C).2.1) → rfr S' S → S' 30 0 4 = ((o_count a n N C).1 : Int) → Rel 0 (o_count a n N C).2.2.1 (o_count a n N C).2.2.2.1 (o_count a n N C).2.2.2.2 M' → A r (stM M' S')) : Ki w mX8_count yX8_count 0 0 [xp 30 0, xi a] (stM M S) A B := by
  refine K.of rfl rfl rfl rfl (Nat.le_of_ble_eq_true rfl) rfl ?_
  obtain ⟨hVT, hN20, h8, hg, hp, ho, hs⟩ := id hV
  have hn := hg.1
  have hN := hVT.1
  have ht := hVT.2.2.1
  have hM1 : M 1 = (n : Int) := by rw [hR.1 1 (by decide)]; exact hn
  have hM2 : M 2 = (N : Int) := by rw [hR.1 2 (by decide)]; exact hN
  refine xs_aload_0 eX8_count_0 ?_
  refine xa_iconst eX8_count_1 ?_
  refine p_X8_4 eX8_count_2 lRX8_52 (by decide) ?_
  rw [up_stO (by decide)]
  refine xs_iload_1 eX8_count_5 ?_
  by_cases c : 0 ≤ a ∧ a ≤ 12
  · rcases (show a = 0 ∨ a = 1 ∨ a = 2 ∨ a = 3 ∨ a = 4 ∨ a = 5 ∨ a = 6 ∨ a = 7 ∨ a = 8 ∨ a = 9 ∨ a = 10 ∨ a = 11 ∨ a = 12 by omega) with rfl | rfl | rfl | rfl | rfl | rfl | rfl | rfl | rfl | rfl | rfl | rfl | rfl
    · refine xa_tabIn (off := 42) (tgt := 48) eX8_count_6 (by decide) (by decide) (by decide) rfl (by decide) ?_
      refine xs_aload_0 eX8_count_48 ?_
      refine xa_iconst eX8_count_49 ?_
      refine xbi_V10 (mi' := mX8_number) (y := yX8_number) eX8_count_50 (xw_5 lRX8_65 wy_X8_number) rfl ⟨wd_X8_number, by decide, by decide⟩ (by decide) (fun _ => rfl) rfl (Nat.le_of_ble_eq_true rfl) rfl (k_X8_number (i := 0) (by decide) (by decide) ?_)
      rw [stM_31, hR.1 _ (by decide)]
      exact xa_iret eX8_count_53 rfl ⟨_, rfl, by have h9 := hq; unfold o_count at h9; rw [if_pos c] at h9; exact h9 _ _ _ (fun _ => rfl) rfr.t (by rw [up_same]; rfl) hR⟩
    · refine xa_tabIn (off := 48) (tgt := 54) eX8_count_6 (by decide) (by decide) (by decide) rfl (by decide) ?_
      refine xs_aload_0 eX8_count_54 ?_
      refine xa_iconst eX8_count_55 ?_
      refine xbi_V10 (mi' := mX8_number) (y := yX8_number) eX8_count_56 (xw_5 lRX8_65 wy_X8_number) rfl ⟨wd_X8_number, by decide, by decide⟩ (by decide) (fun _ => rfl) rfl (Nat.le_of_ble_eq_true rfl) rfl (k_X8_number (i := 1) (by decide) (by decide) ?_)
      rw [stM_31, hR.1 _ (by decide)]
      exact xa_iret eX8_count_59 rfl ⟨_, rfl, by have h9 := hq; unfold o_count at h9; rw [if_pos c] at h9; exact h9 _ _ _ (fun _ => rfl) rfr.t (by rw [up_same]; rfl) hR⟩
    · refine xa_tabIn (off := 54) (tgt := 60) eX8_count_6 (by decide) (by decide) (by decide) rfl (by decide) ?_
      refine xs_aload_0 eX8_count_60 ?_
      refine xa_iconst eX8_count_61 ?_
      refine xbi_V10 (mi' := mX8_number) (y := yX8_number) eX8_count_62 (xw_5 lRX8_65 wy_X8_number) rfl ⟨wd_X8_number, by decide, by decide⟩ (by decide) (fun _ => rfl) rfl (Nat.le_of_ble_eq_true rfl) rfl (k_X8_number (i := 2) (by decide) (by decide) ?_)
      rw [stM_31, hR.1 _ (by decide)]
      exact xa_iret eX8_count_65 rfl ⟨_, rfl, by have h9 := hq; unfold o_count at h9; rw [if_pos c] at h9; exact h9 _ _ _ (fun _ => rfl) rfr.t (by rw [up_same]; rfl) hR⟩
    · refine xa_tabIn (off := 60) (tgt := 66) eX8_count_6 (by decide) (by decide) (by decide) rfl (by decide) ?_
      refine xs_aload_0 eX8_count_66 ?_
      refine xbi_V00 (mi' := mX8_living) (y := yX8_living) eX8_count_67 (xw_5 lRX8_228 wy_X8_living) rfl ⟨wd_X8_living, by decide, by decide⟩ (by decide) (fun _ => rfl) rfl (Nat.le_of_ble_eq_true rfl) rfl (r_X8_living hV hR ?_)
      exact xa_iret eX8_count_70 rfl ⟨_, rfl, by have h9 := hq; unfold o_count at h9; rw [if_pos c] at h9; exact h9 _ _ _ (fun _ => rfl) rfr.t (by rw [up_same]; rfl) hR⟩
    · refine xa_tabIn (off := 65) (tgt := 71) eX8_count_6 (by decide) (by decide) (by decide) rfl (by decide) ?_
      refine xs_aload_0 eX8_count_71 ?_
      refine xa_iconst eX8_count_72 ?_
      refine xbi_V10 (mi' := mX8_number) (y := yX8_number) eX8_count_73 (xw_5 lRX8_65 wy_X8_number) rfl ⟨wd_X8_number, by decide, by decide⟩ (by decide) (fun _ => rfl) rfl (Nat.le_of_ble_eq_true rfl) rfl (k_X8_number (i := 3) (by decide) (by decide) ?_)
      rw [stM_31, hR.1 _ (by decide)]
      exact xa_iret eX8_count_76 rfl ⟨_, rfl, by have h9 := hq; unfold o_count at h9; rw [if_pos c] at h9; exact h9 _ _ _ (fun _ => rfl) rfr.t (by rw [up_same]; rfl) hR⟩
    · refine xa_tabIn (off := 71) (tgt := 77) eX8_count_6 (by decide) (by decide) (by decide) rfl (by decide) ?_
      refine xs_aload_0 eX8_count_77 ?_
      refine xa_iconst eX8_count_78 ?_
      refine xbi_V10 (mi' := mX8_number) (y := yX8_number) eX8_count_79 (xw_5 lRX8_65 wy_X8_number) rfl ⟨wd_X8_number, by decide, by decide⟩ (by decide) (fun _ => rfl) rfl (Nat.le_of_ble_eq_true rfl) rfl (k_X8_number (i := 4) (by decide) (by decide) ?_)
      rw [stM_31, hR.1 _ (by decide)]
      exact xa_iret eX8_count_82 rfl ⟨_, rfl, by have h9 := hq; unfold o_count at h9; rw [if_pos c] at h9; exact h9 _ _ _ (fun _ => rfl) rfr.t (by rw [up_same]; rfl) hR⟩
    · refine xa_tabIn (off := 77) (tgt := 83) eX8_count_6 (by decide) (by decide) (by decide) rfl (by decide) ?_
      refine xs_aload_0 eX8_count_83 ?_
      refine xa_bipush eX8_count_84 (by decide) ?_
      refine xbi_V10 (mi' := mX8_number) (y := yX8_number) eX8_count_86 (xw_5 lRX8_65 wy_X8_number) rfl ⟨wd_X8_number, by decide, by decide⟩ (by decide) (fun _ => rfl) rfl (Nat.le_of_ble_eq_true rfl) rfl (k_X8_number (i := 12) (by decide) (by decide) ?_)
      rw [stM_31, hR.1 _ (by decide)]
      exact xa_iret eX8_count_89 rfl ⟨_, rfl, by have h9 := hq; unfold o_count at h9; rw [if_pos c] at h9; exact h9 _ _ _ (fun _ => rfl) rfr.t (by rw [up_same]; rfl) hR⟩
    · refine xa_tabOut (tgt := 90) eX8_count_6 (by decide) (by decide) (by decide) ?_
      refine xs_iload_1 eX8_count_90 ?_
      refine xa_i2l eX8_count_91 (by decide) ?_
      refine xa_ldc2 (a := 7) eX8_count_92 lRX8_231 (by decide) ?_
      refine xa_ldc2 (a := 12) eX8_count_95 lRX8_233 (by decide) ?_
      refine xbi_S30 (mi' := mX8_isBetween) (y := yX8_isBetween) eX8_count_98 (xw_4 lRX8_61 wy_X8_isBetween) rfl rfl ⟨wd_X8_isBetween, by decide, by decide⟩ (Nat.le_of_ble_eq_true rfl) rfl (k_X8_isBetween (by decide) (by decide) (by decide) ?_)
      refine xa_ifb_eq (tgt := 118) eX8_count_101 (by decide) (fun c101 => ?_) (fun c101 => ?_)
      · exact absurd (by decide) c101
      · refine xs_aload_0 eX8_count_104 ?_
        refine xa_bipush eX8_count_105 (by decide) ?_
        refine xs_iload_1 eX8_count_107 ?_
        refine xa_iadd eX8_count_108 ?_
        refine xa_bipush eX8_count_109 (by decide) ?_
        refine xa_isub eX8_count_111 ?_
        refine xbi_V10 (mi' := mX8_number) (y := yX8_number) eX8_count_112 (xw_5 lRX8_65 wy_X8_number) rfl ⟨wd_X8_number, by decide, by decide⟩ (by decide) (fun _ => rfl) rfl (Nat.le_of_ble_eq_true rfl) rfl (k_X8_number (i := 6) (by decide) (by decide) ?_)
        rw [stM_31, hR.1 _ (by decide)]
        refine xa_goto (tgt := 123) eX8_count_115 (by decide) ?_
        exact xa_iret eX8_count_123 rfl ⟨_, rfl, by have h9 := hq; unfold o_count at h9; rw [if_pos c] at h9; exact h9 _ _ _ (fun _ => rfl) rfr.t (by rw [up_same]; rfl) hR⟩
    · refine xa_tabOut (tgt := 90) eX8_count_6 (by decide) (by decide) (by decide) ?_
      refine xs_iload_1 eX8_count_90 ?_
      refine xa_i2l eX8_count_91 (by decide) ?_
      refine xa_ldc2 (a := 7) eX8_count_92 lRX8_231 (by decide) ?_
      refine xa_ldc2 (a := 12) eX8_count_95 lRX8_233 (by decide) ?_
      refine xbi_S30 (mi' := mX8_isBetween) (y := yX8_isBetween) eX8_count_98 (xw_4 lRX8_61 wy_X8_isBetween) rfl rfl ⟨wd_X8_isBetween, by decide, by decide⟩ (Nat.le_of_ble_eq_true rfl) rfl (k_X8_isBetween (by decide) (by decide) (by decide) ?_)
      refine xa_ifb_eq (tgt := 118) eX8_count_101 (by decide) (fun c101 => ?_) (fun c101 => ?_)
      · exact absurd (by decide) c101
      · refine xs_aload_0 eX8_count_104 ?_
        refine xa_bipush eX8_count_105 (by decide) ?_
        refine xs_iload_1 eX8_count_107 ?_
        refine xa_iadd eX8_count_108 ?_
        refine xa_bipush eX8_count_109 (by decide) ?_
        refine xa_isub eX8_count_111 ?_
        refine xbi_V10 (mi' := mX8_number) (y := yX8_number) eX8_count_112 (xw_5 lRX8_65 wy_X8_number) rfl ⟨wd_X8_number, by decide, by decide⟩ (by decide) (fun _ => rfl) rfl (Nat.le_of_ble_eq_true rfl) rfl (k_X8_number (i := 7) (by decide) (by decide) ?_)
        rw [stM_31, hR.1 _ (by decide)]
        refine xa_goto (tgt := 123) eX8_count_115 (by decide) ?_
        exact xa_iret eX8_count_123 rfl ⟨_, rfl, by have h9 := hq; unfold o_count at h9; rw [if_pos c] at h9; exact h9 _ _ _ (fun _ => rfl) rfr.t (by rw [up_same]; rfl) hR⟩
    · refine xa_tabOut (tgt := 90) eX8_count_6 (by decide) (by decide) (by decide) ?_
      refine xs_iload_1 eX8_count_90 ?_
      refine xa_i2l eX8_count_91 (by decide) ?_
      refine xa_ldc2 (a := 7) eX8_count_92 lRX8_231 (by decide) ?_
      refine xa_ldc2 (a := 12) eX8_count_95 lRX8_233 (by decide) ?_
      refine xbi_S30 (mi' := mX8_isBetween) (y := yX8_isBetween) eX8_count_98 (xw_4 lRX8_61 wy_X8_isBetween) rfl rfl ⟨wd_X8_isBetween, by decide, by decide⟩ (Nat.le_of_ble_eq_true rfl) rfl (k_X8_isBetween (by decide) (by decide) (by decide) ?_)
      refine xa_ifb_eq (tgt := 118) eX8_count_101 (by decide) (fun c101 => ?_) (fun c101 => ?_)
      · exact absurd (by decide) c101
      · refine xs_aload_0 eX8_count_104 ?_
        refine xa_bipush eX8_count_105 (by decide) ?_
        refine xs_iload_1 eX8_count_107 ?_
        refine xa_iadd eX8_count_108 ?_
        refine xa_bipush eX8_count_109 (by decide) ?_
        refine xa_isub eX8_count_111 ?_
        refine xbi_V10 (mi' := mX8_number) (y := yX8_number) eX8_count_112 (xw_5 lRX8_65 wy_X8_number) rfl ⟨wd_X8_number, by decide, by decide⟩ (by decide) (fun _ => rfl) rfl (Nat.le_of_ble_eq_true rfl) rfl (k_X8_number (i := 8) (by decide) (by decide) ?_)
        rw [stM_31, hR.1 _ (by decide)]
        refine xa_goto (tgt := 123) eX8_count_115 (by decide) ?_
        exact xa_iret eX8_count_123 rfl ⟨_, rfl, by have h9 := hq; unfold o_count at h9; rw [if_pos c] at h9; exact h9 _ _ _ (fun _ => rfl) rfr.t (by rw [up_same]; rfl) hR⟩
    · refine xa_tabOut (tgt := 90) eX8_count_6 (by decide) (by decide) (by decide) ?_
      refine xs_iload_1 eX8_count_90 ?_
      refine xa_i2l eX8_count_91 (by decide) ?_
      refine xa_ldc2 (a := 7) eX8_count_92 lRX8_231 (by decide) ?_
      refine xa_ldc2 (a := 12) eX8_count_95 lRX8_233 (by decide) ?_
      refine xbi_S30 (mi' := mX8_isBetween) (y := yX8_isBetween) eX8_count_98 (xw_4 lRX8_61 wy_X8_isBetween) rfl rfl ⟨wd_X8_isBetween, by decide, by decide⟩ (Nat.le_of_ble_eq_true rfl) rfl (k_X8_isBetween (by decide) (by decide) (by decide) ?_)
      refine xa_ifb_eq (tgt := 118) eX8_count_101 (by decide) (fun c101 => ?_) (fun c101 => ?_)
      · exact absurd (by decide) c101
      · refine xs_aload_0 eX8_count_104 ?_
        refine xa_bipush eX8_count_105 (by decide) ?_
        refine xs_iload_1 eX8_count_107 ?_
        refine xa_iadd eX8_count_108 ?_
        refine xa_bipush eX8_count_109 (by decide) ?_
        refine xa_isub eX8_count_111 ?_
        refine xbi_V10 (mi' := mX8_number) (y := yX8_number) eX8_count_112 (xw_5 lRX8_65 wy_X8_number) rfl ⟨wd_X8_number, by decide, by decide⟩ (by decide) (fun _ => rfl) rfl (Nat.le_of_ble_eq_true rfl) rfl (k_X8_number (i := 9) (by decide) (by decide) ?_)
        rw [stM_31, hR.1 _ (by decide)]
        refine xa_goto (tgt := 123) eX8_count_115 (by decide) ?_
        exact xa_iret eX8_count_123 rfl ⟨_, rfl, by have h9 := hq; unfold o_count at h9; rw [if_pos c] at h9; exact h9 _ _ _ (fun _ => rfl) rfr.t (by rw [up_same]; rfl) hR⟩
    · refine xa_tabOut (tgt := 90) eX8_count_6 (by decide) (by decide) (by decide) ?_
      refine xs_iload_1 eX8_count_90 ?_
      refine xa_i2l eX8_count_91 (by decide) ?_
      refine xa_ldc2 (a := 7) eX8_count_92 lRX8_231 (by decide) ?_
      refine xa_ldc2 (a := 12) eX8_count_95 lRX8_233 (by decide) ?_
      refine xbi_S30 (mi' := mX8_isBetween) (y := yX8_isBetween) eX8_count_98 (xw_4 lRX8_61 wy_X8_isBetween) rfl rfl ⟨wd_X8_isBetween, by decide, by decide⟩ (Nat.le_of_ble_eq_true rfl) rfl (k_X8_isBetween (by decide) (by decide) (by decide) ?_)
      refine xa_ifb_eq (tgt := 118) eX8_count_101 (by decide) (fun c101 => ?_) (fun c101 => ?_)
      · exact absurd (by decide) c101
      · refine xs_aload_0 eX8_count_104 ?_
        refine xa_bipush eX8_count_105 (by decide) ?_
        refine xs_iload_1 eX8_count_107 ?_
        refine xa_iadd eX8_count_108 ?_
        refine xa_bipush eX8_count_109 (by decide) ?_
        refine xa_isub eX8_count_111 ?_
        refine xbi_V10 (mi' := mX8_number) (y := yX8_number) eX8_count_112 (xw_5 lRX8_65 wy_X8_number) rfl ⟨wd_X8_number, by decide, by decide⟩ (by decide) (fun _ => rfl) rfl (Nat.le_of_ble_eq_true rfl) rfl (k_X8_number (i := 10) (by decide) (by decide) ?_)
        rw [stM_31, hR.1 _ (by decide)]
        refine xa_goto (tgt := 123) eX8_count_115 (by decide) ?_
        exact xa_iret eX8_count_123 rfl ⟨_, rfl, by have h9 := hq; unfold o_count at h9; rw [if_pos c] at h9; exact h9 _ _ _ (fun _ => rfl) rfr.t (by rw [up_same]; rfl) hR⟩
    · refine xa_tabOut (tgt := 90) eX8_count_6 (by decide) (by decide) (by decide) ?_
      refine xs_iload_1 eX8_count_90 ?_
      refine xa_i2l eX8_count_91 (by decide) ?_
      refine xa_ldc2 (a := 7) eX8_count_92 lRX8_231 (by decide) ?_
      refine xa_ldc2 (a := 12) eX8_count_95 lRX8_233 (by decide) ?_
      refine xbi_S30 (mi' := mX8_isBetween) (y := yX8_isBetween) eX8_count_98 (xw_4 lRX8_61 wy_X8_isBetween) rfl rfl ⟨wd_X8_isBetween, by decide, by decide⟩ (Nat.le_of_ble_eq_true rfl) rfl (k_X8_isBetween (by decide) (by decide) (by decide) ?_)
      refine xa_ifb_eq (tgt := 118) eX8_count_101 (by decide) (fun c101 => ?_) (fun c101 => ?_)
      · exact absurd (by decide) c101
      · refine xs_aload_0 eX8_count_104 ?_
        refine xa_bipush eX8_count_105 (by decide) ?_
        refine xs_iload_1 eX8_count_107 ?_
        refine xa_iadd eX8_count_108 ?_
        refine xa_bipush eX8_count_109 (by decide) ?_
        refine xa_isub eX8_count_111 ?_
        refine xbi_V10 (mi' := mX8_number) (y := yX8_number) eX8_count_112 (xw_5 lRX8_65 wy_X8_number) rfl ⟨wd_X8_number, by decide, by decide⟩ (by decide) (fun _ => rfl) rfl (Nat.le_of_ble_eq_true rfl) rfl (k_X8_number (i := 11) (by decide) (by decide) ?_)
        rw [stM_31, hR.1 _ (by decide)]
        refine xa_goto (tgt := 123) eX8_count_115 (by decide) ?_
        exact xa_iret eX8_count_123 rfl ⟨_, rfl, by have h9 := hq; unfold o_count at h9; rw [if_pos c] at h9; exact h9 _ _ _ (fun _ => rfl) rfr.t (by rw [up_same]; rfl) hR⟩
  · refine xa_tabOut (tgt := 90) eX8_count_6 ya (by omega) (by decide) ?_
    refine xs_iload_1 eX8_count_90 ?_
    refine xa_i2l eX8_count_91 (by omega) ?_
    refine xa_ldc2 (a := 7) eX8_count_92 lRX8_231 (by decide) ?_
    refine xa_ldc2 (a := 12) eX8_count_95 lRX8_233 (by decide) ?_
    refine xbi_S30 (mi' := mX8_isBetween) (y := yX8_isBetween) eX8_count_98 (xw_4 lRX8_61 wy_X8_isBetween) rfl rfl ⟨wd_X8_isBetween, by decide, by decide⟩ (Nat.le_of_ble_eq_true rfl) rfl (k_X8_isBetween (by omega) (by decide) (by decide) ?_)
    refine xa_ifb_eq (tgt := 118) eX8_count_101 (by decide) (fun c101 => ?_) (fun c101 => ?_)
    · refine xs_aload_0 eX8_count_118 ?_
      refine xa_iconst eX8_count_119 ?_
      refine xbi_V10 (mi' := mX8_fail) (y := yX8_fail) eX8_count_120 (xw_5 lRX8_89 wy_X8_fail) rfl ⟨wd_X8_fail, by decide, by decide⟩ (by decide) (fun _ => rfl) rfl (Nat.le_of_ble_eq_true rfl) rfl (k_X8_fail (by decide) ?_)
      rw [up_stO (by decide)]
      exact xa_iret eX8_count_123 rfl ⟨_, rfl, by have h9 := hq; unfold o_count at h9; rw [if_neg c] at h9; exact h9 _ _ _ (fun z => absurd z (Nat.succ_ne_zero _)) (rfr.t.tr rfr.t) (by rw [up_same]; rfl) hR⟩
    · exact absurd c101 (by omega)
set_option maxHeartbeats 400000 in
theorem F_bank {w : xW} {S : xS} {B : String → xS → Prop} {A : Int → xS → Prop} {n N : Nat} {T : Int} (hV : VS 0 n N T S) (hT : T ≤ 800000)   (hA : ∀ S', (o_bank n N S).1 = 0 → scr S' (o_bank n N S).2.2.2.2 → A (o_bank n N S).2.1 S') : Kl w mX7_bank yX7_bank 0 0 [xp 0 0] S A B := by
  refine K.of rfl rfl rfl rfl (Nat.le_of_ble_eq_true rfl) rfl ?_
  obtain ⟨hVT, hN20, h8, hg, hp, ho, hs⟩ := id hV
  have hn := hg.1
  have hN := hVT.1
  have ht := hVT.2.2.1
  refine xs_aload_0 eX7_bank_0 ?_
  refine g_X7_0 eX7_bank_1 lRX7_10 ?_
  refine gr_X4_6 eX7_bank_4 lRX7_216 (fun r4 => ?_)
  exact xa_lret eX7_bank_7 rfl ⟨_, rfl, by have h9 := hA; unfold o_bank at h9; exact h9 _ rfl scr.rf⟩
set_option maxHeartbeats 400000 in
theorem G_bank {w : xW} {S : xS} {B : String → xS → Prop} {A : Int → xS → Prop} {n N : Nat} {T : Int} {C : xS} {M : Nat → Int} (hV : VS 0 n N T C) (hT : T ≤ 800000) (hR : Rel 0 n N C M)   (hq : ∀ r S' M', ((o_bank n N C).1 = 0 → r = (o_bank n N C).2.1) → rfr S' S → S' 30 0 4 = ((o_bank n N C).1 : Int) → Rel 0 (o_bank n N C).2.2.1 (o_bank n N C).2.2.2.1 (o_bank n N C).2.2.2.2 M' → A r (stM M' S')) : Kl w mX8_bank yX8_bank 0 0 [xp 30 0] (stM M S) A B := by
  refine K.of rfl rfl rfl rfl (Nat.le_of_ble_eq_true rfl) rfl ?_
  obtain ⟨hVT, hN20, h8, hg, hp, ho, hs⟩ := id hV
  have hn := hg.1
  have hN := hVT.1
  have ht := hVT.2.2.1
  have hM1 : M 1 = (n : Int) := by rw [hR.1 1 (by decide)]; exact hn
  have hM2 : M 2 = (N : Int) := by rw [hR.1 2 (by decide)]; exact hN
  refine xs_aload_0 eX8_bank_0 ?_
  refine xa_iconst eX8_bank_1 ?_
  refine p_X8_4 eX8_bank_2 lRX8_52 (by decide) ?_
  rw [up_stO (by decide)]
  refine xs_aload_0 eX8_bank_5 ?_
  refine g_X8_0 eX8_bank_6 lRX8_7 ?_
  refine xa_bipush eX8_bank_9 (by decide) ?_
  refine gar_31 eX8_bank_11 (by decide) (fun r11 => ?_)
  try simp (decide := true) only [stM_31, show (0 : Int).toNat = 0 from rfl, show (1 : Int).toNat = 1 from rfl, show (2 : Int).toNat = 2 from rfl, show (3 : Int).toNat = 3 from rfl, show (4 : Int).toNat = 4 from rfl, show (5 : Int).toNat = 5 from rfl, show (6 : Int).toNat = 6 from rfl, show (7 : Int).toNat = 7 from rfl, show (8 : Int).toNat = 8 from rfl, show (9 : Int).toNat = 9 from rfl, show (10 : Int).toNat = 10 from rfl, show (11 : Int).toNat = 11 from rfl, show (12 : Int).toNat = 12 from rfl, show (13 : Int).toNat = 13 from rfl, show (14 : Int).toNat = 14 from rfl] at r11 ⊢
  exact xa_lret eX8_bank_12 rfl ⟨_, rfl, by have h9 := hq; unfold o_bank at h9; exact h9 _ _ _ (fun _ => hR.1 14 (by decide)) rfr.t (by rw [up_same]; rfl) hR⟩
set_option maxHeartbeats 400000 in
theorem F_sales {w : xW} {S : xS} {B : String → xS → Prop} {A : Int → xS → Prop} {p q : Int} {n N : Nat} {T : Int} (hV : VS 0 n N T S) (hT : T ≤ 800000) (yp : xr p) (yq : xr q)  (hA : ∀ S', (o_sales p q n N S).1 = 0 → scr S' (o_sales p q n N S).2.2.2.2 → A (o_sales p q n N S).2.1 S') (hB1 : ∀ S', (o_sales p q n N S).1 = 1 → scr S' S → B "java/lang/IndexOutOfBoundsException" S') : Ki w mX7_sales yX7_sales 1 6 [xp 0 0, xi p, xi q] S A B := by
  refine K.of rfl rfl rfl rfl (Nat.le_of_ble_eq_true rfl) rfl ?_
  obtain ⟨hVT, hN20, h8, hg, hp, ho, hs⟩ := id hV
  have hn := hg.1
  have hN := hVT.1
  have ht := hVT.2.2.1
  refine xs_aload_0 eX7_sales_0 ?_
  refine g_X7_0 eX7_sales_1 lRX7_10 ?_
  refine xs_iload_1 eX7_sales_4 ?_
  by_cases c5 : 0 ≤ p ∧ p < (n : Int)
  · refine xbo_V10 (mi' := mX4_knownProcess) (y := yX4_knownProcess) eX7_sales_5 (xw_5 lRX7_60 wy_X4_knownProcess) rfl ⟨wd_X4_knownProcess, by decide, by decide⟩ (by decide) (fun _ => rfl) rfl (Nat.le_of_ble_eq_true rfl) rfl (kI_X4_knownProcess hn h8 c5 ?_)
    refine xa_pop eX7_sales_8 rfl ?_
    refine xs_aload_0 eX7_sales_9 ?_
    refine g_X7_0 eX7_sales_10 lRX7_10 ?_
    refine xs_iload_2 eX7_sales_13 ?_
    by_cases c14 : 0 ≤ q ∧ q < (n : Int)
    · refine xbo_V10 (mi' := mX4_knownProcess) (y := yX4_knownProcess) eX7_sales_14 (xw_5 lRX7_60 wy_X4_knownProcess) rfl ⟨wd_X4_knownProcess, by decide, by decide⟩ (by decide) (fun _ => rfl) rfl (Nat.le_of_ble_eq_true rfl) rfl (kI_X4_knownProcess hn h8 c14 ?_)
      obtain ⟨p9, rfl⟩ : ∃ p9 : Nat, p = (p9 : Int) := ⟨p.toNat, by omega⟩
      obtain ⟨q9, rfl⟩ : ∃ q9 : Nat, q = (q9 : Int) := ⟨q.toNat, by omega⟩
      refine xa_pop eX7_sales_17 rfl ?_
      refine xs_aload_0 eX7_sales_18 ?_
      refine g_X7_0 eX7_sales_19 lRX7_10 ?_
      refine g_X4_2 eX7_sales_22 lRX7_193 ?_
      refine xs_iload_1 eX7_sales_25 ?_
      refine xs_iload_2 eX7_sales_26 ?_
      refine xbi_V20 (mi' := mX2_countBetween) (y := yX2_countBetween) eX7_sales_27 (xw_5 lRX7_197 wy_X2_countBetween) rfl ⟨wd_X2_countBetween, by decide, by decide⟩ (by decide) (fun _ => rfl) rfl (Nat.le_of_ble_eq_true rfl) rfl (k_X2_countBetween (by omega) (by omega) ?_)
      exact xa_iret eX7_sales_30 rfl ⟨_, rfl, by have h9 := hA; unfold o_sales at h9; rw [if_pos c5, if_pos c14] at h9; exact h9 _ rfl scr.rf⟩
    · exact xbo_V1 (mi' := mX4_knownProcess) (y := yX4_knownProcess) eX7_sales_14 (xw_5 lRX7_60 wy_X4_knownProcess) rfl ⟨wd_X4_knownProcess, by decide, by decide⟩ (by decide) (fun _ => rfl) rfl (Nat.le_of_ble_eq_true rfl) rfl ⟨by decide, by decide⟩ (kt_X4_knownProcess hn h8 yq c14 (xt_out rfl (hB1 S (by unfold o_sales; rw [if_pos c5, if_neg c14]) scr.rf)))
  · exact xbo_V1 (mi' := mX4_knownProcess) (y := yX4_knownProcess) eX7_sales_5 (xw_5 lRX7_60 wy_X4_knownProcess) rfl ⟨wd_X4_knownProcess, by decide, by decide⟩ (by decide) (fun _ => rfl) rfl (Nat.le_of_ble_eq_true rfl) rfl ⟨by decide, by decide⟩ (kt_X4_knownProcess hn h8 yp c5 (xt_out rfl (hB1 S (by unfold o_sales; rw [if_neg c5]) scr.rf)))
set_option maxHeartbeats 400000 in
theorem G_sales {w : xW} {S : xS} {B : String → xS → Prop} {A : Int → xS → Prop} {p q : Int} {n N : Nat} {T : Int} {C : xS} {M : Nat → Int} (hV : VS 0 n N T C) (hT : T ≤ 800000) (hR : Rel 0 n N C M) (yp : xr p) (yq : xr q)  (hq : ∀ r S' M', ((o_sales p q n N C).1 = 0 → r = (o_sales p q n N C).2.1) → rfr S' S → S' 30 0 4 = ((o_sales p q n N C).1 : Int) → Rel 0 (o_sales p q n N C).2.2.1 (o_sales p q n N C).2.2.2.1 (o_sales p q n N C).2.2.2.2 M' → A r (stM M' S')) : Ki w mX8_sales yX8_sales 0 0 [xp 30 0, xi p, xi q] (stM M S) A B := by
  refine K.of rfl rfl rfl rfl (Nat.le_of_ble_eq_true rfl) rfl ?_
  obtain ⟨hVT, hN20, h8, hg, hp, ho, hs⟩ := id hV
  have hn := hg.1
  have hN := hVT.1
  have ht := hVT.2.2.1
  have hM1 : M 1 = (n : Int) := by rw [hR.1 1 (by decide)]; exact hn
  have hM2 : M 2 = (N : Int) := by rw [hR.1 2 (by decide)]; exact hN
  refine xs_aload_0 eX8_sales_0 ?_
  refine xa_iconst eX8_sales_1 ?_
  refine p_X8_4 eX8_sales_2 lRX8_52 (by decide) ?_
  rw [up_stO (by decide)]
  refine xs_aload_0 eX8_sales_5 ?_
  refine xs_iload_1 eX8_sales_6 ?_
  refine xbi_V10 (mi' := mX8_isProcess) (y := yX8_isProcess) eX8_sales_7 (xw_5 lRX8_98 wy_X8_isProcess) rfl ⟨wd_X8_isProcess, by decide, by decide⟩ (by decide) (fun _ => rfl) rfl (Nat.le_of_ble_eq_true rfl) rfl (r_X8_isProcess hV hR yp ?_)
  refine xa_ifb_eq (tgt := 38) eX8_sales_10 (by decide) (fun c10 => ?_) (fun c10 => ?_)
  · refine xs_aload_0 eX8_sales_38 ?_
    refine xa_iconst eX8_sales_39 ?_
    refine xbi_V10 (mi' := mX8_fail) (y := yX8_fail) eX8_sales_40 (xw_5 lRX8_89 wy_X8_fail) rfl ⟨wd_X8_fail, by decide, by decide⟩ (by decide) (fun _ => rfl) rfl (Nat.le_of_ble_eq_true rfl) rfl (k_X8_fail (by decide) ?_)
    rw [up_stO (by decide)]
    exact xa_iret eX8_sales_43 rfl ⟨_, rfl, by have h9 := hq; unfold o_sales at h9; rw [if_neg c10] at h9; exact h9 _ _ _ (fun z => absurd z (Nat.succ_ne_zero _)) (rfr.t.tr rfr.t) (by rw [up_same]; rfl) hR⟩
  · refine xs_aload_0 eX8_sales_13 ?_
    refine xs_iload_2 eX8_sales_14 ?_
    refine xbi_V10 (mi' := mX8_isProcess) (y := yX8_isProcess) eX8_sales_15 (xw_5 lRX8_98 wy_X8_isProcess) rfl ⟨wd_X8_isProcess, by decide, by decide⟩ (by decide) (fun _ => rfl) rfl (Nat.le_of_ble_eq_true rfl) rfl (r_X8_isProcess hV hR yq ?_)
    refine xa_ifb_eq (tgt := 38) eX8_sales_18 (by decide) (fun c18 => ?_) (fun c18 => ?_)
    · refine xs_aload_0 eX8_sales_38 ?_
      refine xa_iconst eX8_sales_39 ?_
      refine xbi_V10 (mi' := mX8_fail) (y := yX8_fail) eX8_sales_40 (xw_5 lRX8_89 wy_X8_fail) rfl ⟨wd_X8_fail, by decide, by decide⟩ (by decide) (fun _ => rfl) rfl (Nat.le_of_ble_eq_true rfl) rfl (k_X8_fail (by decide) ?_)
      rw [up_stO (by decide)]
      exact xa_iret eX8_sales_43 rfl ⟨_, rfl, by have h9 := hq; unfold o_sales at h9; rw [if_pos c10, if_neg c18] at h9; exact h9 _ _ _ (fun z => absurd z (Nat.succ_ne_zero _)) (rfr.t.tr rfr.t) (by rw [up_same]; rfl) hR⟩
    · refine xs_aload_0 eX8_sales_21 ?_
      refine xa_sipush eX8_sales_22 (by decide) ?_
      refine xa_bipush eX8_sales_25 (by decide) ?_
      refine xs_iload_1 eX8_sales_27 ?_
      refine xa_imul eX8_sales_28 ?_
      refine xa_iadd eX8_sales_29 ?_
      refine xs_iload_2 eX8_sales_30 ?_
      refine xa_iadd eX8_sales_31 ?_
      refine xbi_V10 (mi' := mX8_number) (y := yX8_number) eX8_sales_32 (xw_5 lRX8_65 wy_X8_number) rfl ⟨wd_X8_number, by decide, by decide⟩ (by decide) (fun _ => rfl) rfl (Nat.le_of_ble_eq_true rfl) rfl (k_X8_number (i := 463 + (8 * p.toNat + q.toNat)) (by omega) (by omega) ?_)
      rw [stM_31, hR.2.2.2 _ (by omega)]
      refine xa_goto (tgt := 43) eX8_sales_35 (by decide) ?_
      exact xa_iret eX8_sales_43 rfl ⟨_, rfl, by have h9 := hq; unfold o_sales at h9; rw [if_pos c10, if_pos c18] at h9; exact h9 _ _ _ (fun _ => rfl) rfr.t (by rw [up_same]; rfl) hR⟩
set_option maxHeartbeats 400000 in
theorem F_partners {w : xW} {S : xS} {B : String → xS → Prop} {A : Int → xS → Prop} {n N : Nat} {T : Int} (hV : VS 0 n N T S) (hT : T ≤ 800000)   (hA : ∀ S', (o_partners n N S).1 = 0 → scr S' (o_partners n N S).2.2.2.2 → A (o_partners n N S).2.1 S') : Ki w mX7_partners yX7_partners 0 0 [xp 0 0] S A B := by
  refine K.of rfl rfl rfl rfl (Nat.le_of_ble_eq_true rfl) rfl ?_
  obtain ⟨hVT, hN20, h8, hg, hp, ho, hs⟩ := id hV
  have hn := hg.1
  have hN := hVT.1
  have ht := hVT.2.2.1
  refine xs_aload_0 eX7_partners_0 ?_
  refine g_X7_0 eX7_partners_1 lRX7_10 ?_
  refine g_X4_2 eX7_partners_4 lRX7_193 ?_
  refine xbi_V00 (mi' := mX2_countPairs) (y := yX2_countPairs) eX7_partners_7 (xw_5 lRX7_202 wy_X2_countPairs) rfl ⟨wd_X2_countPairs, by decide, by decide⟩ (by decide) (fun _ => rfl) rfl (Nat.le_of_ble_eq_true rfl) rfl (k_X2_countPairs ?_)
  exact xa_iret eX7_partners_10 rfl ⟨_, rfl, by have h9 := hA; unfold o_partners at h9; exact h9 _ rfl scr.rf⟩
set_option maxHeartbeats 400000 in
theorem G_partners {w : xW} {S : xS} {B : String → xS → Prop} {A : Int → xS → Prop} {n N : Nat} {T : Int} {C : xS} {M : Nat → Int} (hV : VS 0 n N T C) (hT : T ≤ 800000) (hR : Rel 0 n N C M)   (hq : ∀ r S' M', ((o_partners n N C).1 = 0 → r = (o_partners n N C).2.1) → rfr S' S → S' 30 0 4 = ((o_partners n N C).1 : Int) → Rel 0 (o_partners n N C).2.2.1 (o_partners n N C).2.2.2.1 (o_partners n N C).2.2.2.2 M' → A r (stM M' S')) : Ki w mX8_partners yX8_partners 0 0 [xp 30 0] (stM M S) A B := by
  refine K.of rfl rfl rfl rfl (Nat.le_of_ble_eq_true rfl) rfl ?_
  obtain ⟨hVT, hN20, h8, hg, hp, ho, hs⟩ := id hV
  have hn := hg.1
  have hN := hVT.1
  have ht := hVT.2.2.1
  have hM1 : M 1 = (n : Int) := by rw [hR.1 1 (by decide)]; exact hn
  have hM2 : M 2 = (N : Int) := by rw [hR.1 2 (by decide)]; exact hN
  have lp : ∀ i : Nat, i ≤ 64 →  X w mX8_partners (xTG w (fun v S' => ∃ a, v = some (xi a) ∧ A a S') B) 0 0 9 [xp 30 0, xi (parS i C), xi (i : Int)] [] (stM M (up S 30 0 4 0)) := by
    refine nloop (64) (fun i hi ih  => ?_)
    have hIdx : (463 + (i : Int)).toNat = 463 + i := by omega
    refine xs_iload_2 eX8_partners_9 ?_
    refine xa_bipush eX8_partners_10 (by decide) ?_
    refine xa_icmp_ge (tgt := 44) eX8_partners_12 (by decide) (by omega) (by decide) (fun c12 => ?_) (fun c12 => ?_)
    · refine xs_iload_1 eX8_partners_44 ?_
      exact xa_iret eX8_partners_45 rfl ⟨_, rfl, by have h9 := hq; unfold o_partners at h9; exact h9 _ _ _ (fun _ => by rw [show i = 64 by omega]) rfr.t (by rw [up_same]; rfl) hR⟩
    · have hI9 : i < 64 := by omega
      have hC9 := hs.2.2 i hI9
      refine xs_iload_1 eX8_partners_15 ?_
      refine xs_aload_0 eX8_partners_16 ?_
      refine g_X8_0 eX8_partners_17 lRX8_7 ?_
      refine xa_sipush eX8_partners_20 (by decide) ?_
      refine xs_iload_2 eX8_partners_23 ?_
      refine xa_iadd eX8_partners_24 ?_
      refine gar_31 eX8_partners_25 (by omega) (fun r25 => ?_)
      try simp only [stM_31, hIdx, hR.2.2.2 i hI9] at r25 ⊢
      refine xa_lconst0 eX8_partners_26 ?_
      refine xa_lcmp eX8_partners_27 (by omega) (by decide) ?_
      refine xa_ifc_le (tgt := 35) eX8_partners_28 (by decide) (fun c28 => ?_) (fun c28 => ?_)
      · refine xa_iconst eX8_partners_35 ?_
        refine xa_iadd eX8_partners_36 ?_
        refine xs_istore_1 eX8_partners_37 rfl ?_
        refine xs_iinc_2 eX8_partners_38 rfl ?_
        refine xa_goto (tgt := 9) eX8_partners_41 (by decide) ?_
        have h9 := ih (i + 1) (by omega) (by omega)
        rw [show parS (i + 1) C = parS i C + (if 0 < C 25 0 i then 1 else 0) from rfl, if_neg (by omega)] at h9
        exact h9
      · refine xa_iconst eX8_partners_31 ?_
        refine xa_goto (tgt := 36) eX8_partners_32 (by decide) ?_
        refine xa_iadd eX8_partners_36 ?_
        refine xs_istore_1 eX8_partners_37 rfl ?_
        refine xs_iinc_2 eX8_partners_38 rfl ?_
        refine xa_goto (tgt := 9) eX8_partners_41 (by decide) ?_
        have h9 := ih (i + 1) (by omega) (by omega)
        rw [show parS (i + 1) C = parS i C + (if 0 < C 25 0 i then 1 else 0) from rfl, if_pos (by omega)] at h9
        exact h9
  refine xs_aload_0 eX8_partners_0 ?_
  refine xa_iconst eX8_partners_1 ?_
  refine p_X8_4 eX8_partners_2 lRX8_52 (by decide) ?_
  rw [up_stO (by decide)]
  refine xa_iconst eX8_partners_5 ?_
  refine xs_istore_1 eX8_partners_6 rfl ?_
  refine xa_iconst eX8_partners_7 ?_
  refine xs_istore_2 eX8_partners_8 rfl ?_
  exact lp 0 (by omega)
set_option maxHeartbeats 400000 in
theorem F_ask {w : xW} {S : xS} {B : String → xS → Prop} {A : Int → xS → Prop} {j a : Int} {n N : Nat} {T : Int} (hV : VS 0 n N T S) (hT : T ≤ 800000) (yj : xr j) (ya : xr a)  (hA : ∀ S', (o_ask j a n N S).1 = 0 → scr S' (o_ask j a n N S).2.2.2.2 → A (o_ask j a n N S).2.1 S') (hB1 : ∀ S', (o_ask j a n N S).1 = 1 → scr S' S → B "java/lang/IndexOutOfBoundsException" S') (hB2 : ∀ S', (o_ask j a n N S).1 = 2 → scr S' S → B "java/lang/IllegalArgumentException" S') (hB3 : ∀ S', (o_ask j a n N S).1 = 3 → scr S' S → B "java/lang/IllegalStateException" S') : Ki w mX7_ask yX7_ask 1 6 [xp 0 0, xi j, xi a] S A B := by
  refine K.of rfl rfl rfl rfl (Nat.le_of_ble_eq_true rfl) rfl ?_
  obtain ⟨hVT, hN20, h8, hg, hp, ho, hs⟩ := id hV
  have hn := hg.1
  have hN := hVT.1
  have ht := hVT.2.2.1
  refine xs_aload_0 eX7_ask_0 ?_
  refine g_X7_0 eX7_ask_1 lRX7_10 ?_
  refine g_X4_0 eX7_ask_4 lRX7_88 ?_
  refine xs_iload_1 eX7_ask_7 ?_
  by_cases c8 : 0 ≤ j ∧ j < (N : Int)
  · refine xbo_V10 (mi' := mX5_knownPromise) (y := yX5_knownPromise) eX7_ask_8 (xw_5 lRX7_126 wy_X5_knownPromise) rfl ⟨wd_X5_knownPromise, by decide, by decide⟩ (by decide) (fun _ => rfl) rfl (Nat.le_of_ble_eq_true rfl) rfl (kI_X5_knownPromise hN (by omega) c8 ?_)
    have hTQ := hVT.2.2.2 j.toNat (by omega)
    unfold TQ at hTQ
    refine xs_astore_3 eX7_ask_11 rfl ?_
    refine xs_iload_2 eX7_ask_12 ?_
    refine xa_iconst eX7_ask_13 ?_
    refine xa_icmp_eq (tgt := 27) eX7_ask_14 (by decide) ya (by decide) (fun c14 => ?_) (fun c14 => ?_)
    · refine xa_iconst eX7_ask_27 ?_
      refine xa_goto (tgt := 32) eX7_ask_28 (by decide) ?_
      refine xbv_S10 (mi' := mX7_checkArgument) (y := yX7_checkArgument) eX7_ask_32 (xw_4 lRX7_116 wy_X7_checkArgument) rfl rfl ⟨wd_X7_checkArgument, by decide, by decide⟩ (Nat.le_of_ble_eq_true rfl) rfl (kk_X7_checkArgument (P := True) trivial ?_)
      refine xs_aload_3 eX7_ask_35 ?_
      refine gr_X1_0 eX7_ask_36 lRX7_130 (fun r36 => ?_)
      refine xa_if_ne (tgt := 46) eX7_ask_39 (by decide) (by omega) (fun c39 => ?_) (fun c39 => ?_)
      · refine xa_iconst eX7_ask_46 ?_
        exact xbv_S1 (mi' := mX7_checkState) (y := yX7_checkState) eX7_ask_47 (xw_4 lRX7_53 wy_X7_checkState) rfl rfl ⟨wd_X7_checkState, by decide, by decide⟩ (Nat.le_of_ble_eq_true rfl) rfl ⟨by decide, by decide⟩ (kt_X7_checkState (P := False) id (xt_out rfl (hB3 S (by unfold o_ask; rw [if_pos c8, if_pos (by omega), if_neg (by omega)]) scr.rf)))
      · refine xa_iconst eX7_ask_42 ?_
        refine xa_goto (tgt := 47) eX7_ask_43 (by decide) ?_
        refine xbv_S10 (mi' := mX7_checkState) (y := yX7_checkState) eX7_ask_47 (xw_4 lRX7_53 wy_X7_checkState) rfl rfl ⟨wd_X7_checkState, by decide, by decide⟩ (Nat.le_of_ble_eq_true rfl) rfl (kk_X7_checkState (P := True) trivial ?_)
        refine xs_aload_3 eX7_ask_50 ?_
        refine gr_X1_9 eX7_ask_51 lRX7_171 (fun r51 => ?_)
        refine xs_istore_4 eX7_ask_54 rfl ?_
        refine xs_aload_3 eX7_ask_56 ?_
        refine xs_iload_2 eX7_ask_57 ?_
        refine p_X1_9 eX7_ask_58 lRX7_171 (by omega) ?_
        refine xs_iload_4 eX7_ask_61 ?_
        exact xa_iret eX7_ask_63 rfl ⟨_, rfl, by have h9 := hA; unfold o_ask at h9; rw [if_pos c8, if_pos (by omega), if_pos (by omega)] at h9; exact h9 _ rfl scr.rf⟩
    · refine xs_iload_2 eX7_ask_17 ?_
      refine xa_iconst eX7_ask_18 ?_
      refine xa_ldc (a := 99999) eX7_ask_19 lRX7_166 (by decide) ?_
      refine xbi_S30 (mi' := mX7_isWithin) (y := yX7_isWithin) eX7_ask_21 (xw_4 lRX7_167 wy_X7_isWithin) rfl rfl ⟨wd_X7_isWithin, by decide, by decide⟩ (Nat.le_of_ble_eq_true rfl) rfl (k_X7_isWithin ya (by decide) (by decide) ?_)
      refine xa_ifb_eq (tgt := 31) eX7_ask_24 (by decide) (fun c24 => ?_) (fun c24 => ?_)
      · refine xa_iconst eX7_ask_31 ?_
        exact xbv_S1 (mi' := mX7_checkArgument) (y := yX7_checkArgument) eX7_ask_32 (xw_4 lRX7_116 wy_X7_checkArgument) rfl rfl ⟨wd_X7_checkArgument, by decide, by decide⟩ (Nat.le_of_ble_eq_true rfl) rfl ⟨by decide, by decide⟩ (kt_X7_checkArgument (P := False) id (xt_out rfl (hB2 S (by unfold o_ask; rw [if_pos c8, if_neg (by omega)]) scr.rf)))
      · refine xa_iconst eX7_ask_27 ?_
        refine xa_goto (tgt := 32) eX7_ask_28 (by decide) ?_
        refine xbv_S10 (mi' := mX7_checkArgument) (y := yX7_checkArgument) eX7_ask_32 (xw_4 lRX7_116 wy_X7_checkArgument) rfl rfl ⟨wd_X7_checkArgument, by decide, by decide⟩ (Nat.le_of_ble_eq_true rfl) rfl (kk_X7_checkArgument (P := True) trivial ?_)
        refine xs_aload_3 eX7_ask_35 ?_
        refine gr_X1_0 eX7_ask_36 lRX7_130 (fun r36 => ?_)
        refine xa_if_ne (tgt := 46) eX7_ask_39 (by decide) (by omega) (fun c39 => ?_) (fun c39 => ?_)
        · refine xa_iconst eX7_ask_46 ?_
          exact xbv_S1 (mi' := mX7_checkState) (y := yX7_checkState) eX7_ask_47 (xw_4 lRX7_53 wy_X7_checkState) rfl rfl ⟨wd_X7_checkState, by decide, by decide⟩ (Nat.le_of_ble_eq_true rfl) rfl ⟨by decide, by decide⟩ (kt_X7_checkState (P := False) id (xt_out rfl (hB3 S (by unfold o_ask; rw [if_pos c8, if_pos (by omega), if_neg (by omega)]) scr.rf)))
        · refine xa_iconst eX7_ask_42 ?_
          refine xa_goto (tgt := 47) eX7_ask_43 (by decide) ?_
          refine xbv_S10 (mi' := mX7_checkState) (y := yX7_checkState) eX7_ask_47 (xw_4 lRX7_53 wy_X7_checkState) rfl rfl ⟨wd_X7_checkState, by decide, by decide⟩ (Nat.le_of_ble_eq_true rfl) rfl (kk_X7_checkState (P := True) trivial ?_)
          refine xs_aload_3 eX7_ask_50 ?_
          refine gr_X1_9 eX7_ask_51 lRX7_171 (fun r51 => ?_)
          refine xs_istore_4 eX7_ask_54 rfl ?_
          refine xs_aload_3 eX7_ask_56 ?_
          refine xs_iload_2 eX7_ask_57 ?_
          refine p_X1_9 eX7_ask_58 lRX7_171 (by omega) ?_
          refine xs_iload_4 eX7_ask_61 ?_
          exact xa_iret eX7_ask_63 rfl ⟨_, rfl, by have h9 := hA; unfold o_ask at h9; rw [if_pos c8, if_pos (by omega), if_pos (by omega)] at h9; exact h9 _ rfl scr.rf⟩
  · exact xbo_V1 (mi' := mX5_knownPromise) (y := yX5_knownPromise) eX7_ask_8 (xw_5 lRX7_126 wy_X5_knownPromise) rfl ⟨wd_X5_knownPromise, by decide, by decide⟩ (by decide) (fun _ => rfl) rfl (Nat.le_of_ble_eq_true rfl) rfl ⟨by decide, by decide⟩ (kt_X5_knownPromise hN (by omega) yj c8 (xt_out rfl (hB1 S (by unfold o_ask; rw [if_neg c8]) scr.rf)))
set_option maxHeartbeats 400000 in
theorem G_ask {w : xW} {S : xS} {B : String → xS → Prop} {A : Int → xS → Prop} {j a : Int} {n N : Nat} {T : Int} {C : xS} {M : Nat → Int} (hV : VS 0 n N T C) (hT : T ≤ 800000) (hR : Rel 0 n N C M) (yj : xr j) (ya : xr a)  (hq : ∀ r S' M', ((o_ask j a n N C).1 = 0 → r = (o_ask j a n N C).2.1) → rfr S' S → S' 30 0 4 = ((o_ask j a n N C).1 : Int) → Rel 0 (o_ask j a n N C).2.2.1 (o_ask j a n N C).2.2.2.1 (o_ask j a n N C).2.2.2.2 M' → A r (stM M' S')) : Ki w mX8_ask yX8_ask 0 0 [xp 30 0, xi j, xi a] (stM M S) A B := by
  refine K.of rfl rfl rfl rfl (Nat.le_of_ble_eq_true rfl) rfl ?_
  obtain ⟨hVT, hN20, h8, hg, hp, ho, hs⟩ := id hV
  have hn := hg.1
  have hN := hVT.1
  have ht := hVT.2.2.1
  have hM1 : M 1 = (n : Int) := by rw [hR.1 1 (by decide)]; exact hn
  have hM2 : M 2 = (N : Int) := by rw [hR.1 2 (by decide)]; exact hN
  refine xs_aload_0 eX8_ask_0 ?_
  refine xa_iconst eX8_ask_1 ?_
  refine p_X8_4 eX8_ask_2 lRX8_52 (by decide) ?_
  rw [up_stO (by decide)]
  refine xs_aload_0 eX8_ask_5 ?_
  refine xs_iload_1 eX8_ask_6 ?_
  refine xbi_V10 (mi' := mX8_isPromise) (y := yX8_isPromise) eX8_ask_7 (xw_5 lRX8_187 wy_X8_isPromise) rfl ⟨wd_X8_isPromise, by decide, by decide⟩ (by decide) (fun _ => rfl) rfl (Nat.le_of_ble_eq_true rfl) rfl (r_X8_isPromise hV hR yj ?_)
  refine xa_ifb_ne (tgt := 19) eX8_ask_10 (by decide) (fun c10 => ?_) (fun c10 => ?_)
  · refine xs_iload_2 eX8_ask_19 ?_
    refine xa_i2l eX8_ask_20 (by omega) ?_
    refine xa_ldc2 (a := (-1)) eX8_ask_21 lRX8_59 (by decide) ?_
    refine xa_ldc2 (a := 99999) eX8_ask_24 lRX8_208 (by decide) ?_
    refine xbi_S30 (mi' := mX8_isBetween) (y := yX8_isBetween) eX8_ask_27 (xw_4 lRX8_61 wy_X8_isBetween) rfl rfl ⟨wd_X8_isBetween, by decide, by decide⟩ (Nat.le_of_ble_eq_true rfl) rfl (k_X8_isBetween (by omega) (by decide) (by decide) ?_)
    refine xa_ifb_ne (tgt := 39) eX8_ask_30 (by decide) (fun c30 => ?_) (fun c30 => ?_)
    · refine xs_aload_0 eX8_ask_39 ?_
      refine xs_iload_1 eX8_ask_40 ?_
      refine xbi_V10 (mi' := mX8_hasEnded) (y := yX8_hasEnded) eX8_ask_41 (xw_5 lRX8_119 wy_X8_hasEnded) rfl ⟨wd_X8_hasEnded, by decide, by decide⟩ (by decide) (fun _ => rfl) rfl (Nat.le_of_ble_eq_true rfl) rfl (r_X8_hasEnded (j := j.toNat) hV hR (by omega) (by omega) ?_)
      refine xa_ifb_eq (tgt := 53) eX8_ask_44 (by decide) (fun c44 => ?_) (fun c44 => ?_)
      · refine xs_aload_0 eX8_ask_53 ?_
        refine xs_iload_1 eX8_ask_54 ?_
        refine xa_bipush eX8_ask_55 (by decide) ?_
        refine xbi_V20 (mi' := mX8_told0) (y := yX8_told0) eX8_ask_57 (xw_5 lRX8_122 wy_X8_told0) rfl ⟨wd_X8_told0, by decide, by decide⟩ (by decide) (fun _ => rfl) rfl (Nat.le_of_ble_eq_true rfl) rfl (r_X8_told0 (j := j.toNat) (g := 9) hR (by omega) rfl (by omega) hN20 (by decide) (by decide) (by decide) (by decide) ?_)
        refine xs_istore_3 eX8_ask_60 rfl ?_
        refine xs_aload_0 eX8_ask_61 ?_
        refine xs_iload_1 eX8_ask_62 ?_
        refine xa_bipush eX8_ask_63 (by decide) ?_
        refine xs_iload_2 eX8_ask_65 ?_
        refine xbv_V30 (mi' := mX8_keep) (y := yX8_keep) eX8_ask_66 (xw_5 lRX8_137 wy_X8_keep) rfl ⟨wd_X8_keep, by decide, by decide⟩ (by decide) (fun _ => rfl) rfl (Nat.le_of_ble_eq_true rfl) rfl (r_X8_keep (j := j.toNat) (g := 9) hR (by omega) rfl (by omega) hN20 (by decide) (by decide) (by decide) (by decide) (by omega) (fun M2 hR2 => ?_))
        refine xs_iload_3 eX8_ask_69 ?_
        exact xa_iret eX8_ask_70 rfl ⟨_, rfl, by have h9 := hq; unfold o_ask at h9; rw [if_pos c10, if_pos c30, if_pos (show C 10 (32 * 0 + j.toNat) 0 = 0 by have z := (hVT.2.2.2 j.toNat (by omega)).1; omega)] at h9; exact h9 _ _ M2 (fun _ => rfl) rfr.t (by rw [up_same]; rfl) hR2⟩
      · refine xs_aload_0 eX8_ask_47 ?_
        refine xa_iconst eX8_ask_48 ?_
        refine xbi_V10 (mi' := mX8_fail) (y := yX8_fail) eX8_ask_49 (xw_5 lRX8_89 wy_X8_fail) rfl ⟨wd_X8_fail, by decide, by decide⟩ (by decide) (fun _ => rfl) rfl (Nat.le_of_ble_eq_true rfl) rfl (k_X8_fail (by decide) ?_)
        rw [up_stO (by decide)]
        exact xa_iret eX8_ask_52 rfl ⟨_, rfl, by have h9 := hq; unfold o_ask at h9; rw [if_pos c10, if_pos c30, if_neg (by omega)] at h9; exact h9 _ _ _ (fun z => absurd z (Nat.succ_ne_zero _)) (rfr.t.tr rfr.t) (by rw [up_same]; rfl) hR⟩
    · refine xs_aload_0 eX8_ask_33 ?_
      refine xa_iconst eX8_ask_34 ?_
      refine xbi_V10 (mi' := mX8_fail) (y := yX8_fail) eX8_ask_35 (xw_5 lRX8_89 wy_X8_fail) rfl ⟨wd_X8_fail, by decide, by decide⟩ (by decide) (fun _ => rfl) rfl (Nat.le_of_ble_eq_true rfl) rfl (k_X8_fail (by decide) ?_)
      rw [up_stO (by decide)]
      exact xa_iret eX8_ask_38 rfl ⟨_, rfl, by have h9 := hq; unfold o_ask at h9; rw [if_pos c10, if_neg c30] at h9; exact h9 _ _ _ (fun z => absurd z (Nat.succ_ne_zero _)) (rfr.t.tr rfr.t) (by rw [up_same]; rfl) hR⟩
  · refine xs_aload_0 eX8_ask_13 ?_
    refine xa_iconst eX8_ask_14 ?_
    refine xbi_V10 (mi' := mX8_fail) (y := yX8_fail) eX8_ask_15 (xw_5 lRX8_89 wy_X8_fail) rfl ⟨wd_X8_fail, by decide, by decide⟩ (by decide) (fun _ => rfl) rfl (Nat.le_of_ble_eq_true rfl) rfl (k_X8_fail (by decide) ?_)
    rw [up_stO (by decide)]
    exact xa_iret eX8_ask_18 rfl ⟨_, rfl, by have h9 := hq; unfold o_ask at h9; rw [if_neg c10] at h9; exact h9 _ _ _ (fun z => absurd z (Nat.succ_ne_zero _)) (rfr.t.tr rfr.t) (by rw [up_same]; rfl) hR⟩
