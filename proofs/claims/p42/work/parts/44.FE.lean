/-! rules, figures, asking prices -/
def o_setRules (p f : Int) (n N : Nat) (C : xS) : xO := if 0 ≤ p ∧ p ≤ 99 then (if 0 ≤ f ∧ f ≤ 50 then (0, 0, n, N, up (up C 1 0 4 p) 1 0 5 f) else (1, 0, n, N, C)) else (1, 0, n, N, C)
def o_count (a : Int) (n N : Nat) (C : xS) : xO := if 0 ≤ a ∧ a ≤ 12 then (0, figS 0 N C a.toNat, n, N, C) else (1, 0, n, N, C)
def o_bank (n N : Nat) (C : xS) : xO := (0, C 1 0 6, n, N, C)
def o_sales (p q : Int) (n N : Nat) (C : xS) : xO := if 0 ≤ p ∧ p < (n : Int) then (if 0 ≤ q ∧ q < (n : Int) then (0, C 25 0 (8 * p.toNat + q.toNat), n, N, C) else (1, 0, n, N, C)) else (1, 0, n, N, C)
def parS (i : Nat) (C : xS) : Int := sm (fun j => if 0 < C 25 0 j then 1 else 0) i
def o_partners (n N : Nat) (C : xS) : xO := (0, parS 64 C, n, N, C)
def o_ask (j a : Int) (n N : Nat) (C : xS) : xO := if 0 ≤ j ∧ j < (N : Int) then (if -1 ≤ a ∧ a ≤ 99999 then (if C 10 (32 * 0 + j.toNat) 0 = 0 then (0, C 10 (32 * 0 + j.toNat) 9, n, N, up C 10 (32 * 0 + j.toNat) 9 a) else (3, 0, n, N, C)) else (2, 0, n, N, C)) else (1, 0, n, N, C)
set_option maxHeartbeats 400000 in
theorem F_setRules {w : xW} {S : xS} {B : String → xS → Prop} {A : xS → Prop} {p f : Int} {n N : Nat} {T : Int} (hV : VS 0 n N T S) (hT : T ≤ 800000) (yp : xr p) (yf : xr f)  (hA : ∀ S', (o_setRules p f n N S).1 = 0 → scr S' (o_setRules p f n N S).2.2.2.2 → A S') (hB1 : ∀ S', (o_setRules p f n N S).1 = 1 → scr S' S → B "java/lang/IllegalArgumentException" S') : Kv w mX7_setRules yX7_setRules 1 6 [xp 0 0, xi p, xi f] S A B := by
  refine K.of rfl rfl rfl rfl (Nat.le_of_ble_eq_true rfl) rfl ?_
  obtain ⟨hVT, hN20, h8, hg, hp, ho, hs⟩ := id hV
  have hn := hg.1
  have hN := hVT.1
  have ht := hVT.2.2.1
  refine xs_iload_1 eX7_setRules_0 ?_
  refine xa_iconst eX7_setRules_1 ?_
  refine xa_bipush eX7_setRules_2 (by decide) ?_
  by_cases c4 : 0 ≤ p ∧ p ≤ 99
  · refine xbv_S30 (mi' := mX7_checkRange) (y := yX7_checkRange) eX7_setRules_4 (xw_4 lRX7_45 wy_X7_checkRange) rfl rfl ⟨wd_X7_checkRange, by decide, by decide⟩ (Nat.le_of_ble_eq_true rfl) rfl (kk_X7_checkRange yp (by decide) (by decide) c4 ?_)
    refine xs_iload_2 eX7_setRules_7 ?_
    refine xa_iconst eX7_setRules_8 ?_
    refine xa_bipush eX7_setRules_9 (by decide) ?_
    by_cases c11 : 0 ≤ f ∧ f ≤ 50
    · refine xbv_S30 (mi' := mX7_checkRange) (y := yX7_checkRange) eX7_setRules_11 (xw_4 lRX7_45 wy_X7_checkRange) rfl rfl ⟨wd_X7_checkRange, by decide, by decide⟩ (Nat.le_of_ble_eq_true rfl) rfl (kk_X7_checkRange yf (by decide) (by decide) c11 ?_)
      refine xs_aload_0 eX7_setRules_14 ?_
      refine g_X7_0 eX7_setRules_15 lRX7_10 ?_
      refine xs_iload_1 eX7_setRules_18 ?_
      refine p_X4_4 eX7_setRules_19 lRX7_209 (by omega) ?_
      refine xs_aload_0 eX7_setRules_22 ?_
      refine g_X7_0 eX7_setRules_23 lRX7_10 ?_
      refine xs_iload_2 eX7_setRules_26 ?_
      refine p_X4_5 eX7_setRules_27 lRX7_212 (by omega) ?_
      exact xa_vret eX7_setRules_30 rfl ⟨rfl, by have h9 := hA; unfold o_setRules at h9; rw [if_pos c4, if_pos c11] at h9; exact h9 _ rfl scr.rf⟩
    · exact xbv_S3 (mi' := mX7_checkRange) (y := yX7_checkRange) eX7_setRules_11 (xw_4 lRX7_45 wy_X7_checkRange) rfl rfl ⟨wd_X7_checkRange, by decide, by decide⟩ (Nat.le_of_ble_eq_true rfl) rfl ⟨by decide, by decide⟩ (kt_X7_checkRange yf (by decide) (by decide) c11 (xt_out rfl (hB1 S (by unfold o_setRules; rw [if_pos c4, if_neg c11]) scr.rf)))
  · exact xbv_S3 (mi' := mX7_checkRange) (y := yX7_checkRange) eX7_setRules_4 (xw_4 lRX7_45 wy_X7_checkRange) rfl rfl ⟨wd_X7_checkRange, by decide, by decide⟩ (Nat.le_of_ble_eq_true rfl) rfl ⟨by decide, by decide⟩ (kt_X7_checkRange yp (by decide) (by decide) c4 (xt_out rfl (hB1 S (by unfold o_setRules; rw [if_neg c4]) scr.rf)))
set_option maxHeartbeats 400000 in
theorem F_count {w : xW} {S : xS} {B : String → xS → Prop} {A : Int → xS → Prop} {a : Int} {n N : Nat} {T : Int} (hV : VS 0 n N T S) (hT : T ≤ 800000) (ya : xr a)  (hA : ∀ S', (o_count a n N S).1 = 0 → scr S' (o_count a n N S).2.2.2.2 → A (o_count a n N S).2.1 S') (hB1 : ∀ S', (o_count a n N S).1 = 1 → scr S' S → B "java/lang/IllegalArgumentException" S') : Ki w mX7_count yX7_count 1 6 [xp 0 0, xi a] S A B := by
  refine K.of rfl rfl rfl rfl (Nat.le_of_ble_eq_true rfl) rfl ?_
  obtain ⟨hVT, hN20, h8, hg, hp, ho, hs⟩ := id hV
  have hn := hg.1
  have hN := hVT.1
  have ht := hVT.2.2.1
  refine xs_iload_1 eX7_count_0 ?_
  refine xa_iconst eX7_count_1 ?_
  refine xa_bipush eX7_count_2 (by decide) ?_
  by_cases c4 : 0 ≤ a ∧ a ≤ 12
  · refine xbv_S30 (mi' := mX7_checkRange) (y := yX7_checkRange) eX7_count_4 (xw_4 lRX7_45 wy_X7_checkRange) rfl rfl ⟨wd_X7_checkRange, by decide, by decide⟩ (Nat.le_of_ble_eq_true rfl) rfl (kk_X7_checkRange ya (by decide) (by decide) c4 ?_)
    refine xs_aload_0 eX7_count_7 ?_
    refine g_X7_0 eX7_count_8 lRX7_10 ?_
    refine xs_iload_1 eX7_count_11 ?_
    refine xbi_V10 (mi' := mX4_figure) (y := yX4_figure) eX7_count_12 (xw_5 lRX7_215 wy_X4_figure) rfl ⟨wd_X4_figure, by decide, by decide⟩ (by decide) (fun _ => rfl) rfl (Nat.le_of_ble_eq_true rfl) rfl (f_X4_figure (s := 0) (by omega) hN (by omega) ?_)
    exact xa_iret eX7_count_15 rfl ⟨_, rfl, by have h9 := hA; unfold o_count at h9; rw [if_pos c4] at h9; exact h9 _ rfl scr.rf⟩
  · exact xbv_S3 (mi' := mX7_checkRange) (y := yX7_checkRange) eX7_count_4 (xw_4 lRX7_45 wy_X7_checkRange) rfl rfl ⟨wd_X7_checkRange, by decide, by decide⟩ (Nat.le_of_ble_eq_true rfl) rfl ⟨by decide, by decide⟩ (kt_X7_checkRange ya (by decide) (by decide) c4 (xt_out rfl (hB1 S (by unfold o_count; rw [if_neg c4]) scr.rf)))
set_option maxHeartbeats 400000 in
theorem F_bank {w : xW} {S : xS} {B : String → xS → Prop} {A : Int → xS → Prop} {n N : Nat} {T : Int} (hV : VS 0 n N T S) (hT : T ≤ 800000)   (hA : ∀ S', (o_bank n N S).1 = 0 → scr S' (o_bank n N S).2.2.2.2 → A (o_bank n N S).2.1 S') : Kl w mX7_bank yX7_bank 0 0 [xp 0 0] S A B := by
  refine K.of rfl rfl rfl rfl (Nat.le_of_ble_eq_true rfl) rfl ?_
  obtain ⟨hVT, hN20, h8, hg, hp, ho, hs⟩ := id hV
  have hn := hg.1
  have hN := hVT.1
  have ht := hVT.2.2.1
  refine xs_aload_0 eX7_bank_0 ?_
  refine g_X7_0 eX7_bank_1 lRX7_10 ?_
  refine gr_X4_6 eX7_bank_4 lRX7_216 (fun r4 => ?_)
  exact xa_lret eX7_bank_7 rfl ⟨_, rfl, by have h9 := hA; unfold o_bank at h9; exact h9 _ rfl scr.rf⟩
set_option maxHeartbeats 400000 in
theorem F_sales {w : xW} {S : xS} {B : String → xS → Prop} {A : Int → xS → Prop} {p q : Int} {n N : Nat} {T : Int} (hV : VS 0 n N T S) (hT : T ≤ 800000) (yp : xr p) (yq : xr q)  (hA : ∀ S', (o_sales p q n N S).1 = 0 → scr S' (o_sales p q n N S).2.2.2.2 → A (o_sales p q n N S).2.1 S') (hB1 : ∀ S', (o_sales p q n N S).1 = 1 → scr S' S → B "java/lang/IndexOutOfBoundsException" S') : Ki w mX7_sales yX7_sales 1 6 [xp 0 0, xi p, xi q] S A B := by
  refine K.of rfl rfl rfl rfl (Nat.le_of_ble_eq_true rfl) rfl ?_
  obtain ⟨hVT, hN20, h8, hg, hp, ho, hs⟩ := id hV
  have hn := hg.1
  have hN := hVT.1
  have ht := hVT.2.2.1
  refine xs_aload_0 eX7_sales_0 ?_
  refine g_X7_0 eX7_sales_1 lRX7_10 ?_
  refine xs_iload_1 eX7_sales_4 ?_
  by_cases c5 : 0 ≤ p ∧ p < (n : Int)
  · refine xbo_V10 (mi' := mX4_knownProcess) (y := yX4_knownProcess) eX7_sales_5 (xw_5 lRX7_60 wy_X4_knownProcess) rfl ⟨wd_X4_knownProcess, by decide, by decide⟩ (by decide) (fun _ => rfl) rfl (Nat.le_of_ble_eq_true rfl) rfl (kI_X4_knownProcess hn h8 c5 ?_)
    refine xa_pop eX7_sales_8 rfl ?_
    refine xs_aload_0 eX7_sales_9 ?_
    refine g_X7_0 eX7_sales_10 lRX7_10 ?_
    refine xs_iload_2 eX7_sales_13 ?_
    by_cases c14 : 0 ≤ q ∧ q < (n : Int)
    · refine xbo_V10 (mi' := mX4_knownProcess) (y := yX4_knownProcess) eX7_sales_14 (xw_5 lRX7_60 wy_X4_knownProcess) rfl ⟨wd_X4_knownProcess, by decide, by decide⟩ (by decide) (fun _ => rfl) rfl (Nat.le_of_ble_eq_true rfl) rfl (kI_X4_knownProcess hn h8 c14 ?_)
      obtain ⟨p9, rfl⟩ : ∃ p9 : Nat, p = (p9 : Int) := ⟨p.toNat, by omega⟩
      obtain ⟨q9, rfl⟩ : ∃ q9 : Nat, q = (q9 : Int) := ⟨q.toNat, by omega⟩
      refine xa_pop eX7_sales_17 rfl ?_
      refine xs_aload_0 eX7_sales_18 ?_
      refine g_X7_0 eX7_sales_19 lRX7_10 ?_
      refine g_X4_2 eX7_sales_22 lRX7_193 ?_
      refine xs_iload_1 eX7_sales_25 ?_
      refine xs_iload_2 eX7_sales_26 ?_
      refine xbi_V20 (mi' := mX2_countBetween) (y := yX2_countBetween) eX7_sales_27 (xw_5 lRX7_197 wy_X2_countBetween) rfl ⟨wd_X2_countBetween, by decide, by decide⟩ (by decide) (fun _ => rfl) rfl (Nat.le_of_ble_eq_true rfl) rfl (k_X2_countBetween (by omega) (by omega) ?_)
      exact xa_iret eX7_sales_30 rfl ⟨_, rfl, by have h9 := hA; unfold o_sales at h9; rw [if_pos c5, if_pos c14] at h9; exact h9 _ rfl scr.rf⟩
    · exact xbo_V1 (mi' := mX4_knownProcess) (y := yX4_knownProcess) eX7_sales_14 (xw_5 lRX7_60 wy_X4_knownProcess) rfl ⟨wd_X4_knownProcess, by decide, by decide⟩ (by decide) (fun _ => rfl) rfl (Nat.le_of_ble_eq_true rfl) rfl ⟨by decide, by decide⟩ (kt_X4_knownProcess hn h8 yq c14 (xt_out rfl (hB1 S (by unfold o_sales; rw [if_pos c5, if_neg c14]) scr.rf)))
  · exact xbo_V1 (mi' := mX4_knownProcess) (y := yX4_knownProcess) eX7_sales_5 (xw_5 lRX7_60 wy_X4_knownProcess) rfl ⟨wd_X4_knownProcess, by decide, by decide⟩ (by decide) (fun _ => rfl) rfl (Nat.le_of_ble_eq_true rfl) rfl ⟨by decide, by decide⟩ (kt_X4_knownProcess hn h8 yp c5 (xt_out rfl (hB1 S (by unfold o_sales; rw [if_neg c5]) scr.rf)))
set_option maxHeartbeats 400000 in
theorem F_partners {w : xW} {S : xS} {B : String → xS → Prop} {A : Int → xS → Prop} {n N : Nat} {T : Int} (hV : VS 0 n N T S) (hT : T ≤ 800000)   (hA : ∀ S', (o_partners n N S).1 = 0 → scr S' (o_partners n N S).2.2.2.2 → A (o_partners n N S).2.1 S') : Ki w mX7_partners yX7_partners 0 0 [xp 0 0] S A B := by
  refine K.of rfl rfl rfl rfl (Nat.le_of_ble_eq_true rfl) rfl ?_
  obtain ⟨hVT, hN20, h8, hg, hp, ho, hs⟩ := id hV
  have hn := hg.1
  have hN := hVT.1
  have ht := hVT.2.2.1
  refine xs_aload_0 eX7_partners_0 ?_
  refine g_X7_0 eX7_partners_1 lRX7_10 ?_
  refine g_X4_2 eX7_partners_4 lRX7_193 ?_
  refine xbi_V00 (mi' := mX2_countPairs) (y := yX2_countPairs) eX7_partners_7 (xw_5 lRX7_202 wy_X2_countPairs) rfl ⟨wd_X2_countPairs, by decide, by decide⟩ (by decide) (fun _ => rfl) rfl (Nat.le_of_ble_eq_true rfl) rfl (k_X2_countPairs ?_)
  exact xa_iret eX7_partners_10 rfl ⟨_, rfl, by have h9 := hA; unfold o_partners at h9; exact h9 _ rfl scr.rf⟩
set_option maxHeartbeats 400000 in
theorem F_ask {w : xW} {S : xS} {B : String → xS → Prop} {A : Int → xS → Prop} {j a : Int} {n N : Nat} {T : Int} (hV : VS 0 n N T S) (hT : T ≤ 800000) (yj : xr j) (ya : xr a)  (hA : ∀ S', (o_ask j a n N S).1 = 0 → scr S' (o_ask j a n N S).2.2.2.2 → A (o_ask j a n N S).2.1 S') (hB1 : ∀ S', (o_ask j a n N S).1 = 1 → scr S' S → B "java/lang/IndexOutOfBoundsException" S') (hB2 : ∀ S', (o_ask j a n N S).1 = 2 → scr S' S → B "java/lang/IllegalArgumentException" S') (hB3 : ∀ S', (o_ask j a n N S).1 = 3 → scr S' S → B "java/lang/IllegalStateException" S') : Ki w mX7_ask yX7_ask 1 6 [xp 0 0, xi j, xi a] S A B := by
  refine K.of rfl rfl rfl rfl (Nat.le_of_ble_eq_true rfl) rfl ?_
  obtain ⟨hVT, hN20, h8, hg, hp, ho, hs⟩ := id hV
  have hn := hg.1
  have hN := hVT.1
  have ht := hVT.2.2.1
  refine xs_aload_0 eX7_ask_0 ?_
  refine g_X7_0 eX7_ask_1 lRX7_10 ?_
  refine g_X4_0 eX7_ask_4 lRX7_88 ?_
  refine xs_iload_1 eX7_ask_7 ?_
  by_cases c8 : 0 ≤ j ∧ j < (N : Int)
  · refine xbo_V10 (mi' := mX5_knownPromise) (y := yX5_knownPromise) eX7_ask_8 (xw_5 lRX7_126 wy_X5_knownPromise) rfl ⟨wd_X5_knownPromise, by decide, by decide⟩ (by decide) (fun _ => rfl) rfl (Nat.le_of_ble_eq_true rfl) rfl (kI_X5_knownPromise hN (by omega) c8 ?_)
    have hTQ := hVT.2.2.2 j.toNat (by omega)
    unfold TQ at hTQ
    refine xs_astore_3 eX7_ask_11 rfl ?_
    refine xs_iload_2 eX7_ask_12 ?_
    refine xa_iconst eX7_ask_13 ?_
    refine xa_icmp_eq (tgt := 27) eX7_ask_14 (by decide) ya (by decide) (fun c14 => ?_) (fun c14 => ?_)
    · refine xa_iconst eX7_ask_27 ?_
      refine xa_goto (tgt := 32) eX7_ask_28 (by decide) ?_
      refine xbv_S10 (mi' := mX7_checkArgument) (y := yX7_checkArgument) eX7_ask_32 (xw_4 lRX7_116 wy_X7_checkArgument) rfl rfl ⟨wd_X7_checkArgument, by decide, by decide⟩ (Nat.le_of_ble_eq_true rfl) rfl (kk_X7_checkArgument (P := True) trivial ?_)
      refine xs_aload_3 eX7_ask_35 ?_
      refine gr_X1_0 eX7_ask_36 lRX7_130 (fun r36 => ?_)
      refine xa_if_ne (tgt := 46) eX7_ask_39 (by decide) (by omega) (fun c39 => ?_) (fun c39 => ?_)
      · refine xa_iconst eX7_ask_46 ?_
        exact xbv_S1 (mi' := mX7_checkState) (y := yX7_checkState) eX7_ask_47 (xw_4 lRX7_53 wy_X7_checkState) rfl rfl ⟨wd_X7_checkState, by decide, by decide⟩ (Nat.le_of_ble_eq_true rfl) rfl ⟨by decide, by decide⟩ (kt_X7_checkState (P := False) id (xt_out rfl (hB3 S (by unfold o_ask; rw [if_pos c8, if_pos (by omega), if_neg (by omega)]) scr.rf)))
      · refine xa_iconst eX7_ask_42 ?_
        refine xa_goto (tgt := 47) eX7_ask_43 (by decide) ?_
        refine xbv_S10 (mi' := mX7_checkState) (y := yX7_checkState) eX7_ask_47 (xw_4 lRX7_53 wy_X7_checkState) rfl rfl ⟨wd_X7_checkState, by decide, by decide⟩ (Nat.le_of_ble_eq_true rfl) rfl (kk_X7_checkState (P := True) trivial ?_)
        refine xs_aload_3 eX7_ask_50 ?_
        refine gr_X1_9 eX7_ask_51 lRX7_171 (fun r51 => ?_)
        refine xs_istore_4 eX7_ask_54 rfl ?_
        refine xs_aload_3 eX7_ask_56 ?_
        refine xs_iload_2 eX7_ask_57 ?_
        refine p_X1_9 eX7_ask_58 lRX7_171 (by omega) ?_
        refine xs_iload_4 eX7_ask_61 ?_
        exact xa_iret eX7_ask_63 rfl ⟨_, rfl, by have h9 := hA; unfold o_ask at h9; rw [if_pos c8, if_pos (by omega), if_pos (by omega)] at h9; exact h9 _ rfl scr.rf⟩
    · refine xs_iload_2 eX7_ask_17 ?_
      refine xa_iconst eX7_ask_18 ?_
      refine xa_ldc (a := 99999) eX7_ask_19 lRX7_166 (by decide) ?_
      refine xbi_S30 (mi' := mX7_isWithin) (y := yX7_isWithin) eX7_ask_21 (xw_4 lRX7_167 wy_X7_isWithin) rfl rfl ⟨wd_X7_isWithin, by decide, by decide⟩ (Nat.le_of_ble_eq_true rfl) rfl (k_X7_isWithin ya (by decide) (by decide) ?_)
      refine xa_ifb_eq (tgt := 31) eX7_ask_24 (by decide) (fun c24 => ?_) (fun c24 => ?_)
      · refine xa_iconst eX7_ask_31 ?_
        exact xbv_S1 (mi' := mX7_checkArgument) (y := yX7_checkArgument) eX7_ask_32 (xw_4 lRX7_116 wy_X7_checkArgument) rfl rfl ⟨wd_X7_checkArgument, by decide, by decide⟩ (Nat.le_of_ble_eq_true rfl) rfl ⟨by decide, by decide⟩ (kt_X7_checkArgument (P := False) id (xt_out rfl (hB2 S (by unfold o_ask; rw [if_pos c8, if_neg (by omega)]) scr.rf)))
      · refine xa_iconst eX7_ask_27 ?_
        refine xa_goto (tgt := 32) eX7_ask_28 (by decide) ?_
        refine xbv_S10 (mi' := mX7_checkArgument) (y := yX7_checkArgument) eX7_ask_32 (xw_4 lRX7_116 wy_X7_checkArgument) rfl rfl ⟨wd_X7_checkArgument, by decide, by decide⟩ (Nat.le_of_ble_eq_true rfl) rfl (kk_X7_checkArgument (P := True) trivial ?_)
        refine xs_aload_3 eX7_ask_35 ?_
        refine gr_X1_0 eX7_ask_36 lRX7_130 (fun r36 => ?_)
        refine xa_if_ne (tgt := 46) eX7_ask_39 (by decide) (by omega) (fun c39 => ?_) (fun c39 => ?_)
        · refine xa_iconst eX7_ask_46 ?_
          exact xbv_S1 (mi' := mX7_checkState) (y := yX7_checkState) eX7_ask_47 (xw_4 lRX7_53 wy_X7_checkState) rfl rfl ⟨wd_X7_checkState, by decide, by decide⟩ (Nat.le_of_ble_eq_true rfl) rfl ⟨by decide, by decide⟩ (kt_X7_checkState (P := False) id (xt_out rfl (hB3 S (by unfold o_ask; rw [if_pos c8, if_pos (by omega), if_neg (by omega)]) scr.rf)))
        · refine xa_iconst eX7_ask_42 ?_
          refine xa_goto (tgt := 47) eX7_ask_43 (by decide) ?_
          refine xbv_S10 (mi' := mX7_checkState) (y := yX7_checkState) eX7_ask_47 (xw_4 lRX7_53 wy_X7_checkState) rfl rfl ⟨wd_X7_checkState, by decide, by decide⟩ (Nat.le_of_ble_eq_true rfl) rfl (kk_X7_checkState (P := True) trivial ?_)
          refine xs_aload_3 eX7_ask_50 ?_
          refine gr_X1_9 eX7_ask_51 lRX7_171 (fun r51 => ?_)
          refine xs_istore_4 eX7_ask_54 rfl ?_
          refine xs_aload_3 eX7_ask_56 ?_
          refine xs_iload_2 eX7_ask_57 ?_
          refine p_X1_9 eX7_ask_58 lRX7_171 (by omega) ?_
          refine xs_iload_4 eX7_ask_61 ?_
          exact xa_iret eX7_ask_63 rfl ⟨_, rfl, by have h9 := hA; unfold o_ask at h9; rw [if_pos c8, if_pos (by omega), if_pos (by omega)] at h9; exact h9 _ rfl scr.rf⟩
  · exact xbo_V1 (mi' := mX5_knownPromise) (y := yX5_knownPromise) eX7_ask_8 (xw_5 lRX7_126 wy_X5_knownPromise) rfl ⟨wd_X5_knownPromise, by decide, by decide⟩ (by decide) (fun _ => rfl) rfl (Nat.le_of_ble_eq_true rfl) rfl ⟨by decide, by decide⟩ (kt_X5_knownPromise hN (by omega) yj c8 (xt_out rfl (hB1 S (by unfold o_ask; rw [if_neg c8]) scr.rf)))
