/-! buying -/
abbrev canP (j q : Nat) (C : xS) : Prop := C 10 (32 * 0 + j) 9 ≠ -1 ∧ C 10 (32 * 0 + j) 1 ≠ (q : Int) ∧ C 10 (32 * 0 + j) 9 ≤ C 4 (8 * 0 + q) 0
def o_buy (j q : Int) (n N : Nat) (C : xS) : xO := if 0 ≤ j ∧ j < (N : Int) then (if 0 ≤ q ∧ q < (n : Int) then (if canP j.toNat q.toNat C then (0, C 10 (32 * 0 + j.toNat) 1, n, N, selS 0 (32 * 0 + j.toNat) q.toNat (C 10 (32 * 0 + j.toNat) 1).toNat C) else (2, 0, n, N, C)) else (1, 0, n, N, C)) else (1, 0, n, N, C)
def o_buyCheapest (q : Int) (n N : Nat) (C : xS) : xO := if 0 ≤ q ∧ q < (n : Int) then (match chpS 0 q.toNat C N with | none => (0, -1, n, N, C) | some b => (0, (b : Int), n, N, selS 0 (32 * 0 + b) q.toNat (C 10 (32 * 0 + b) 1).toNat C)) else (1, 0, n, N, C)
set_option maxHeartbeats 400000 in
theorem F_buy {w : xW} {S : xS} {B : String → xS → Prop} {A : Int → xS → Prop} {j q : Int} {n N : Nat} {T : Int} (hV : VS 0 n N T S) (hT : T ≤ 800000) (yj : xr j) (yq : xr q)  (hA : ∀ S', (o_buy j q n N S).1 = 0 → scr S' (o_buy j q n N S).2.2.2.2 → A (o_buy j q n N S).2.1 S') (hB1 : ∀ S', (o_buy j q n N S).1 = 1 → scr S' S → B "java/lang/IndexOutOfBoundsException" S') (hB2 : ∀ S', (o_buy j q n N S).1 = 2 → scr S' S → B "java/lang/IllegalStateException" S') : Ki w mX7_buy yX7_buy 1 6 [xp 0 0, xi j, xi q] S A B := by
  refine K.of rfl rfl rfl rfl (Nat.le_of_ble_eq_true rfl) rfl ?_
  obtain ⟨hVT, hN20, h8, hg, hp, ho, hs⟩ := id hV
  have hn := hg.1
  have hN := hVT.1
  have ht := hVT.2.2.1
  refine xs_aload_0 eX7_buy_0 ?_
  refine g_X7_0 eX7_buy_1 lRX7_10 ?_
  refine g_X4_0 eX7_buy_4 lRX7_88 ?_
  refine xs_iload_1 eX7_buy_7 ?_
  by_cases c8 : 0 ≤ j ∧ j < (N : Int)
  · refine xbo_V10 (mi' := mX5_knownPromise) (y := yX5_knownPromise) eX7_buy_8 (xw_5 lRX7_126 wy_X5_knownPromise) rfl ⟨wd_X5_knownPromise, by decide, by decide⟩ (by decide) (fun _ => rfl) rfl (Nat.le_of_ble_eq_true rfl) rfl (kI_X5_knownPromise hN (by omega) c8 ?_)
    refine xs_astore_3 eX7_buy_11 rfl ?_
    refine xs_aload_0 eX7_buy_12 ?_
    refine g_X7_0 eX7_buy_13 lRX7_10 ?_
    refine xs_iload_2 eX7_buy_16 ?_
    by_cases c17 : 0 ≤ q ∧ q < (n : Int)
    · refine xbo_V10 (mi' := mX4_knownProcess) (y := yX4_knownProcess) eX7_buy_17 (xw_5 lRX7_60 wy_X4_knownProcess) rfl ⟨wd_X4_knownProcess, by decide, by decide⟩ (by decide) (fun _ => rfl) rfl (Nat.le_of_ble_eq_true rfl) rfl (kI_X4_knownProcess hn h8 c17 ?_)
      have hTQ := hVT.2.2.2 j.toNat (by omega)
      unfold TQ at hTQ
      have hOQ := ho j.toNat (by omega)
      unfold OQ at hOQ
      obtain ⟨q9, rfl⟩ : ∃ q9 : Nat, q = (q9 : Int) := ⟨q.toNat, by omega⟩
      have hqn : q9 < n := by omega
      refine xa_pop eX7_buy_20 rfl ?_
      refine xs_aload_0 eX7_buy_21 ?_
      refine g_X7_0 eX7_buy_22 lRX7_10 ?_
      refine xs_aload_3 eX7_buy_25 ?_
      refine xs_iload_2 eX7_buy_26 ?_
      refine xbi_V20 (mi' := mX4_canBuy) (y := yX4_canBuy) eX7_buy_27 (xw_5 lRX7_174 wy_X4_canBuy) rfl ⟨wd_X4_canBuy, by decide, by decide⟩ (by decide) (fun _ => rfl) rfl (Nat.le_of_ble_eq_true rfl) rfl (k_X4_canBuy hn h8 hqn ?_)
      rw [show b2i (S 10 (32 * 0 + j.toNat) 9 ≠ -1 ∧ S 10 (32 * 0 + j.toNat) 1 ≠ (q9 : Int) ∧ S 10 (32 * 0 + j.toNat) 9 ≤ S 4 (8 * 0 + q9) 0) = b2i (canP j.toNat q9 S) from rfl]
      by_cases c30 : canP j.toNat q9 S
      · refine xbv_S10 (mi' := mX7_checkState) (y := yX7_checkState) eX7_buy_30 (xw_4 lRX7_53 wy_X7_checkState) rfl rfl ⟨wd_X7_checkState, by decide, by decide⟩ (Nat.le_of_ble_eq_true rfl) rfl (kk_X7_checkState c30 ?_)
        have c30b := id c30
        unfold canP at c30b
        obtain ⟨o9, eo⟩ : ∃ o9 : Nat, S 10 (32 * 0 + j.toNat) 1 = (o9 : Int) := ⟨(S 10 (32 * 0 + j.toNat) 1).toNat, by omega⟩
        refine xs_aload_3 eX7_buy_33 ?_
        refine gr_X1_1 eX7_buy_34 lRX7_178 (fun r34 => ?_)
        refine xs_istore_4 eX7_buy_37 rfl ?_
        refine xs_aload_0 eX7_buy_39 ?_
        refine g_X7_0 eX7_buy_40 lRX7_10 ?_
        refine xs_aload_3 eX7_buy_43 ?_
        refine xs_iload_2 eX7_buy_44 ?_
        refine xbv_V20 (mi' := mX4_sell) (y := yX4_sell) eX7_buy_45 (xw_5 lRX7_181 wy_X4_sell) rfl ⟨wd_X4_sell, by decide, by decide⟩ (by decide) (fun _ => rfl) rfl (Nat.le_of_ble_eq_true rfl) rfl (f_X4_sell (o := o9) hV (by omega) (by omega) hqn (by omega) c30.2.2 eo (by intro z; exact c30.2.1 (by rw [eo, z])) ?_)
        refine xs_iload_4 eX7_buy_48 ?_
        exact xa_iret eX7_buy_50 rfl ⟨_, rfl, by have h9 := hA; unfold o_buy at h9; rw [if_pos c8, if_pos c17, if_pos (show canP j.toNat ((q9 : Int)).toNat S from c30), eo] at h9; rw [eo]; exact h9 _ rfl scr.rf⟩
      · exact xbv_S1 (mi' := mX7_checkState) (y := yX7_checkState) eX7_buy_30 (xw_4 lRX7_53 wy_X7_checkState) rfl rfl ⟨wd_X7_checkState, by decide, by decide⟩ (Nat.le_of_ble_eq_true rfl) rfl ⟨by decide, by decide⟩ (kt_X7_checkState c30 (xt_out rfl (hB2 S (by unfold o_buy; rw [if_pos c8, if_pos c17, if_neg (show ¬ canP j.toNat ((q9 : Int)).toNat S from c30)]) scr.rf)))
    · exact xbo_V1 (mi' := mX4_knownProcess) (y := yX4_knownProcess) eX7_buy_17 (xw_5 lRX7_60 wy_X4_knownProcess) rfl ⟨wd_X4_knownProcess, by decide, by decide⟩ (by decide) (fun _ => rfl) rfl (Nat.le_of_ble_eq_true rfl) rfl ⟨by decide, by decide⟩ (kt_X4_knownProcess hn h8 yq c17 (xt_out rfl (hB1 S (by unfold o_buy; rw [if_pos c8, if_neg c17]) scr.rf)))
  · exact xbo_V1 (mi' := mX5_knownPromise) (y := yX5_knownPromise) eX7_buy_8 (xw_5 lRX7_126 wy_X5_knownPromise) rfl ⟨wd_X5_knownPromise, by decide, by decide⟩ (by decide) (fun _ => rfl) rfl (Nat.le_of_ble_eq_true rfl) rfl ⟨by decide, by decide⟩ (kt_X5_knownPromise hN (by omega) yj c8 (xt_out rfl (hB1 S (by unfold o_buy; rw [if_neg c8]) scr.rf)))
