/-! the cheapest promise, leases -/
set_option maxHeartbeats 400000 in
theorem F_buyCheapest {w : xW} {S : xS} {B : String → xS → Prop} {A : Int → xS → Prop} {q : Int} {n N : Nat} {T : Int} (hV : VS 0 n N T S) (hT : T ≤ 800000) (yq : xr q)  (hA : ∀ S', (o_buyCheapest q n N S).1 = 0 → scr S' (o_buyCheapest q n N S).2.2.2.2 → A (o_buyCheapest q n N S).2.1 S') (hB1 : ∀ S', (o_buyCheapest q n N S).1 = 1 → scr S' S → B "java/lang/IndexOutOfBoundsException" S') : Ki w mX7_buyCheapest yX7_buyCheapest 1 6 [xp 0 0, xi q] S A B := by
  refine K.of rfl rfl rfl rfl (Nat.le_of_ble_eq_true rfl) rfl ?_
  obtain ⟨hVT, hN20, h8, hg, hp, ho, hs⟩ := id hV
  have hn := hg.1
  have hN := hVT.1
  have ht := hVT.2.2.1
  refine xs_aload_0 eX7_buyCheapest_0 ?_
  refine g_X7_0 eX7_buyCheapest_1 lRX7_10 ?_
  refine xs_iload_1 eX7_buyCheapest_4 ?_
  by_cases c5 : 0 ≤ q ∧ q < (n : Int)
  · refine xbo_V10 (mi' := mX4_knownProcess) (y := yX4_knownProcess) eX7_buyCheapest_5 (xw_5 lRX7_60 wy_X4_knownProcess) rfl ⟨wd_X4_knownProcess, by decide, by decide⟩ (by decide) (fun _ => rfl) rfl (Nat.le_of_ble_eq_true rfl) rfl (kI_X4_knownProcess hn h8 c5 ?_)
    obtain ⟨q9, rfl⟩ : ∃ q9 : Nat, q = (q9 : Int) := ⟨q.toNat, by omega⟩
    have hqn : q9 < n := by omega
    refine xa_pop eX7_buyCheapest_8 rfl ?_
    refine xs_aload_0 eX7_buyCheapest_9 ?_
    refine g_X7_0 eX7_buyCheapest_10 lRX7_10 ?_
    refine xs_iload_1 eX7_buyCheapest_13 ?_
    refine xbi_V10 (mi' := mX4_cheapestFor) (y := yX4_cheapestFor) eX7_buyCheapest_14 (xw_5 lRX7_184 wy_X4_cheapestFor) rfl ⟨wd_X4_cheapestFor, by decide, by decide⟩ (by decide) (fun _ => rfl) rfl (Nat.le_of_ble_eq_true rfl) rfl (f_X4_cheapestFor (s := 0) hn h8 hN (by omega) hqn (fun eb => ?_) (fun b eb => ?_))
    · refine xs_istore_2 eX7_buyCheapest_17 rfl ?_
      refine xs_iload_2 eX7_buyCheapest_18 ?_
      refine xa_iconst eX7_buyCheapest_19 ?_
      refine xa_icmp_eq (tgt := 42) eX7_buyCheapest_20 (by decide) (by omega) (by decide) (fun c20 => ?_) (fun c20 => ?_)
      · refine xs_iload_2 eX7_buyCheapest_42 ?_
        exact xa_iret eX7_buyCheapest_43 rfl ⟨_, rfl, by have h9 := hA; unfold o_buyCheapest at h9; rw [if_pos c5, Int.toNat_natCast, eb] at h9; exact h9 _ rfl scr.rf⟩
      · exact absurd rfl c20
    · have hlt := chpS_lt eb
      have hOb := ho b hlt.1
      unfold OQ at hOb
      obtain ⟨o9, eo⟩ : ∃ o9 : Nat, S 10 (32 * 0 + b) 1 = (o9 : Int) := ⟨(S 10 (32 * 0 + b) 1).toNat, by omega⟩
      refine xs_istore_2 eX7_buyCheapest_17 rfl ?_
      refine xs_iload_2 eX7_buyCheapest_18 ?_
      refine xa_iconst eX7_buyCheapest_19 ?_
      refine xa_icmp_eq (tgt := 42) eX7_buyCheapest_20 (by decide) (by omega) (by decide) (fun c20 => ?_) (fun c20 => ?_)
      · exact absurd c20 (by omega)
      · refine xs_aload_0 eX7_buyCheapest_23 ?_
        refine g_X7_0 eX7_buyCheapest_24 lRX7_10 ?_
        refine xs_aload_0 eX7_buyCheapest_27 ?_
        refine g_X7_0 eX7_buyCheapest_28 lRX7_10 ?_
        refine g_X4_0 eX7_buyCheapest_31 lRX7_88 ?_
        refine xs_iload_2 eX7_buyCheapest_34 ?_
        refine xbo_V10 (mi' := mX5_knownPromise) (y := yX5_knownPromise) eX7_buyCheapest_35 (xw_5 lRX7_126 wy_X5_knownPromise) rfl ⟨wd_X5_knownPromise, by decide, by decide⟩ (by decide) (fun _ => rfl) rfl (Nat.le_of_ble_eq_true rfl) rfl (kI_X5_knownPromise hN (by omega) (by omega) ?_)
        rw [Int.toNat_natCast]
        refine xs_iload_1 eX7_buyCheapest_38 ?_
        refine xbv_V20 (mi' := mX4_sell) (y := yX4_sell) eX7_buyCheapest_39 (xw_5 lRX7_181 wy_X4_sell) rfl ⟨wd_X4_sell, by decide, by decide⟩ (by decide) (fun _ => rfl) rfl (Nat.le_of_ble_eq_true rfl) rfl (f_X4_sell (o := o9) hV (by omega) hlt.1 hqn (by omega) hlt.2.2.2 eo (by intro z; exact hlt.2.2.1 (by rw [eo, z])) ?_)
        refine xs_iload_2 eX7_buyCheapest_42 ?_
        exact xa_iret eX7_buyCheapest_43 rfl ⟨_, rfl, by have h9 := hA; unfold o_buyCheapest at h9; rw [if_pos c5, Int.toNat_natCast, eb] at h9; dsimp only at h9; rw [eo, Int.toNat_natCast] at h9; exact h9 _ rfl scr.rf⟩
  · exact xbo_V1 (mi' := mX4_knownProcess) (y := yX4_knownProcess) eX7_buyCheapest_5 (xw_5 lRX7_60 wy_X4_knownProcess) rfl ⟨wd_X4_knownProcess, by decide, by decide⟩ (by decide) (fun _ => rfl) rfl (Nat.le_of_ble_eq_true rfl) rfl ⟨by decide, by decide⟩ (kt_X4_knownProcess hn h8 yq c5 (xt_out rfl (hB1 S (by unfold o_buyCheapest; rw [if_neg c5]) scr.rf)))
abbrev leaP (j q : Nat) (c : Int) (C : xS) : Prop := C 10 (32 * 0 + j) 0 = 0 ∧ C 10 (32 * 0 + j) 11 = 0 ∧ C 10 (32 * 0 + j) 1 ≠ (q : Int) ∧ c ≤ C 4 (8 * 0 + q) 0
def leaS (j q o : Nat) (k c : Int) (C : xS) : xS := up (up (up (up C 4 (8 * 0 + q) 0 (C 4 (8 * 0 + q) 0 - c)) 4 (8 * 0 + o) 0 (xmin 1000000 (C 4 (8 * 0 + o) 0 + c))) 10 (32 * 0 + j) 10 (q : Int)) 10 (32 * 0 + j) 11 k
def o_lease (j q k a : Int) (n N : Nat) (C : xS) : xO := if 0 ≤ j ∧ j < (N : Int) then (if 0 ≤ q ∧ q < (n : Int) then (if (1 ≤ k ∧ k ≤ 50) ∧ (0 ≤ a ∧ a ≤ 999) then (if leaP j.toNat q.toNat (k * a) C then (0, k * a, n, N, leaS j.toNat q.toNat (C 10 (32 * 0 + j.toNat) 1).toNat k (k * a) C) else (3, 0, n, N, C)) else (2, 0, n, N, C)) else (1, 0, n, N, C)) else (1, 0, n, N, C)
theorem mul_r {k a : Int} (hk : 1 ≤ k ∧ k ≤ 50) (ha : 0 ≤ a ∧ a ≤ 999) : 0 ≤ k * a ∧ k * a ≤ 49950 := by
  have h1 : 0 ≤ k * a := Int.mul_nonneg (by omega) ha.1
  have h2 : k * a ≤ k * 999 := Int.mul_le_mul_of_nonneg_left ha.2 (by omega)
  omega
set_option maxHeartbeats 400000 in
theorem F_lease {w : xW} {S : xS} {B : String → xS → Prop} {A : Int → xS → Prop} {j q k a : Int} {n N : Nat} {T : Int} (hV : VS 0 n N T S) (hT : T ≤ 800000) (yj : xr j) (yq : xr q) (yk : xr k) (ya : xr a)  (hA : ∀ S', (o_lease j q k a n N S).1 = 0 → scr S' (o_lease j q k a n N S).2.2.2.2 → A (o_lease j q k a n N S).2.1 S') (hB1 : ∀ S', (o_lease j q k a n N S).1 = 1 → scr S' S → B "java/lang/IndexOutOfBoundsException" S') (hB2 : ∀ S', (o_lease j q k a n N S).1 = 2 → scr S' S → B "java/lang/IllegalArgumentException" S') (hB3 : ∀ S', (o_lease j q k a n N S).1 = 3 → scr S' S → B "java/lang/IllegalStateException" S') : Ki w mX7_lease yX7_lease 1 6 [xp 0 0, xi j, xi q, xi k, xi a] S A B := by
  refine K.of rfl rfl rfl rfl (Nat.le_of_ble_eq_true rfl) rfl ?_
  obtain ⟨hVT, hN20, h8, hg, hp, ho, hs⟩ := id hV
  have hn := hg.1
  have hN := hVT.1
  have ht := hVT.2.2.1
  refine xs_aload_0 eX7_lease_0 ?_
  refine g_X7_0 eX7_lease_1 lRX7_10 ?_
  refine g_X4_0 eX7_lease_4 lRX7_88 ?_
  refine xs_iload_1 eX7_lease_7 ?_
  by_cases c8 : 0 ≤ j ∧ j < (N : Int)
  · refine xbo_V10 (mi' := mX5_knownPromise) (y := yX5_knownPromise) eX7_lease_8 (xw_5 lRX7_126 wy_X5_knownPromise) rfl ⟨wd_X5_knownPromise, by decide, by decide⟩ (by decide) (fun _ => rfl) rfl (Nat.le_of_ble_eq_true rfl) rfl (kI_X5_knownPromise hN (by omega) c8 ?_)
    refine xs_astore_5 eX7_lease_11 rfl ?_
    refine xs_aload_0 eX7_lease_13 ?_
    refine g_X7_0 eX7_lease_14 lRX7_10 ?_
    refine xs_iload_2 eX7_lease_17 ?_
    by_cases c18 : 0 ≤ q ∧ q < (n : Int)
    · refine xbo_V10 (mi' := mX4_knownProcess) (y := yX4_knownProcess) eX7_lease_18 (xw_5 lRX7_60 wy_X4_knownProcess) rfl ⟨wd_X4_knownProcess, by decide, by decide⟩ (by decide) (fun _ => rfl) rfl (Nat.le_of_ble_eq_true rfl) rfl (kI_X4_knownProcess hn h8 c18 ?_)
      have hTQ := hVT.2.2.2 j.toNat (by omega)
      unfold TQ at hTQ
      have hOQ := ho j.toNat (by omega)
      unfold OQ at hOQ
      obtain ⟨q9, rfl⟩ : ∃ q9 : Nat, q = (q9 : Int) := ⟨q.toNat, by omega⟩
      have hqn : q9 < n := by omega
      have hPq := hp q9 hqn
      unfold PQ at hPq
      rw [Int.toNat_natCast]
      refine xs_astore_6 eX7_lease_21 rfl ?_
      refine xs_iload_3 eX7_lease_23 ?_
      refine xa_iconst eX7_lease_24 ?_
      refine xa_bipush eX7_lease_25 (by decide) ?_
      by_cases c27 : 1 ≤ k ∧ k ≤ 50
      · refine xbv_S30 (mi' := mX7_checkRange) (y := yX7_checkRange) eX7_lease_27 (xw_4 lRX7_45 wy_X7_checkRange) rfl rfl ⟨wd_X7_checkRange, by decide, by decide⟩ (Nat.le_of_ble_eq_true rfl) rfl (kk_X7_checkRange yk (by decide) (by decide) c27 ?_)
        refine xs_iload_4 eX7_lease_30 ?_
        refine xa_iconst eX7_lease_32 ?_
        refine xa_sipush eX7_lease_33 (by decide) ?_
        by_cases c36 : 0 ≤ a ∧ a ≤ 999
        · refine xbv_S30 (mi' := mX7_checkRange) (y := yX7_checkRange) eX7_lease_36 (xw_4 lRX7_45 wy_X7_checkRange) rfl rfl ⟨wd_X7_checkRange, by decide, by decide⟩ (Nat.le_of_ble_eq_true rfl) rfl (kk_X7_checkRange ya (by decide) (by decide) c36 ?_)
          have hka := mul_r (k := k) (a := a) (by omega) (by omega)
          obtain ⟨o9, eo⟩ : ∃ o9 : Nat, S 10 (32 * 0 + j.toNat) 1 = (o9 : Int) := ⟨(S 10 (32 * 0 + j.toNat) 1).toNat, by omega⟩
          have hon : o9 < n := by omega
          have hPo := hp o9 hon
          unfold PQ at hPo
          refine xs_iload_3 eX7_lease_39 ?_
          refine xs_iload_4 eX7_lease_40 ?_
          refine xa_imul eX7_lease_42 ?_
          refine xs_istore_7 eX7_lease_43 rfl ?_
          refine xs_aload_5 eX7_lease_45 ?_
          refine gr_X1_0 eX7_lease_47 lRX7_130 (fun r47 => ?_)
          refine xa_if_ne (tgt := 84) eX7_lease_50 (by decide) (by omega) (fun c50 => ?_) (fun c50 => ?_)
          · refine xa_iconst eX7_lease_84 ?_
            exact xbv_S1 (mi' := mX7_checkState) (y := yX7_checkState) eX7_lease_85 (xw_4 lRX7_53 wy_X7_checkState) rfl rfl ⟨wd_X7_checkState, by decide, by decide⟩ (Nat.le_of_ble_eq_true rfl) rfl ⟨by decide, by decide⟩ (kt_X7_checkState (P := False) id (xt_out rfl (hB3 S (by unfold o_lease; rw [if_pos c8, if_pos c18, if_pos ⟨c27, c36⟩, Int.toNat_natCast, if_neg (fun z : leaP j.toNat q9 (k * a) S => by have z1 := z.1; have z2 := z.2.1; have z3 := z.2.2.1; have z4 := z.2.2.2; omega)]) scr.rf)))
          · refine xs_aload_5 eX7_lease_53 ?_
            refine gr_X1_11 eX7_lease_55 lRX7_187 (fun r55 => ?_)
            refine xa_if_ne (tgt := 84) eX7_lease_58 (by decide) (by omega) (fun c58 => ?_) (fun c58 => ?_)
            · refine xa_iconst eX7_lease_84 ?_
              exact xbv_S1 (mi' := mX7_checkState) (y := yX7_checkState) eX7_lease_85 (xw_4 lRX7_53 wy_X7_checkState) rfl rfl ⟨wd_X7_checkState, by decide, by decide⟩ (Nat.le_of_ble_eq_true rfl) rfl ⟨by decide, by decide⟩ (kt_X7_checkState (P := False) id (xt_out rfl (hB3 S (by unfold o_lease; rw [if_pos c8, if_pos c18, if_pos ⟨c27, c36⟩, Int.toNat_natCast, if_neg (fun z : leaP j.toNat q9 (k * a) S => by have z1 := z.1; have z2 := z.2.1; have z3 := z.2.2.1; have z4 := z.2.2.2; omega)]) scr.rf)))
            · refine xs_aload_5 eX7_lease_61 ?_
              refine gr_X1_1 eX7_lease_63 lRX7_178 (fun r63 => ?_)
              refine xs_iload_2 eX7_lease_66 ?_
              refine xa_icmp_eq (tgt := 84) eX7_lease_67 (by decide) (by omega) (by omega) (fun c67 => ?_) (fun c67 => ?_)
              · refine xa_iconst eX7_lease_84 ?_
                exact xbv_S1 (mi' := mX7_checkState) (y := yX7_checkState) eX7_lease_85 (xw_4 lRX7_53 wy_X7_checkState) rfl rfl ⟨wd_X7_checkState, by decide, by decide⟩ (Nat.le_of_ble_eq_true rfl) rfl ⟨by decide, by decide⟩ (kt_X7_checkState (P := False) id (xt_out rfl (hB3 S (by unfold o_lease; rw [if_pos c8, if_pos c18, if_pos ⟨c27, c36⟩, Int.toNat_natCast, if_neg (fun z : leaP j.toNat q9 (k * a) S => by have z1 := z.1; have z2 := z.2.1; have z3 := z.2.2.1; have z4 := z.2.2.2; omega)]) scr.rf)))
              · refine xs_aload_6 eX7_lease_70 ?_
                refine gr_X0_0 eX7_lease_72 lRX7_85 (fun r72 => ?_)
                refine xs_iload_7 eX7_lease_75 ?_
                refine xa_icmp_lt (tgt := 84) eX7_lease_77 (by decide) (by omega) (by omega) (fun c77 => ?_) (fun c77 => ?_)
                · refine xa_iconst eX7_lease_84 ?_
                  exact xbv_S1 (mi' := mX7_checkState) (y := yX7_checkState) eX7_lease_85 (xw_4 lRX7_53 wy_X7_checkState) rfl rfl ⟨wd_X7_checkState, by decide, by decide⟩ (Nat.le_of_ble_eq_true rfl) rfl ⟨by decide, by decide⟩ (kt_X7_checkState (P := False) id (xt_out rfl (hB3 S (by unfold o_lease; rw [if_pos c8, if_pos c18, if_pos ⟨c27, c36⟩, Int.toNat_natCast, if_neg (fun z : leaP j.toNat q9 (k * a) S => by have z1 := z.1; have z2 := z.2.1; have z3 := z.2.2.1; have z4 := z.2.2.2; omega)]) scr.rf)))
                · have hoq : o9 ≠ q9 := fun z => by omega
                  have hne1 : (o9 = q9) = False := eq_false hoq
                  have hne2 : (q9 = o9) = False := eq_false (Ne.symm hoq)
                  refine xa_iconst eX7_lease_80 ?_
                  refine xa_goto (tgt := 85) eX7_lease_81 (by decide) ?_
                  refine xbv_S10 (mi' := mX7_checkState) (y := yX7_checkState) eX7_lease_85 (xw_4 lRX7_53 wy_X7_checkState) rfl rfl ⟨wd_X7_checkState, by decide, by decide⟩ (Nat.le_of_ble_eq_true rfl) rfl (kk_X7_checkState (P := True) trivial ?_)
                  refine xs_aload_6 eX7_lease_88 ?_
                  refine xa_dup eX7_lease_90 rfl ?_
                  refine gr_X0_0 eX7_lease_91 lRX7_85 (fun r91 => ?_)
                  try simp (decide := true) only [up_app, eo, hne1, hne2, if_true, if_false, and_true, true_and, and_false, false_and, Nat.add_left_cancel_iff, Int.toNat_natCast] at r91 ⊢
                  refine xs_iload_7 eX7_lease_94 ?_
                  refine xa_isub eX7_lease_96 ?_
                  refine p_X0_0 eX7_lease_97 lRX7_85 (by omega) ?_
                  refine xs_aload_0 eX7_lease_100 ?_
                  refine g_X7_0 eX7_lease_101 lRX7_10 ?_
                  refine xs_aload_5 eX7_lease_104 ?_
                  refine gr_X1_1 eX7_lease_106 lRX7_178 (fun r106 => ?_)
                  try simp (decide := true) only [up_app, eo, hne1, hne2, if_true, if_false, and_true, true_and, and_false, false_and, Nat.add_left_cancel_iff, Int.toNat_natCast] at r106 ⊢
                  refine xbo_V10 (mi' := mX4_knownProcess) (y := yX4_knownProcess) eX7_lease_109 (xw_5 lRX7_60 wy_X4_knownProcess) rfl ⟨wd_X4_knownProcess, by decide, by decide⟩ (by decide) (fun _ => rfl) rfl (Nat.le_of_ble_eq_true rfl) rfl (kI_X4_knownProcess (n := n) (by exact hn) h8 (by omega) ?_)
                  rw [Int.toNat_natCast]
                  refine xs_iload_7 eX7_lease_112 ?_
                  refine xbv_V10 (mi' := mX0_earn) (y := yX0_earn) eX7_lease_114 (xw_5 lRX7_82 wy_X0_earn) rfl ⟨wd_X0_earn, by decide, by decide⟩ (by decide) (fun _ => rfl) rfl (Nat.le_of_ble_eq_true rfl) rfl (k_X0_earn (by simp (decide := true) only [up_app, hne1, hne2, if_true, if_false, and_true, true_and, and_false, false_and, Nat.add_left_cancel_iff, Int.toNat_natCast]; omega) ?_)
                  rw [show up S 4 (8 * 0 + q9) 0 (S 4 (8 * 0 + q9) 0 - k * a) 4 (8 * 0 + o9) 0 = S 4 (8 * 0 + o9) 0 by simp (decide := true) only [up_app, hne1, hne2, if_true, if_false, and_true, true_and, and_false, false_and, Nat.add_left_cancel_iff, Int.toNat_natCast]]
                  refine xs_aload_5 eX7_lease_117 ?_
                  refine xs_iload_2 eX7_lease_119 ?_
                  refine p_X1_10 eX7_lease_120 lRX7_190 (by omega) ?_
                  refine xs_aload_5 eX7_lease_123 ?_
                  refine xs_iload_3 eX7_lease_125 ?_
                  refine p_X1_11 eX7_lease_126 lRX7_187 (by omega) ?_
                  refine xs_iload_7 eX7_lease_129 ?_
                  exact xa_iret eX7_lease_131 rfl ⟨_, rfl, by have h9 := hA; unfold o_lease at h9; rw [if_pos c8, if_pos c18, if_pos ⟨c27, c36⟩, Int.toNat_natCast, if_pos (show leaP j.toNat q9 (k * a) S from ⟨by omega, by omega, by omega, by show k * a ≤ S 4 (8 * 0 + q9) 0; omega⟩), eo, Int.toNat_natCast] at h9; exact h9 _ rfl scr.rf⟩
        · exact xbv_S3 (mi' := mX7_checkRange) (y := yX7_checkRange) eX7_lease_36 (xw_4 lRX7_45 wy_X7_checkRange) rfl rfl ⟨wd_X7_checkRange, by decide, by decide⟩ (Nat.le_of_ble_eq_true rfl) rfl ⟨by decide, by decide⟩ (kt_X7_checkRange ya (by decide) (by decide) c36 (xt_out rfl (hB2 S (by unfold o_lease; rw [if_pos c8, if_pos c18, if_neg (by omega)]) scr.rf)))
      · exact xbv_S3 (mi' := mX7_checkRange) (y := yX7_checkRange) eX7_lease_27 (xw_4 lRX7_45 wy_X7_checkRange) rfl rfl ⟨wd_X7_checkRange, by decide, by decide⟩ (Nat.le_of_ble_eq_true rfl) rfl ⟨by decide, by decide⟩ (kt_X7_checkRange yk (by decide) (by decide) c27 (xt_out rfl (hB2 S (by unfold o_lease; rw [if_pos c8, if_pos c18, if_neg (by omega)]) scr.rf)))
    · exact xbo_V1 (mi' := mX4_knownProcess) (y := yX4_knownProcess) eX7_lease_18 (xw_5 lRX7_60 wy_X4_knownProcess) rfl ⟨wd_X4_knownProcess, by decide, by decide⟩ (by decide) (fun _ => rfl) rfl (Nat.le_of_ble_eq_true rfl) rfl ⟨by decide, by decide⟩ (kt_X4_knownProcess hn h8 yq c18 (xt_out rfl (hB1 S (by unfold o_lease; rw [if_pos c8, if_neg c18]) scr.rf)))
  · exact xbo_V1 (mi' := mX5_knownPromise) (y := yX5_knownPromise) eX7_lease_8 (xw_5 lRX7_126 wy_X5_knownPromise) rfl ⟨wd_X5_knownPromise, by decide, by decide⟩ (by decide) (fun _ => rfl) rfl (Nat.le_of_ble_eq_true rfl) rfl ⟨by decide, by decide⟩ (kt_X5_knownPromise hN (by omega) yj c8 (xt_out rfl (hB1 S (by unfold o_lease; rw [if_neg c8]) scr.rf)))
