/-! promises 2 to 7 -/
/-! promises 2 to 7, on both sides -/
def o_addProcess (a b c : Int) (n N : Nat) (C : xS) : xO := if 0 ≤ a ∧ a ≤ 1000000 then (if 0 ≤ b ∧ b ≤ 9999 then (if 0 ≤ c ∧ c ≤ 99 then (if n < 8 then (0, n, n + 1, N, entS 0 n a b c C) else (2, 0, n, N, C)) else (1, 0, n, N, C)) else (1, 0, n, N, C)) else (1, 0, n, N, C)
def o_setBid (p b : Int) (n N : Nat) (C : xS) : xO := if 0 ≤ p ∧ p < (n : Int) then (if 0 ≤ b ∧ b ≤ 99 then (0, C 4 (8 * 0 + p.toNat) 2, n, N, up C 4 (8 * 0 + p.toNat) 2 b) else (2, 0, n, N, C)) else (1, 0, n, N, C)
def o_setArrival (p e a : Int) (n N : Nat) (C : xS) : xO := if 0 ≤ p ∧ p < (n : Int) then (if 0 ≤ e ∧ e ≤ 60 then (if 0 ≤ a ∧ a ≤ 60 then (0, 0, n, N, up (up C 4 (8 * 0 + p.toNat) 3 e) 4 (8 * 0 + p.toNat) 4 a) else (2, 0, n, N, C)) else (2, 0, n, N, C)) else (1, 0, n, N, C)
def o_addWork (p t : Int) (n N : Nat) (C : xS) : xO := if 0 ≤ p ∧ p < (n : Int) then (if 1 ≤ t ∧ t ≤ 1000 then (0, xmin 9999 (C 4 (8 * 0 + p.toNat) 1 + t), n, N, up C 4 (8 * 0 + p.toNat) 1 (xmin 9999 (C 4 (8 * 0 + p.toNat) 1 + t))) else (2, 0, n, N, C)) else (1, 0, n, N, C)
def ownS (p : Int) (N : Nat) (C : xS) : Int := sm (fun j => if C 10 (32 * 0 + j) 0 = 0 ∧ C 10 (32 * 0 + j) 1 = p then 1 else 0) N
def o_process (p a : Int) (n N : Nat) (C : xS) : xO := if 0 ≤ p ∧ p < (n : Int) then (if 0 ≤ a ∧ a ≤ 11 then (0, (if a = 11 then ownS p N C else C 4 (8 * 0 + p.toNat) a.toNat), n, N, C) else (2, 0, n, N, C)) else (1, 0, n, N, C)
theorem VS.pup {n N p f : Nat} {T v : Int} {S : xS} (h : VS 0 n N T S) (hp : p < n) (hv : PQ T (fun g => if g = f then v else S 4 (8 * 0 + p) g)) : VS 0 n N T (up S 4 (8 * 0 + p) f v) := by
  refine h.chg (Int.le_refl _) (up_oth (by omega)) (up_oth (by omega)) (up_oth (by omega)) (by rw [up_oth (by omega)]; exact h.g) (fun q hq => ?_) (fun j g _ _ _ _ => up_k (by decide)) (fun j hj => ?_)
  · by_cases e : q = p
    · subst e; rw [up_row]; exact hv
    · rw [up_oth (by omega)]; exact h.p hq
  · have h9 := h.o hj
    unfold OQ at h9
    rw [up_k (by decide), up_k (by decide), up_k (by decide)]
    omega
section RR2
variable {w : xW} {S C : xS} {B : String → xS → Prop} {n N : Nat} {M : Nat → Int} {T : Int}
end RR2
set_option maxHeartbeats 400000 in
theorem F_addProcess {w : xW} {S : xS} {B : String → xS → Prop} {A : Int → xS → Prop} {a b c : Int} {n N : Nat} {T : Int} (hV : VS 0 n N T S) (hT : T ≤ 800000) (ya : xr a) (yb : xr b) (yc : xr c)  (hA : ∀ S', (o_addProcess a b c n N S).1 = 0 → scr S' (o_addProcess a b c n N S).2.2.2.2 → A (o_addProcess a b c n N S).2.1 S') (hB1 : ∀ S', (o_addProcess a b c n N S).1 = 1 → scr S' S → B "java/lang/IllegalArgumentException" S') (hB2 : ∀ S', (o_addProcess a b c n N S).1 = 2 → scr S' S → B "java/lang/IllegalStateException" S') : Ki w mX7_addProcess yX7_addProcess 1 6 [xp 0 0, xi a, xi b, xi c] S A B := by
  refine K.of rfl rfl rfl rfl (Nat.le_of_ble_eq_true rfl) rfl ?_
  obtain ⟨hVT, hN20, h8, hg, hp, ho, hs⟩ := id hV
  have hn := hg.1
  have hN := hVT.1
  have ht := hVT.2.2.1
  refine xs_iload_1 eX7_addProcess_0 ?_
  refine xa_iconst eX7_addProcess_1 ?_
  refine xa_ldc (a := 1000000) eX7_addProcess_2 lRX7_44 (by decide) ?_
  by_cases c4 : 0 ≤ a ∧ a ≤ 1000000
  · refine xbv_S30 (mi' := mX7_checkRange) (y := yX7_checkRange) eX7_addProcess_4 (xw_4 lRX7_45 wy_X7_checkRange) rfl rfl ⟨wd_X7_checkRange, by decide, by decide⟩ (Nat.le_of_ble_eq_true rfl) rfl (kk_X7_checkRange ya (by decide) (by decide) c4 ?_)
    refine xs_iload_2 eX7_addProcess_7 ?_
    refine xa_iconst eX7_addProcess_8 ?_
    refine xa_sipush eX7_addProcess_9 (by decide) ?_
    by_cases c12 : 0 ≤ b ∧ b ≤ 9999
    · refine xbv_S30 (mi' := mX7_checkRange) (y := yX7_checkRange) eX7_addProcess_12 (xw_4 lRX7_45 wy_X7_checkRange) rfl rfl ⟨wd_X7_checkRange, by decide, by decide⟩ (Nat.le_of_ble_eq_true rfl) rfl (kk_X7_checkRange yb (by decide) (by decide) c12 ?_)
      refine xs_iload_3 eX7_addProcess_15 ?_
      refine xa_iconst eX7_addProcess_16 ?_
      refine xa_bipush eX7_addProcess_17 (by decide) ?_
      by_cases c19 : 0 ≤ c ∧ c ≤ 99
      · refine xbv_S30 (mi' := mX7_checkRange) (y := yX7_checkRange) eX7_addProcess_19 (xw_4 lRX7_45 wy_X7_checkRange) rfl rfl ⟨wd_X7_checkRange, by decide, by decide⟩ (Nat.le_of_ble_eq_true rfl) rfl (kk_X7_checkRange yc (by decide) (by decide) c19 ?_)
        refine xs_aload_0 eX7_addProcess_22 ?_
        refine g_X7_0 eX7_addProcess_23 lRX7_10 ?_
        refine gr_X4_3 eX7_addProcess_26 lRX7_49 (fun r26 => ?_)
        try rw [hn] at r26 ⊢
        refine xa_bipush eX7_addProcess_29 (by decide) ?_
        refine xa_icmp_ge (tgt := 38) eX7_addProcess_31 (by decide) (by omega) (by omega) (fun c31 => ?_) (fun c31 => ?_)
        · refine xa_iconst eX7_addProcess_38 ?_
          exact xbv_S1 (mi' := mX7_checkState) (y := yX7_checkState) eX7_addProcess_39 (xw_4 lRX7_53 wy_X7_checkState) rfl rfl ⟨wd_X7_checkState, by decide, by decide⟩ (Nat.le_of_ble_eq_true rfl) rfl ⟨by decide, by decide⟩ (kt_X7_checkState (P := False) id (xt_out rfl (hB2 S (by unfold o_addProcess; rw [if_pos c4, if_pos c12, if_pos c19, if_neg (by omega)]) scr.rf)))
        · refine xa_iconst eX7_addProcess_34 ?_
          refine xa_goto (tgt := 39) eX7_addProcess_35 (by decide) ?_
          refine xbv_S10 (mi' := mX7_checkState) (y := yX7_checkState) eX7_addProcess_39 (xw_4 lRX7_53 wy_X7_checkState) rfl rfl ⟨wd_X7_checkState, by decide, by decide⟩ (Nat.le_of_ble_eq_true rfl) rfl (kk_X7_checkState (P := True) trivial ?_)
          refine xs_aload_0 eX7_addProcess_42 ?_
          refine g_X7_0 eX7_addProcess_43 lRX7_10 ?_
          refine xs_iload_1 eX7_addProcess_46 ?_
          refine xs_iload_2 eX7_addProcess_47 ?_
          refine xs_iload_3 eX7_addProcess_48 ?_
          refine xbv_V30 (mi' := mX4_enter) (y := yX4_enter) eX7_addProcess_49 (xw_5 lRX7_57 wy_X4_enter) rfl ⟨wd_X4_enter, by decide, by decide⟩ (by decide) (fun _ => rfl) rfl (Nat.le_of_ble_eq_true rfl) rfl (f_X4_enter hn (by omega) c4 c12 c19 ?_)
          refine xs_aload_0 eX7_addProcess_52 ?_
          refine g_X7_0 eX7_addProcess_53 lRX7_10 ?_
          refine gr_X4_3 eX7_addProcess_56 lRX7_49 (fun r56 => ?_)
          try simp (decide := true) only [entS, up_app, if_true, and_true, true_and] at r56 ⊢
          refine xa_iconst eX7_addProcess_59 ?_
          refine xa_isub eX7_addProcess_60 ?_
          exact xa_iret eX7_addProcess_61 rfl ⟨_, rfl, by have h9 := hA; unfold o_addProcess at h9; rw [if_pos c4, if_pos c12, if_pos c19, if_pos (by omega)] at h9; have h7 := h9 _ rfl scr.rf; unfold entS at h7; rw [show (n : Int) + 1 - 1 = (n : Int) by omega]; exact h7⟩
      · exact xbv_S3 (mi' := mX7_checkRange) (y := yX7_checkRange) eX7_addProcess_19 (xw_4 lRX7_45 wy_X7_checkRange) rfl rfl ⟨wd_X7_checkRange, by decide, by decide⟩ (Nat.le_of_ble_eq_true rfl) rfl ⟨by decide, by decide⟩ (kt_X7_checkRange yc (by decide) (by decide) c19 (xt_out rfl (hB1 S (by unfold o_addProcess; rw [if_pos c4, if_pos c12, if_neg c19]) scr.rf)))
    · exact xbv_S3 (mi' := mX7_checkRange) (y := yX7_checkRange) eX7_addProcess_12 (xw_4 lRX7_45 wy_X7_checkRange) rfl rfl ⟨wd_X7_checkRange, by decide, by decide⟩ (Nat.le_of_ble_eq_true rfl) rfl ⟨by decide, by decide⟩ (kt_X7_checkRange yb (by decide) (by decide) c12 (xt_out rfl (hB1 S (by unfold o_addProcess; rw [if_pos c4, if_neg c12]) scr.rf)))
  · exact xbv_S3 (mi' := mX7_checkRange) (y := yX7_checkRange) eX7_addProcess_4 (xw_4 lRX7_45 wy_X7_checkRange) rfl rfl ⟨wd_X7_checkRange, by decide, by decide⟩ (Nat.le_of_ble_eq_true rfl) rfl ⟨by decide, by decide⟩ (kt_X7_checkRange ya (by decide) (by decide) c4 (xt_out rfl (hB1 S (by unfold o_addProcess; rw [if_neg c4]) scr.rf)))
set_option maxHeartbeats 400000 in
theorem F_setBid {w : xW} {S : xS} {B : String → xS → Prop} {A : Int → xS → Prop} {p b : Int} {n N : Nat} {T : Int} (hV : VS 0 n N T S) (hT : T ≤ 800000) (yp : xr p) (yb : xr b)  (hA : ∀ S', (o_setBid p b n N S).1 = 0 → scr S' (o_setBid p b n N S).2.2.2.2 → A (o_setBid p b n N S).2.1 S') (hB1 : ∀ S', (o_setBid p b n N S).1 = 1 → scr S' S → B "java/lang/IndexOutOfBoundsException" S') (hB2 : ∀ S', (o_setBid p b n N S).1 = 2 → scr S' S → B "java/lang/IllegalArgumentException" S') : Ki w mX7_setBid yX7_setBid 1 6 [xp 0 0, xi p, xi b] S A B := by
  refine K.of rfl rfl rfl rfl (Nat.le_of_ble_eq_true rfl) rfl ?_
  obtain ⟨hVT, hN20, h8, hg, hp, ho, hs⟩ := id hV
  have hn := hg.1
  have hN := hVT.1
  have ht := hVT.2.2.1
  refine xs_aload_0 eX7_setBid_0 ?_
  refine g_X7_0 eX7_setBid_1 lRX7_10 ?_
  refine xs_iload_1 eX7_setBid_4 ?_
  by_cases c5 : 0 ≤ p ∧ p < (n : Int)
  · refine xbo_V10 (mi' := mX4_knownProcess) (y := yX4_knownProcess) eX7_setBid_5 (xw_5 lRX7_60 wy_X4_knownProcess) rfl ⟨wd_X4_knownProcess, by decide, by decide⟩ (by decide) (fun _ => rfl) rfl (Nat.le_of_ble_eq_true rfl) rfl (kI_X4_knownProcess hn h8 c5 ?_)
    refine xs_astore_3 eX7_setBid_8 rfl ?_
    refine xs_iload_2 eX7_setBid_9 ?_
    refine xa_iconst eX7_setBid_10 ?_
    refine xa_bipush eX7_setBid_11 (by decide) ?_
    by_cases c13 : 0 ≤ b ∧ b ≤ 99
    · refine xbv_S30 (mi' := mX7_checkRange) (y := yX7_checkRange) eX7_setBid_13 (xw_4 lRX7_45 wy_X7_checkRange) rfl rfl ⟨wd_X7_checkRange, by decide, by decide⟩ (Nat.le_of_ble_eq_true rfl) rfl (kk_X7_checkRange yb (by decide) (by decide) c13 ?_)
      refine xs_aload_3 eX7_setBid_16 ?_
      refine gr_X0_2 eX7_setBid_17 lRX7_64 (fun r17 => ?_)
      refine xs_istore_4 eX7_setBid_20 rfl ?_
      refine xs_aload_3 eX7_setBid_22 ?_
      refine xs_iload_2 eX7_setBid_23 ?_
      refine p_X0_2 eX7_setBid_24 lRX7_64 (by omega) ?_
      refine xs_iload_4 eX7_setBid_27 ?_
      exact xa_iret eX7_setBid_29 rfl ⟨_, rfl, by have h9 := hA; unfold o_setBid at h9; rw [if_pos c5, if_pos c13] at h9; exact h9 _ rfl scr.rf⟩
    · exact xbv_S3 (mi' := mX7_checkRange) (y := yX7_checkRange) eX7_setBid_13 (xw_4 lRX7_45 wy_X7_checkRange) rfl rfl ⟨wd_X7_checkRange, by decide, by decide⟩ (Nat.le_of_ble_eq_true rfl) rfl ⟨by decide, by decide⟩ (kt_X7_checkRange yb (by decide) (by decide) c13 (xt_out rfl (hB2 S (by unfold o_setBid; rw [if_pos c5, if_neg c13]) scr.rf)))
  · exact xbo_V1 (mi' := mX4_knownProcess) (y := yX4_knownProcess) eX7_setBid_5 (xw_5 lRX7_60 wy_X4_knownProcess) rfl ⟨wd_X4_knownProcess, by decide, by decide⟩ (by decide) (fun _ => rfl) rfl (Nat.le_of_ble_eq_true rfl) rfl ⟨by decide, by decide⟩ (kt_X4_knownProcess hn h8 yp c5 (xt_out rfl (hB1 S (by unfold o_setBid; rw [if_neg c5]) scr.rf)))
set_option maxHeartbeats 400000 in
theorem F_addWork {w : xW} {S : xS} {B : String → xS → Prop} {A : Int → xS → Prop} {p t : Int} {n N : Nat} {T : Int} (hV : VS 0 n N T S) (hT : T ≤ 800000) (yp : xr p) (yt : xr t)  (hA : ∀ S', (o_addWork p t n N S).1 = 0 → scr S' (o_addWork p t n N S).2.2.2.2 → A (o_addWork p t n N S).2.1 S') (hB1 : ∀ S', (o_addWork p t n N S).1 = 1 → scr S' S → B "java/lang/IndexOutOfBoundsException" S') (hB2 : ∀ S', (o_addWork p t n N S).1 = 2 → scr S' S → B "java/lang/IllegalArgumentException" S') : Ki w mX7_addWork yX7_addWork 1 6 [xp 0 0, xi p, xi t] S A B := by
  refine K.of rfl rfl rfl rfl (Nat.le_of_ble_eq_true rfl) rfl ?_
  obtain ⟨hVT, hN20, h8, hg, hp, ho, hs⟩ := id hV
  have hn := hg.1
  have hN := hVT.1
  have ht := hVT.2.2.1
  refine xs_aload_0 eX7_addWork_0 ?_
  refine g_X7_0 eX7_addWork_1 lRX7_10 ?_
  refine xs_iload_1 eX7_addWork_4 ?_
  by_cases c5 : 0 ≤ p ∧ p < (n : Int)
  · refine xbo_V10 (mi' := mX4_knownProcess) (y := yX4_knownProcess) eX7_addWork_5 (xw_5 lRX7_60 wy_X4_knownProcess) rfl ⟨wd_X4_knownProcess, by decide, by decide⟩ (by decide) (fun _ => rfl) rfl (Nat.le_of_ble_eq_true rfl) rfl (kI_X4_knownProcess hn h8 c5 ?_)
    refine xs_astore_3 eX7_addWork_8 rfl ?_
    refine xs_iload_2 eX7_addWork_9 ?_
    refine xa_iconst eX7_addWork_10 ?_
    refine xa_sipush eX7_addWork_11 (by decide) ?_
    by_cases c14 : 1 ≤ t ∧ t ≤ 1000
    · refine xbv_S30 (mi' := mX7_checkRange) (y := yX7_checkRange) eX7_addWork_14 (xw_4 lRX7_45 wy_X7_checkRange) rfl rfl ⟨wd_X7_checkRange, by decide, by decide⟩ (Nat.le_of_ble_eq_true rfl) rfl (kk_X7_checkRange yt (by decide) (by decide) c14 ?_)
      refine xs_aload_3 eX7_addWork_17 ?_
      refine xs_iload_2 eX7_addWork_18 ?_
      refine xbv_V10 (mi' := mX0_takeWork) (y := yX0_takeWork) eX7_addWork_19 (xw_5 lRX7_75 wy_X0_takeWork) rfl ⟨wd_X0_takeWork, by decide, by decide⟩ (by decide) (fun _ => rfl) rfl (Nat.le_of_ble_eq_true rfl) rfl (k_X0_takeWork (by have h9 := hp p.toNat (by omega); unfold PQ at h9; omega) ?_)
      refine xs_aload_3 eX7_addWork_22 ?_
      refine gr_X0_1 eX7_addWork_23 lRX7_79 (fun r23 => ?_)
      try simp (decide := true) only [up_app, if_true, and_true, true_and] at r23 ⊢
      exact xa_iret eX7_addWork_26 rfl ⟨_, rfl, by have h9 := hA; unfold o_addWork at h9; rw [if_pos c5, if_pos c14] at h9; exact h9 _ rfl scr.rf⟩
    · exact xbv_S3 (mi' := mX7_checkRange) (y := yX7_checkRange) eX7_addWork_14 (xw_4 lRX7_45 wy_X7_checkRange) rfl rfl ⟨wd_X7_checkRange, by decide, by decide⟩ (Nat.le_of_ble_eq_true rfl) rfl ⟨by decide, by decide⟩ (kt_X7_checkRange yt (by decide) (by decide) c14 (xt_out rfl (hB2 S (by unfold o_addWork; rw [if_pos c5, if_neg c14]) scr.rf)))
  · exact xbo_V1 (mi' := mX4_knownProcess) (y := yX4_knownProcess) eX7_addWork_5 (xw_5 lRX7_60 wy_X4_knownProcess) rfl ⟨wd_X4_knownProcess, by decide, by decide⟩ (by decide) (fun _ => rfl) rfl (Nat.le_of_ble_eq_true rfl) rfl ⟨by decide, by decide⟩ (kt_X4_knownProcess hn h8 yp c5 (xt_out rfl (hB1 S (by unfold o_addWork; rw [if_neg c5]) scr.rf)))
set_option maxHeartbeats 400000 in
theorem F_setArrival {w : xW} {S : xS} {B : String → xS → Prop} {A : xS → Prop} {p e a : Int} {n N : Nat} {T : Int} (hV : VS 0 n N T S) (hT : T ≤ 800000) (yp : xr p) (ye : xr e) (ya : xr a)  (hA : ∀ S', (o_setArrival p e a n N S).1 = 0 → scr S' (o_setArrival p e a n N S).2.2.2.2 → A S') (hB1 : ∀ S', (o_setArrival p e a n N S).1 = 1 → scr S' S → B "java/lang/IndexOutOfBoundsException" S') (hB2 : ∀ S', (o_setArrival p e a n N S).1 = 2 → scr S' S → B "java/lang/IllegalArgumentException" S') : Kv w mX7_setArrival yX7_setArrival 1 6 [xp 0 0, xi p, xi e, xi a] S A B := by
  refine K.of rfl rfl rfl rfl (Nat.le_of_ble_eq_true rfl) rfl ?_
  obtain ⟨hVT, hN20, h8, hg, hp, ho, hs⟩ := id hV
  have hn := hg.1
  have hN := hVT.1
  have ht := hVT.2.2.1
  refine xs_aload_0 eX7_setArrival_0 ?_
  refine g_X7_0 eX7_setArrival_1 lRX7_10 ?_
  refine xs_iload_1 eX7_setArrival_4 ?_
  by_cases c5 : 0 ≤ p ∧ p < (n : Int)
  · refine xbo_V10 (mi' := mX4_knownProcess) (y := yX4_knownProcess) eX7_setArrival_5 (xw_5 lRX7_60 wy_X4_knownProcess) rfl ⟨wd_X4_knownProcess, by decide, by decide⟩ (by decide) (fun _ => rfl) rfl (Nat.le_of_ble_eq_true rfl) rfl (kI_X4_knownProcess hn h8 c5 ?_)
    refine xs_astore_4 eX7_setArrival_8 rfl ?_
    refine xs_iload_2 eX7_setArrival_10 ?_
    refine xa_iconst eX7_setArrival_11 ?_
    refine xa_bipush eX7_setArrival_12 (by decide) ?_
    by_cases c14 : 0 ≤ e ∧ e ≤ 60
    · refine xbv_S30 (mi' := mX7_checkRange) (y := yX7_checkRange) eX7_setArrival_14 (xw_4 lRX7_45 wy_X7_checkRange) rfl rfl ⟨wd_X7_checkRange, by decide, by decide⟩ (Nat.le_of_ble_eq_true rfl) rfl (kk_X7_checkRange ye (by decide) (by decide) c14 ?_)
      refine xs_iload_3 eX7_setArrival_17 ?_
      refine xa_iconst eX7_setArrival_18 ?_
      refine xa_bipush eX7_setArrival_19 (by decide) ?_
      by_cases c21 : 0 ≤ a ∧ a ≤ 60
      · refine xbv_S30 (mi' := mX7_checkRange) (y := yX7_checkRange) eX7_setArrival_21 (xw_4 lRX7_45 wy_X7_checkRange) rfl rfl ⟨wd_X7_checkRange, by decide, by decide⟩ (Nat.le_of_ble_eq_true rfl) rfl (kk_X7_checkRange ya (by decide) (by decide) c21 ?_)
        refine xs_aload_4 eX7_setArrival_24 ?_
        refine xs_iload_2 eX7_setArrival_26 ?_
        refine p_X0_3 eX7_setArrival_27 lRX7_69 (by omega) ?_
        refine xs_aload_4 eX7_setArrival_30 ?_
        refine xs_iload_3 eX7_setArrival_32 ?_
        refine p_X0_4 eX7_setArrival_33 lRX7_72 (by omega) ?_
        exact xa_vret eX7_setArrival_36 rfl ⟨rfl, by have h9 := hA; unfold o_setArrival at h9; rw [if_pos c5, if_pos c14, if_pos c21] at h9; exact h9 _ rfl scr.rf⟩
      · exact xbv_S3 (mi' := mX7_checkRange) (y := yX7_checkRange) eX7_setArrival_21 (xw_4 lRX7_45 wy_X7_checkRange) rfl rfl ⟨wd_X7_checkRange, by decide, by decide⟩ (Nat.le_of_ble_eq_true rfl) rfl ⟨by decide, by decide⟩ (kt_X7_checkRange ya (by decide) (by decide) c21 (xt_out rfl (hB2 S (by unfold o_setArrival; rw [if_pos c5, if_pos c14, if_neg c21]) scr.rf)))
    · exact xbv_S3 (mi' := mX7_checkRange) (y := yX7_checkRange) eX7_setArrival_14 (xw_4 lRX7_45 wy_X7_checkRange) rfl rfl ⟨wd_X7_checkRange, by decide, by decide⟩ (Nat.le_of_ble_eq_true rfl) rfl ⟨by decide, by decide⟩ (kt_X7_checkRange ye (by decide) (by decide) c14 (xt_out rfl (hB2 S (by unfold o_setArrival; rw [if_pos c5, if_neg c14]) scr.rf)))
  · exact xbo_V1 (mi' := mX4_knownProcess) (y := yX4_knownProcess) eX7_setArrival_5 (xw_5 lRX7_60 wy_X4_knownProcess) rfl ⟨wd_X4_knownProcess, by decide, by decide⟩ (by decide) (fun _ => rfl) rfl (Nat.le_of_ble_eq_true rfl) rfl ⟨by decide, by decide⟩ (kt_X4_knownProcess hn h8 yp c5 (xt_out rfl (hB1 S (by unfold o_setArrival; rw [if_neg c5]) scr.rf)))
set_option maxHeartbeats 400000 in
theorem F_process {w : xW} {S : xS} {B : String → xS → Prop} {A : Int → xS → Prop} {p a : Int} {n N : Nat} {T : Int} (hV : VS 0 n N T S) (hT : T ≤ 800000) (yp : xr p) (ya : xr a)  (hA : ∀ S', (o_process p a n N S).1 = 0 → scr S' (o_process p a n N S).2.2.2.2 → A (o_process p a n N S).2.1 S') (hB1 : ∀ S', (o_process p a n N S).1 = 1 → scr S' S → B "java/lang/IndexOutOfBoundsException" S') (hB2 : ∀ S', (o_process p a n N S).1 = 2 → scr S' S → B "java/lang/IllegalArgumentException" S') : Ki w mX7_process yX7_process 1 6 [xp 0 0, xi p, xi a] S A B := by
  refine K.of rfl rfl rfl rfl (Nat.le_of_ble_eq_true rfl) rfl ?_
  obtain ⟨hVT, hN20, h8, hg, hp, ho, hs⟩ := id hV
  have hn := hg.1
  have hN := hVT.1
  have ht := hVT.2.2.1
  refine xs_aload_0 eX7_process_0 ?_
  refine g_X7_0 eX7_process_1 lRX7_10 ?_
  refine xs_iload_1 eX7_process_4 ?_
  by_cases c5 : 0 ≤ p ∧ p < (n : Int)
  · refine xbo_V10 (mi' := mX4_knownProcess) (y := yX4_knownProcess) eX7_process_5 (xw_5 lRX7_60 wy_X4_knownProcess) rfl ⟨wd_X4_knownProcess, by decide, by decide⟩ (by decide) (fun _ => rfl) rfl (Nat.le_of_ble_eq_true rfl) rfl (kI_X4_knownProcess hn h8 c5 ?_)
    refine xs_astore_3 eX7_process_8 rfl ?_
    refine xs_iload_2 eX7_process_9 ?_
    refine xa_iconst eX7_process_10 ?_
    refine xa_bipush eX7_process_11 (by decide) ?_
    by_cases c13 : 0 ≤ a ∧ a ≤ 11
    · refine xbv_S30 (mi' := mX7_checkRange) (y := yX7_checkRange) eX7_process_13 (xw_4 lRX7_45 wy_X7_checkRange) rfl rfl ⟨wd_X7_checkRange, by decide, by decide⟩ (Nat.le_of_ble_eq_true rfl) rfl (kk_X7_checkRange ya (by decide) (by decide) c13 ?_)
      refine xs_iload_2 eX7_process_16 ?_
      refine xa_bipush eX7_process_17 (by decide) ?_
      refine xa_icmp_ne (tgt := 36) eX7_process_19 (by decide) ya (by decide) (fun c19 => ?_) (fun c19 => ?_)
      · refine xs_aload_3 eX7_process_36 ?_
        refine xs_iload_2 eX7_process_37 ?_
        refine xbi_V10 (mi' := mX0_figure) (y := yX0_figure) eX7_process_38 (xw_5 lRX7_95 wy_X0_figure) rfl ⟨wd_X0_figure, by decide, by decide⟩ (by decide) (fun _ => rfl) rfl (Nat.le_of_ble_eq_true rfl) rfl (k_X0_figure (by omega) ?_)
        exact xa_iret eX7_process_41 rfl ⟨_, rfl, by have h9 := hA; unfold o_process at h9; rw [if_pos c5, if_pos c13, if_neg (by omega)] at h9; exact h9 _ rfl scr.rf⟩
      · refine xs_aload_0 eX7_process_22 ?_
        refine g_X7_0 eX7_process_23 lRX7_10 ?_
        refine g_X4_0 eX7_process_26 lRX7_88 ?_
        refine xs_iload_1 eX7_process_29 ?_
        refine xbi_V10 (mi' := mX5_countOwnedBy) (y := yX5_countOwnedBy) eX7_process_30 (xw_5 lRX7_91 wy_X5_countOwnedBy) rfl ⟨wd_X5_countOwnedBy, by decide, by decide⟩ (by decide) (fun _ => rfl) rfl (Nat.le_of_ble_eq_true rfl) rfl (k_X5_countOwnedBy yp hN (by omega) ?_)
        refine xa_goto (tgt := 41) eX7_process_33 (by decide) ?_
        exact xa_iret eX7_process_41 rfl ⟨_, rfl, by have h9 := hA; unfold o_process at h9; rw [if_pos c5, if_pos c13, if_pos (by omega)] at h9; exact h9 _ rfl scr.rf⟩
    · exact xbv_S3 (mi' := mX7_checkRange) (y := yX7_checkRange) eX7_process_13 (xw_4 lRX7_45 wy_X7_checkRange) rfl rfl ⟨wd_X7_checkRange, by decide, by decide⟩ (Nat.le_of_ble_eq_true rfl) rfl ⟨by decide, by decide⟩ (kt_X7_checkRange ya (by decide) (by decide) c13 (xt_out rfl (hB2 S (by unfold o_process; rw [if_pos c5, if_neg c13]) scr.rf)))
  · exact xbo_V1 (mi' := mX4_knownProcess) (y := yX4_knownProcess) eX7_process_5 (xw_5 lRX7_60 wy_X4_knownProcess) rfl ⟨wd_X4_knownProcess, by decide, by decide⟩ (by decide) (fun _ => rfl) rfl (Nat.le_of_ble_eq_true rfl) rfl ⟨by decide, by decide⟩ (kt_X4_knownProcess hn h8 yp c5 (xt_out rfl (hB1 S (by unfold o_process; rw [if_neg c5]) scr.rf)))
