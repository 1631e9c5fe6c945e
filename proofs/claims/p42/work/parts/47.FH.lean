/-! running and forecasts -/
theorem cpyS_fr {u s n N : Nat} {S : xS} (hn : n ≤ 8) (hN : N ≤ 32) : xts s (cpyS u s n N S) S := by
  intro x y h1 h2 h3 h4 h5 h6
  unfold cpyS
  rw [up_oth (by omega), up_oth (by omega), up_oth (by omega), up_oth (by omega), up_oth (by omega), up_oth (by omega), up_oth (by omega), up_oth (by omega), up_oth (by omega), up_oth (by omega)]
  funext f
  unfold cpyP
  rw [if_neg (by omega)]
  unfold cpy0
  rw [up_oth (by omega), up_oth (by omega), up_oth (by omega)]
  unfold cpyV
  rw [if_neg (by omega)]
  unfold cpyT
  rw [if_neg (by omega), if_neg (by omega), if_neg (by omega)]
theorem VS.fr {s u n N : Nat} {T : Int} {S S1 : xS} (h : VS s n N T S) (hx : xts u S1 S) (hu : s ≠ u) : VS s n N T S1 := by
  obtain ⟨⟨a1, a2, a3, a4⟩, h2, h3, h4, h5, h6, h7⟩ := h
  have e1 := hx 1 s (by omega) (by omega) (by omega) (by omega) (by omega) (by omega)
  have e2 := hx 2 s (by omega) (by omega) (by omega) (by omega) (by omega) (by omega)
  have e5 := hx 5 s (by omega) (by omega) (by omega) (by omega) (by omega) (by omega)
  have e25 := hx 25 s (by omega) (by omega) (by omega) (by omega) (by omega) (by omega)
  have e10 : ∀ j, j < N → S1 10 (32 * s + j) = S 10 (32 * s + j) := fun j hj => hx 10 (32 * s + j) (by omega) (by omega) (by omega) (by omega) (by omega) (by omega)
  have e4 : ∀ p, p < n → S1 4 (8 * s + p) = S 4 (8 * s + p) := fun j hj => hx 4 (8 * s + j) (by omega) (by omega) (by omega) (by omega) (by omega) (by omega)
  refine ⟨⟨by rw [e2]; exact a1, a2, by rw [e2]; exact a3, fun j hj => by rw [e2, e10 j hj]; exact a4 j hj⟩, h2, h3, by rw [e1]; exact h4, fun p hp => by rw [e4 p hp]; exact h5 p hp, fun j hj => by rw [e2, e10 j hj]; exact h6 j hj, by rw [e5, e25]; exact h7⟩
theorem VS.pus {s n N p f : Nat} {T v : Int} {S : xS} (h : VS s n N T S) (hp : p < n) (hv : PQ T (fun g => if g = f then v else S 4 (8 * s + p) g)) : VS s n N T (up S 4 (8 * s + p) f v) := by
  refine h.chg (Int.le_refl _) (up_oth (by omega)) (up_oth (by omega)) (up_oth (by omega)) (by rw [up_oth (by omega)]; exact h.g) (fun q hq => ?_) (fun j g _ _ _ _ => up_k (by decide)) (fun j hj => ?_)
  · by_cases e : q = p
    · subst e; rw [up_row]; exact hv
    · rw [up_oth (by omega)]; exact h.p hq
  · have h9 := h.o hj
    unfold OQ at h9
    rw [up_k (by decide), up_k (by decide), up_k (by decide)]
    omega
def o_run (m : Int) (n N : Nat) (C : xS) : xO := if 1 ≤ m ∧ m ≤ 500 then (0, itr (tckS 0 n N) m.toNat C 1 0 10 - C 1 0 10, n, N, itr (tckS 0 n N) m.toNat C) else (1, 0, n, N, C)
def o_ticksToFinish (q m : Int) (n N : Nat) (C : xS) : xO := if 0 ≤ q ∧ q < (n : Int) then (if 1 ≤ m ∧ m ≤ 500 then (0, frs (fun i => decide (itr (tckS 1 n N) i (cpyS 0 1 n N C) 4 (8 * 1 + q.toNat) 1 = 0)) (m.toNat + 1) 0, n, N, C) else (2, 0, n, N, C)) else (1, 0, n, N, C)
def o_moneyAfter (q m : Int) (n N : Nat) (C : xS) : xO := if 0 ≤ q ∧ q < (n : Int) then (if 1 ≤ m ∧ m ≤ 500 then (0, itr (tckS 1 n N) m.toNat (cpyS 0 1 n N C) 4 (8 * 1 + q.toNat) 0, n, N, C) else (2, 0, n, N, C)) else (1, 0, n, N, C)
theorem frs_g {g : Nat → Bool} {m i : Nat} (h : i ≤ m) : frs g (m + 1 - i) i = if g i = true then (i : Int) else frs g (m + 1 - (i + 1)) (i + 1) := by
  rw [show m + 1 - i = (m + 1 - (i + 1)) + 1 by omega, frs]
set_option maxHeartbeats 400000 in
theorem F_run {w : xW} {S : xS} {B : String → xS → Prop} {A : Int → xS → Prop} {m : Int} {n N : Nat} {T : Int} (hV : VS 0 n N T S) (hT : T ≤ 800000) (ym : xr m)  (hA : ∀ S', (o_run m n N S).1 = 0 → scr S' (o_run m n N S).2.2.2.2 → A (o_run m n N S).2.1 S') (hB1 : ∀ S', (o_run m n N S).1 = 1 → scr S' S → B "java/lang/IllegalArgumentException" S') : Ki w mX7_run yX7_run 1 6 [xp 0 0, xi m] S A B := by
  refine K.of rfl rfl rfl rfl (Nat.le_of_ble_eq_true rfl) rfl ?_
  obtain ⟨hVT, hN20, h8, hg, hp, ho, hs⟩ := id hV
  have hn := hg.1
  have hN := hVT.1
  have ht := hVT.2.2.1
  refine xs_iload_1 eX7_run_0 ?_
  refine xa_iconst eX7_run_1 ?_
  refine xa_sipush eX7_run_2 (by decide) ?_
  by_cases c5 : 1 ≤ m ∧ m ≤ 500
  · refine xbv_S30 (mi' := mX7_checkRange) (y := yX7_checkRange) eX7_run_5 (xw_4 lRX7_45 wy_X7_checkRange) rfl rfl ⟨wd_X7_checkRange, by decide, by decide⟩ (Nat.le_of_ble_eq_true rfl) rfl (kk_X7_checkRange ym (by decide) (by decide) c5 ?_)
    obtain ⟨m9, rfl⟩ : ∃ m9 : Nat, m = (m9 : Int) := ⟨m.toNat, by omega⟩
    refine xs_aload_0 eX7_run_8 ?_
    refine g_X7_0 eX7_run_9 lRX7_10 ?_
    refine gr_X4_10 eX7_run_12 lRX7_220 (fun r12 => ?_)
    refine xs_istore_2 eX7_run_15 rfl ?_
    refine xs_aload_0 eX7_run_16 ?_
    refine g_X7_0 eX7_run_17 lRX7_10 ?_
    refine xs_iload_1 eX7_run_20 ?_
    refine xbv_V10 (mi' := mX4_pass) (y := yX4_pass) eX7_run_21 (xw_5 lRX7_223 wy_X4_pass) rfl ⟨wd_X4_pass, by decide, by decide⟩ (by decide) (fun _ => rfl) rfl (Nat.le_of_ble_eq_true rfl) rfl (f_X4_pass (s := 0) hV (by omega) (by omega) ?_)
    refine xs_aload_0 eX7_run_24 ?_
    refine g_X7_0 eX7_run_25 lRX7_10 ?_
    refine gr_X4_10 eX7_run_28 lRX7_220 (fun r28 => ?_)
    refine xs_iload_2 eX7_run_31 ?_
    refine xa_isub eX7_run_32 ?_
    exact xa_iret eX7_run_33 rfl ⟨_, rfl, by have h9 := hA; unfold o_run at h9; rw [if_pos c5] at h9; exact h9 _ rfl scr.rf⟩
  · exact xbv_S3 (mi' := mX7_checkRange) (y := yX7_checkRange) eX7_run_5 (xw_4 lRX7_45 wy_X7_checkRange) rfl rfl ⟨wd_X7_checkRange, by decide, by decide⟩ (Nat.le_of_ble_eq_true rfl) rfl ⟨by decide, by decide⟩ (kt_X7_checkRange ym (by decide) (by decide) c5 (xt_out rfl (hB1 S (by unfold o_run; rw [if_neg c5]) scr.rf)))
set_option maxHeartbeats 400000 in
theorem F_moneyAfter {w : xW} {S : xS} {B : String → xS → Prop} {A : Int → xS → Prop} {q m : Int} {n N : Nat} {T : Int} (hV : VS 0 n N T S) (hT : T ≤ 800000) (yq : xr q) (ym : xr m)  (hA : ∀ S', (o_moneyAfter q m n N S).1 = 0 → scr S' (o_moneyAfter q m n N S).2.2.2.2 → A (o_moneyAfter q m n N S).2.1 S') (hB1 : ∀ S', (o_moneyAfter q m n N S).1 = 1 → scr S' S → B "java/lang/IndexOutOfBoundsException" S') (hB2 : ∀ S', (o_moneyAfter q m n N S).1 = 2 → scr S' S → B "java/lang/IllegalArgumentException" S') : Ki w mX7_moneyAfter yX7_moneyAfter 1 6 [xp 0 0, xi q, xi m] S A B := by
  refine K.of rfl rfl rfl rfl (Nat.le_of_ble_eq_true rfl) rfl ?_
  obtain ⟨hVT, hN20, h8, hg, hp, ho, hs⟩ := id hV
  have hn := hg.1
  have hN := hVT.1
  have ht := hVT.2.2.1
  refine xs_aload_0 eX7_moneyAfter_0 ?_
  refine g_X7_0 eX7_moneyAfter_1 lRX7_10 ?_
  refine xs_iload_1 eX7_moneyAfter_4 ?_
  by_cases c5 : 0 ≤ q ∧ q < (n : Int)
  · refine xbo_V10 (mi' := mX4_knownProcess) (y := yX4_knownProcess) eX7_moneyAfter_5 (xw_5 lRX7_60 wy_X4_knownProcess) rfl ⟨wd_X4_knownProcess, by decide, by decide⟩ (by decide) (fun _ => rfl) rfl (Nat.le_of_ble_eq_true rfl) rfl (kI_X4_knownProcess hn h8 c5 ?_)
    refine xa_pop eX7_moneyAfter_8 rfl ?_
    refine xs_iload_2 eX7_moneyAfter_9 ?_
    refine xa_iconst eX7_moneyAfter_10 ?_
    refine xa_sipush eX7_moneyAfter_11 (by decide) ?_
    by_cases c14 : 1 ≤ m ∧ m ≤ 500
    · refine xbv_S30 (mi' := mX7_checkRange) (y := yX7_checkRange) eX7_moneyAfter_14 (xw_4 lRX7_45 wy_X7_checkRange) rfl rfl ⟨wd_X7_checkRange, by decide, by decide⟩ (Nat.le_of_ble_eq_true rfl) rfl (kk_X7_checkRange ym (by decide) (by decide) c14 ?_)
      obtain ⟨q9, rfl⟩ : ∃ q9 : Nat, q = (q9 : Int) := ⟨q.toNat, by omega⟩
      have hqn : q9 < n := by omega
      obtain ⟨m9, rfl⟩ : ∃ m9 : Nat, m = (m9 : Int) := ⟨m.toNat, by omega⟩
      have hV1 : VS 1 n N T (cpyS 0 1 n N S) := hV.cpy (by decide)
      have hfr1 : xts 1 (cpyS 0 1 n N S) S := cpyS_fr h8 (by omega)
      refine xs_aload_0 eX7_moneyAfter_17 ?_
      refine g_X7_1 eX7_moneyAfter_18 lRX7_16 ?_
      refine xs_aload_0 eX7_moneyAfter_21 ?_
      refine g_X7_0 eX7_moneyAfter_22 lRX7_10 ?_
      refine xbv_V10 (mi' := mX4_copyFrom) (y := yX4_copyFrom) eX7_moneyAfter_25 (xw_5 lRX7_226 wy_X4_copyFrom) rfl ⟨wd_X4_copyFrom, by decide, by decide⟩ (by decide) (fun _ => rfl) rfl (Nat.le_of_ble_eq_true rfl) rfl (f_X4_copyFrom (u := 0) (s := 1) (by decide) hn h8 hVT (by omega) ?_)
      refine xs_aload_0 eX7_moneyAfter_28 ?_
      refine g_X7_1 eX7_moneyAfter_29 lRX7_16 ?_
      refine xs_iload_2 eX7_moneyAfter_32 ?_
      refine xbv_V10 (mi' := mX4_pass) (y := yX4_pass) eX7_moneyAfter_33 (xw_5 lRX7_223 wy_X4_pass) rfl ⟨wd_X4_pass, by decide, by decide⟩ (by decide) (fun _ => rfl) rfl (Nat.le_of_ble_eq_true rfl) rfl (f_X4_pass (s := 1) hV1 (by omega) (by omega) ?_)
      refine xs_aload_0 eX7_moneyAfter_36 ?_
      refine g_X7_1 eX7_moneyAfter_37 lRX7_16 ?_
      refine xs_iload_1 eX7_moneyAfter_40 ?_
      refine xbo_V10 (mi' := mX4_knownProcess) (y := yX4_knownProcess) eX7_moneyAfter_41 (xw_5 lRX7_60 wy_X4_knownProcess) rfl ⟨wd_X4_knownProcess, by decide, by decide⟩ (by decide) (fun _ => rfl) rfl (Nat.le_of_ble_eq_true rfl) rfl (kI_X4_knownProcess (s := 1) (n := n) ((hV1.itr m9).g.1) h8 (by omega) ?_)
      refine gr_X0_0 eX7_moneyAfter_44 lRX7_85 (fun r44 => ?_)
      exact xa_iret eX7_moneyAfter_47 rfl ⟨_, rfl, by have h9 := hA; unfold o_moneyAfter at h9; rw [if_pos c5, if_pos c14] at h9; exact h9 _ rfl (((itr_fr hV1 m9).tr hfr1).scr (Or.inl rfl))⟩
    · exact xbv_S3 (mi' := mX7_checkRange) (y := yX7_checkRange) eX7_moneyAfter_14 (xw_4 lRX7_45 wy_X7_checkRange) rfl rfl ⟨wd_X7_checkRange, by decide, by decide⟩ (Nat.le_of_ble_eq_true rfl) rfl ⟨by decide, by decide⟩ (kt_X7_checkRange ym (by decide) (by decide) c14 (xt_out rfl (hB2 S (by unfold o_moneyAfter; rw [if_pos c5, if_neg c14]) scr.rf)))
  · exact xbo_V1 (mi' := mX4_knownProcess) (y := yX4_knownProcess) eX7_moneyAfter_5 (xw_5 lRX7_60 wy_X4_knownProcess) rfl ⟨wd_X4_knownProcess, by decide, by decide⟩ (by decide) (fun _ => rfl) rfl (Nat.le_of_ble_eq_true rfl) rfl ⟨by decide, by decide⟩ (kt_X4_knownProcess hn h8 yq c5 (xt_out rfl (hB1 S (by unfold o_moneyAfter; rw [if_neg c5]) scr.rf)))
set_option maxHeartbeats 400000 in
theorem F_ticksToFinish {w : xW} {S : xS} {B : String → xS → Prop} {A : Int → xS → Prop} {q m : Int} {n N : Nat} {T : Int} (hV : VS 0 n N T S) (hT : T ≤ 800000) (yq : xr q) (ym : xr m)  (hA : ∀ S', (o_ticksToFinish q m n N S).1 = 0 → scr S' (o_ticksToFinish q m n N S).2.2.2.2 → A (o_ticksToFinish q m n N S).2.1 S') (hB1 : ∀ S', (o_ticksToFinish q m n N S).1 = 1 → scr S' S → B "java/lang/IndexOutOfBoundsException" S') (hB2 : ∀ S', (o_ticksToFinish q m n N S).1 = 2 → scr S' S → B "java/lang/IllegalArgumentException" S') : Ki w mX7_ticksToFinish yX7_ticksToFinish 1 6 [xp 0 0, xi q, xi m] S A B := by
  refine K.of rfl rfl rfl rfl (Nat.le_of_ble_eq_true rfl) rfl ?_
  obtain ⟨hVT, hN20, h8, hg, hp, ho, hs⟩ := id hV
  have hn := hg.1
  have hN := hVT.1
  have ht := hVT.2.2.1
  refine xs_aload_0 eX7_ticksToFinish_0 ?_
  refine g_X7_0 eX7_ticksToFinish_1 lRX7_10 ?_
  refine xs_iload_1 eX7_ticksToFinish_4 ?_
  by_cases c5 : 0 ≤ q ∧ q < (n : Int)
  · refine xbo_V10 (mi' := mX4_knownProcess) (y := yX4_knownProcess) eX7_ticksToFinish_5 (xw_5 lRX7_60 wy_X4_knownProcess) rfl ⟨wd_X4_knownProcess, by decide, by decide⟩ (by decide) (fun _ => rfl) rfl (Nat.le_of_ble_eq_true rfl) rfl (kI_X4_knownProcess hn h8 c5 ?_)
    refine xa_pop eX7_ticksToFinish_8 rfl ?_
    refine xs_iload_2 eX7_ticksToFinish_9 ?_
    refine xa_iconst eX7_ticksToFinish_10 ?_
    refine xa_sipush eX7_ticksToFinish_11 (by decide) ?_
    by_cases c14 : 1 ≤ m ∧ m ≤ 500
    · refine xbv_S30 (mi' := mX7_checkRange) (y := yX7_checkRange) eX7_ticksToFinish_14 (xw_4 lRX7_45 wy_X7_checkRange) rfl rfl ⟨wd_X7_checkRange, by decide, by decide⟩ (Nat.le_of_ble_eq_true rfl) rfl (kk_X7_checkRange ym (by decide) (by decide) c14 ?_)
      obtain ⟨q9, rfl⟩ : ∃ q9 : Nat, q = (q9 : Int) := ⟨q.toNat, by omega⟩
      have hqn : q9 < n := by omega
      obtain ⟨m9, rfl⟩ : ∃ m9 : Nat, m = (m9 : Int) := ⟨m.toNat, by omega⟩
      have hV1 : VS 1 n N T (cpyS 0 1 n N S) := hV.cpy (by decide)
      have hfr1 : xts 1 (cpyS 0 1 n N S) S := cpyS_fr h8 (by omega)
      obtain ⟨g, hg9⟩ : ∃ g : Nat → Bool, g = (fun i => decide (itr (tckS 1 n N) i (cpyS 0 1 n N S) 4 (8 * 1 + q9) 1 = 0)) := ⟨_, rfl⟩
      have lp : ∀ i : Nat, i ≤ m9 + 1 → frs g (m9 + 1 - i) i = frs g (m9 + 1) 0 → X w mX7_ticksToFinish (xTG w (fun v S' => ∃ a, v = some (xi a) ∧ A a S') B) 1 6 40 [xp 0 0, xi (q9 : Int), xi (m9 : Int), xp 4 (8 * 1 + q9), xi (i : Int)] [] (itr (tckS 1 n N) i (cpyS 0 1 n N S)) := by
        refine nloop (m9 + 1) (fun i hi ih hI => ?_)
        refine xs_iload_4 eX7_ticksToFinish_40 ?_
        refine xs_iload_2 eX7_ticksToFinish_42 ?_
        refine xa_icmp_gt (tgt := 70) eX7_ticksToFinish_43 (by decide) (by omega) (by omega) (fun c43 => ?_) (fun c43 => ?_)
        · refine xa_iconst eX7_ticksToFinish_70 ?_
          exact xa_iret eX7_ticksToFinish_71 rfl ⟨_, rfl, by have h9 := hA; unfold o_ticksToFinish at h9; rw [if_pos c5, if_pos c14, Int.toNat_natCast, Int.toNat_natCast, ← hg9, ← hI, show m9 + 1 - i = 0 by omega, frs] at h9; exact h9 _ rfl (((itr_fr hV1 i).tr hfr1).scr (Or.inl rfl))⟩
        · refine xs_aload_3 eX7_ticksToFinish_46 ?_
          refine gr_X0_1 eX7_ticksToFinish_47 lRX7_79 (fun r47 => ?_)
          refine xa_if_ne (tgt := 56) eX7_ticksToFinish_50 (by decide) (by omega) (fun c50 => ?_) (fun c50 => ?_)
          · refine xs_aload_0 eX7_ticksToFinish_56 ?_
            refine g_X7_1 eX7_ticksToFinish_57 lRX7_16 ?_
            refine xa_iconst eX7_ticksToFinish_60 ?_
            refine xbv_V10 (mi' := mX4_pass) (y := yX4_pass) eX7_ticksToFinish_61 (xw_5 lRX7_223 wy_X4_pass) rfl ⟨wd_X4_pass, by decide, by decide⟩ (by decide) (fun _ => rfl) rfl (Nat.le_of_ble_eq_true rfl) rfl (f_X4_pass (s := 1) (m := 1) (hV1.itr i) (by omega) (by omega) ?_)
            refine xs_iinc_4 eX7_ticksToFinish_64 rfl ?_
            refine xa_goto (tgt := 40) eX7_ticksToFinish_67 (by decide) ?_
            have hgi : ¬ g i = true := by rw [hg9]; simpa using c50
            have h9 := ih (i + 1) (by omega) (by omega) (by rw [← hI, frs_g (i := i) (by omega), if_neg hgi])
            rw [show (i : Int) + 1 = ((i + 1 : Nat) : Int) by omega]
            exact h9
          · refine xs_iload_4 eX7_ticksToFinish_53 ?_
            exact xa_iret eX7_ticksToFinish_55 rfl ⟨_, rfl, by have hgi : g i = true := (by rw [hg9]; simpa using c50); have h9 := hA; unfold o_ticksToFinish at h9; rw [if_pos c5, if_pos c14, Int.toNat_natCast, Int.toNat_natCast, ← hg9, ← hI, frs_g (by omega), if_pos hgi] at h9; exact h9 _ rfl (((itr_fr hV1 i).tr hfr1).scr (Or.inl rfl))⟩
      refine xs_aload_0 eX7_ticksToFinish_17 ?_
      refine g_X7_1 eX7_ticksToFinish_18 lRX7_16 ?_
      refine xs_aload_0 eX7_ticksToFinish_21 ?_
      refine g_X7_0 eX7_ticksToFinish_22 lRX7_10 ?_
      refine xbv_V10 (mi' := mX4_copyFrom) (y := yX4_copyFrom) eX7_ticksToFinish_25 (xw_5 lRX7_226 wy_X4_copyFrom) rfl ⟨wd_X4_copyFrom, by decide, by decide⟩ (by decide) (fun _ => rfl) rfl (Nat.le_of_ble_eq_true rfl) rfl (f_X4_copyFrom (u := 0) (s := 1) (by decide) hn h8 hVT (by omega) ?_)
      refine xs_aload_0 eX7_ticksToFinish_28 ?_
      refine g_X7_1 eX7_ticksToFinish_29 lRX7_16 ?_
      refine xs_iload_1 eX7_ticksToFinish_32 ?_
      refine xbo_V10 (mi' := mX4_knownProcess) (y := yX4_knownProcess) eX7_ticksToFinish_33 (xw_5 lRX7_60 wy_X4_knownProcess) rfl ⟨wd_X4_knownProcess, by decide, by decide⟩ (by decide) (fun _ => rfl) rfl (Nat.le_of_ble_eq_true rfl) rfl (kI_X4_knownProcess (s := 1) (n := n) (hV1.g.1) h8 (by omega) ?_)
      rw [Int.toNat_natCast]
      refine xs_astore_3 eX7_ticksToFinish_36 rfl ?_
      refine xa_iconst eX7_ticksToFinish_37 ?_
      refine xs_istore_4 eX7_ticksToFinish_38 rfl ?_
      exact lp 0 (by omega) rfl
    · exact xbv_S3 (mi' := mX7_checkRange) (y := yX7_checkRange) eX7_ticksToFinish_14 (xw_4 lRX7_45 wy_X7_checkRange) rfl rfl ⟨wd_X7_checkRange, by decide, by decide⟩ (Nat.le_of_ble_eq_true rfl) rfl ⟨by decide, by decide⟩ (kt_X7_checkRange ym (by decide) (by decide) c14 (xt_out rfl (hB2 S (by unfold o_ticksToFinish; rw [if_pos c5, if_neg c14]) scr.rf)))
  · exact xbo_V1 (mi' := mX4_knownProcess) (y := yX4_knownProcess) eX7_ticksToFinish_5 (xw_5 lRX7_60 wy_X4_knownProcess) rfl ⟨wd_X4_knownProcess, by decide, by decide⟩ (by decide) (fun _ => rfl) rfl (Nat.le_of_ble_eq_true rfl) rfl ⟨by decide, by decide⟩ (kt_X4_knownProcess hn h8 yq c5 (xt_out rfl (hB1 S (by unfold o_ticksToFinish; rw [if_neg c5]) scr.rf)))
