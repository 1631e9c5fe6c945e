/-! running and forecasts -/
theorem cpyS_fr {u s n N : Nat} {S : xS} (hn : n ≤ 8) (hN : N ≤ 32) : xts s (cpyS u s n N S) S := by
  intro x y h1 h2 h3 h4 h5 h6
  unfold cpyS
  rw [up_oth (by omega), up_oth (by omega), up_oth (by omega), up_oth (by omega), up_oth (by omega), up_oth (by omega), up_oth (by omega), up_oth (by omega), up_oth (by omega), up_oth (by omega)]
  funext f
  unfold cpyP
  rw [if_neg (by omega)]
  unfold cpy0
  rw [up_oth (by omega), up_oth (by omega), up_oth (by omega)]
  unfold cpyV
  rw [if_neg (by omega)]
  unfold cpyT
  rw [if_neg (by omega), if_neg (by omega), if_neg (by omega)]
theorem Rel.cpys {u s n N : Nat} {C : xS} {M : Nat → Int} (hne : s ≠ u) (h : Rel u n N C M) : Rel s n N (cpyS u s n N C) M := by
  obtain ⟨h1, h2, h3, h4⟩ := h
  obtain ⟨e1, e2, e10, e4, e51, e52, e25⟩ := cpyS_at (n := n) (N := N) (S := C) hne
  have er : ∀ j, j < N → cpyT u s N C 10 (32 * s + j) = C 10 (32 * u + j) := fun j hj => by
    funext f
    unfold cpyT
    rw [if_neg (by omega), if_neg (by omega), if_pos ⟨rfl, by omega, by omega⟩, Nat.add_sub_cancel_left]
  have et : cpyT u s N C 2 s 2 = C 2 u 2 := by unfold cpyT; rw [if_neg (by omega), if_pos ⟨rfl, rfl, rfl⟩]
  have et1 : cpyT u s N C 2 s 1 = C 2 u 1 := by unfold cpyT; rw [if_pos ⟨rfl, rfl, rfl⟩]
  refine ⟨fun i hi => ?_, fun p f hp hf => ?_, fun j hj => ?_, fun i hi => by rw [e25 i hi]; exact h4 i hi⟩
  · rw [h1 i hi]
    have b' : i = 0 ∨ i = 1 ∨ i = 2 ∨ i = 3 ∨ i = 4 ∨ i = 5 ∨ i = 6 ∨ i = 7 ∨ i = 8 ∨ i = 9 ∨ i = 10 ∨ i = 11 ∨ i = 12 ∨ i = 13 ∨ i = 14 := by omega
    rcases b' with rfl | rfl | rfl | rfl | rfl | rfl | rfl | rfl | rfl | rfl | rfl | rfl | rfl | rfl | rfl
    · show _ = cpyS u s n N C 2 s 2; rw [e2, et]; rfl
    · exact (e1 3 (by decide) (by decide)).symm
    · show _ = cpyS u s n N C 2 s 1; rw [e2, et1]; rfl
    · exact (e1 4 (by decide) (by decide)).symm
    · exact (e1 5 (by decide) (by decide)).symm
    · exact (e1 7 (by decide) (by decide)).symm
    · exact (e1 8 (by decide) (by decide)).symm
    · exact (e1 9 (by decide) (by decide)).symm
    · exact (e1 10 (by decide) (by decide)).symm
    · exact (e1 11 (by decide) (by decide)).symm
    · exact (e1 12 (by decide) (by decide)).symm
    · exact (e1 13 (by decide) (by decide)).symm
    · exact e51.symm
    · exact e52.symm
    · exact (e1 6 (by decide) (by decide)).symm
  · rw [h2 p f hp hf]
    by_cases c : p < n
    · rw [if_pos c, if_pos c, e4 p c]
    · rw [if_neg c, if_neg c]
  · rw [e2, e10, er j hj, et]; exact h3 j hj
theorem VS.fr {s u n N : Nat} {T : Int} {S S1 : xS} (h : VS s n N T S) (hx : xts u S1 S) (hu : s ≠ u) : VS s n N T S1 := by
  obtain ⟨⟨a1, a2, a3, a4⟩, h2, h3, h4, h5, h6, h7⟩ := h
  have e1 := hx 1 s (by omega) (by omega) (by omega) (by omega) (by omega) (by omega)
  have e2 := hx 2 s (by omega) (by omega) (by omega) (by omega) (by omega) (by omega)
  have e5 := hx 5 s (by omega) (by omega) (by omega) (by omega) (by omega) (by omega)
  have e25 := hx 25 s (by omega) (by omega) (by omega) (by omega) (by omega) (by omega)
  have e10 : ∀ j, j < N → S1 10 (32 * s + j) = S 10 (32 * s + j) := fun j hj => hx 10 (32 * s + j) (by omega) (by omega) (by omega) (by omega) (by omega) (by omega)
  have e4 : ∀ p, p < n → S1 4 (8 * s + p) = S 4 (8 * s + p) := fun j hj => hx 4 (8 * s + j) (by omega) (by omega) (by omega) (by omega) (by omega) (by omega)
  refine ⟨⟨by rw [e2]; exact a1, a2, by rw [e2]; exact a3, fun j hj => by rw [e2, e10 j hj]; exact a4 j hj⟩, h2, h3, by rw [e1]; exact h4, fun p hp => by rw [e4 p hp]; exact h5 p hp, fun j hj => by rw [e2, e10 j hj]; exact h6 j hj, by rw [e5, e25]; exact h7⟩
theorem VS.pus {s n N p f : Nat} {T v : Int} {S : xS} (h : VS s n N T S) (hp : p < n) (hv : PQ T (fun g => if g = f then v else S 4 (8 * s + p) g)) : VS s n N T (up S 4 (8 * s + p) f v) := by
  refine h.chg (Int.le_refl _) (up_oth (by omega)) (up_oth (by omega)) (up_oth (by omega)) (by rw [up_oth (by omega)]; exact h.g) (fun q hq => ?_) (fun j g _ _ _ _ => up_k (by decide)) (fun j hj => ?_)
  · by_cases e : q = p
    · subst e; rw [up_row]; exact hv
    · rw [up_oth (by omega)]; exact h.p hq
  · have h9 := h.o hj
    unfold OQ at h9
    rw [up_k (by decide), up_k (by decide), up_k (by decide)]
    omega
theorem Rel.xts {s u n N : Nat} {C D : xS} {M : Nat → Int} (h : Rel s n N C M) (hn : n ≤ 8) (hN : N ≤ 20) (hx : xts u D C) (hu : s ≠ u) : Rel s n N D M := h.cls hn hN (fun x y k => hx x y (by omega) (by omega) (by omega) (by omega) (by omega) (by omega))
def o_run (m : Int) (n N : Nat) (C : xS) : xO := if 1 ≤ m ∧ m ≤ 500 then (0, itr (tckS 0 n N) m.toNat C 1 0 10 - C 1 0 10, n, N, itr (tckS 0 n N) m.toNat C) else (1, 0, n, N, C)
def o_ticksToFinish (q m : Int) (n N : Nat) (C : xS) : xO := if 0 ≤ q ∧ q < (n : Int) then (if 1 ≤ m ∧ m ≤ 500 then (0, frs (fun i => decide (itr (tckS 1 n N) i (cpyS 0 1 n N C) 4 (8 * 1 + q.toNat) 1 = 0)) (m.toNat + 1) 0, n, N, C) else (2, 0, n, N, C)) else (1, 0, n, N, C)
def o_moneyAfter (q m : Int) (n N : Nat) (C : xS) : xO := if 0 ≤ q ∧ q < (n : Int) then (if 1 ≤ m ∧ m ≤ 500 then (0, itr (tckS 1 n N) m.toNat (cpyS 0 1 n N C) 4 (8 * 1 + q.toNat) 0, n, N, C) else (2, 0, n, N, C)) else (1, 0, n, N, C)
theorem frs_g {g : Nat → Bool} {m i : Nat} (h : i ≤ m) : frs g (m + 1 - i) i = if g i = true then (i : Int) else frs g (m + 1 - (i + 1)) (i + 1) := by
  rw [show m + 1 - i = (m + 1 - (i + 1)) + 1 by omega, frs]
set_option maxHeartbeats 400000 in
theorem F_run {w : xW} {S : xS} {B : String → xS → Prop} {A : Int → xS → Prop} {m : Int} {n N : Nat} {T : Int} (hV : VS 0 n N T S) (hT : T ≤ 800000) (ym : xr m)  (hA : ∀ S', (o_run m n N S).1 = 0 → scr S' (o_run m n N S).2.2.2.2 → A (o_run m n N S).2.1 S') (hB1 : ∀ S', (o_run m n N S).1 = 1 → scr S' S → B "java/lang/IllegalArgumentException" S') : Ki w mX7_run yX7_run 1 6 [xp 0 0, xi m] S A B := by
  refine K.of rfl rfl rfl rfl (Nat.le_of_ble_eq_true rfl) rfl ?_
  obtain ⟨hVT, hN20, h8, hg, hp, ho, hs⟩ := id hV
  have hn := hg.1
  have hN := hVT.1
  have ht := hVT.2.2.1
  refine xs_iload_1 eX7_run_0 ?_
  refine xa_iconst eX7_run_1 ?_
  refine xa_sipush eX7_run_2 (by decide) ?_
  by_cases c5 : 1 ≤ m ∧ m ≤ 500
  · refine xbv_S30 (mi' := mX7_checkRange) (y := yX7_checkRange) eX7_run_5 (xw_4 lRX7_45 wy_X7_checkRange) rfl rfl ⟨wd_X7_checkRange, by decide, by decide⟩ (Nat.le_of_ble_eq_true rfl) rfl (kk_X7_checkRange ym (by decide) (by decide) c5 ?_)
    obtain ⟨m9, rfl⟩ : ∃ m9 : Nat, m = (m9 : Int) := ⟨m.toNat, by omega⟩
    refine xs_aload_0 eX7_run_8 ?_
    refine g_X7_0 eX7_run_9 lRX7_10 ?_
    refine gr_X4_10 eX7_run_12 lRX7_220 (fun r12 => ?_)
    refine xs_istore_2 eX7_run_15 rfl ?_
    refine xs_aload_0 eX7_run_16 ?_
    refine g_X7_0 eX7_run_17 lRX7_10 ?_
    refine xs_iload_1 eX7_run_20 ?_
    refine xbv_V10 (mi' := mX4_pass) (y := yX4_pass) eX7_run_21 (xw_5 lRX7_223 wy_X4_pass) rfl ⟨wd_X4_pass, by decide, by decide⟩ (by decide) (fun _ => rfl) rfl (Nat.le_of_ble_eq_true rfl) rfl (f_X4_pass (s := 0) hV (by omega) (by omega) ?_)
    refine xs_aload_0 eX7_run_24 ?_
    refine g_X7_0 eX7_run_25 lRX7_10 ?_
    refine gr_X4_10 eX7_run_28 lRX7_220 (fun r28 => ?_)
    refine xs_iload_2 eX7_run_31 ?_
    refine xa_isub eX7_run_32 ?_
    exact xa_iret eX7_run_33 rfl ⟨_, rfl, by have h9 := hA; unfold o_run at h9; rw [if_pos c5] at h9; exact h9 _ rfl scr.rf⟩
  · exact xbv_S3 (mi' := mX7_checkRange) (y := yX7_checkRange) eX7_run_5 (xw_4 lRX7_45 wy_X7_checkRange) rfl rfl ⟨wd_X7_checkRange, by decide, by decide⟩ (Nat.le_of_ble_eq_true rfl) rfl ⟨by decide, by decide⟩ (kt_X7_checkRange ym (by decide) (by decide) c5 (xt_out rfl (hB1 S (by unfold o_run; rw [if_neg c5]) scr.rf)))
set_option maxHeartbeats 400000 in
theorem G_run {w : xW} {S : xS} {B : String → xS → Prop} {A : Int → xS → Prop} {m : Int} {n N : Nat} {T : Int} {C : xS} {M : Nat → Int} (hV : VS 0 n N T C) (hT : T ≤ 800000) (hR : Rel 0 n N C M) (ym : xr m)  (hq : ∀ r S' M', ((o_run m n N C).1 = 0 → r = (o_run m n N C).2.1) → rfr S' S → S' 30 0 4 = ((o_run m n N C).1 : Int) → Rel 0 (o_run m n N C).2.2.1 (o_run m n N C).2.2.2.1 (o_run m n N C).2.2.2.2 M' → A r (stM M' S')) : Ki w mX8_run yX8_run 0 0 [xp 30 0, xi m] (stM M S) A B := by
  refine K.of rfl rfl rfl rfl (Nat.le_of_ble_eq_true rfl) rfl ?_
  obtain ⟨hVT, hN20, h8, hg, hp, ho, hs⟩ := id hV
  have hn := hg.1
  have hN := hVT.1
  have ht := hVT.2.2.1
  have hM1 : M 1 = (n : Int) := by rw [hR.1 1 (by decide)]; exact hn
  have hM2 : M 2 = (N : Int) := by rw [hR.1 2 (by decide)]; exact hN
  refine xs_aload_0 eX8_run_0 ?_
  refine xa_iconst eX8_run_1 ?_
  refine p_X8_4 eX8_run_2 lRX8_52 (by decide) ?_
  rw [up_stO (by decide)]
  refine xs_iload_1 eX8_run_5 ?_
  refine xa_i2l eX8_run_6 (by omega) ?_
  refine xa_lconst1 eX8_run_7 ?_
  refine xa_ldc2 (a := 500) eX8_run_8 lRX8_262 (by decide) ?_
  refine xbi_S30 (mi' := mX8_isBetween) (y := yX8_isBetween) eX8_run_11 (xw_4 lRX8_61 wy_X8_isBetween) rfl rfl ⟨wd_X8_isBetween, by decide, by decide⟩ (Nat.le_of_ble_eq_true rfl) rfl (k_X8_isBetween (by omega) (by decide) (by decide) ?_)
  refine xa_ifb_ne (tgt := 23) eX8_run_14 (by decide) (fun c14 => ?_) (fun c14 => ?_)
  · obtain ⟨m9, rfl⟩ : ∃ m9 : Nat, m = (m9 : Int) := ⟨m.toNat, by omega⟩
    have lp : ∀ i : Nat, i ≤ m9 → ∀ M2, Rel 0 n N (itr (tckS 0 n N) i C) M2 → X w mX8_run (xTG w (fun v S' => ∃ a, v = some (xi a) ∧ A a S') B) 0 0 32 [xp 30 0, xi (m9 : Int), xi (C 1 0 10), xi (i : Int)] [] (stM M2 (up S 30 0 4 0)) := by
      refine nloop m9 (fun i hi ih M2 hM2 => ?_)
      refine xs_iload_3 eX8_run_32 ?_
      refine xs_iload_1 eX8_run_33 ?_
      refine xa_icmp_ge (tgt := 47) eX8_run_34 (by decide) (by omega) (by omega) (fun c34 => ?_) (fun c34 => ?_)
      · refine xs_aload_0 eX8_run_47 ?_
        refine xa_bipush eX8_run_48 (by decide) ?_
        refine xbi_V10 (mi' := mX8_number) (y := yX8_number) eX8_run_50 (xw_5 lRX8_65 wy_X8_number) rfl ⟨wd_X8_number, by decide, by decide⟩ (by decide) (fun _ => rfl) rfl (Nat.le_of_ble_eq_true rfl) rfl (r_X8_number (i := 8) hM2 rfl (by decide) ?_)
        refine xs_iload_2 eX8_run_53 ?_
        refine xa_isub eX8_run_54 ?_
        exact xa_iret eX8_run_55 rfl ⟨_, rfl, by have h9 := hq; unfold o_run at h9; rw [if_pos c14, Int.toNat_natCast] at h9; obtain rfl : i = m9 := (by omega); exact h9 _ _ M2 (fun _ => rfl) rfr.t (by rw [up_same]; rfl) hM2⟩
      · refine xs_aload_0 eX8_run_37 ?_
        refine xbv_V00 (mi' := mX8_tick) (y := yX8_tick) eX8_run_38 (xw_5 lRX8_184 wy_X8_tick) rfl ⟨wd_X8_tick, by decide, by decide⟩ (by decide) (fun _ => rfl) rfl (Nat.le_of_ble_eq_true rfl) rfl (f_X8_tick (hV.itr i) (by omega) hM2 (fun M3 hM3 => ?_))
        refine xs_iinc_3 eX8_run_41 rfl ?_
        refine xa_goto (tgt := 32) eX8_run_44 (by decide) ?_
        have h9 := ih (i + 1) (by omega) (by omega) M3 hM3
        rw [show (i : Int) + 1 = ((i + 1 : Nat) : Int) by omega]
        exact h9
    refine xs_aload_0 eX8_run_23 ?_
    refine xa_bipush eX8_run_24 (by decide) ?_
    refine xbi_V10 (mi' := mX8_number) (y := yX8_number) eX8_run_26 (xw_5 lRX8_65 wy_X8_number) rfl ⟨wd_X8_number, by decide, by decide⟩ (by decide) (fun _ => rfl) rfl (Nat.le_of_ble_eq_true rfl) rfl (r_X8_number (i := 8) hR rfl (by decide) ?_)
    refine xs_istore_2 eX8_run_29 rfl ?_
    refine xa_iconst eX8_run_30 ?_
    refine xs_istore_3 eX8_run_31 rfl ?_
    exact lp 0 (by omega) M hR
  · refine xs_aload_0 eX8_run_17 ?_
    refine xa_iconst eX8_run_18 ?_
    refine xbi_V10 (mi' := mX8_fail) (y := yX8_fail) eX8_run_19 (xw_5 lRX8_89 wy_X8_fail) rfl ⟨wd_X8_fail, by decide, by decide⟩ (by decide) (fun _ => rfl) rfl (Nat.le_of_ble_eq_true rfl) rfl (k_X8_fail (by decide) ?_)
    rw [up_stO (by decide)]
    exact xa_iret eX8_run_22 rfl ⟨_, rfl, by have h9 := hq; unfold o_run at h9; rw [if_neg c14] at h9; exact h9 _ _ _ (fun z => absurd z (Nat.succ_ne_zero _)) (rfr.t.tr rfr.t) (by rw [up_same]; rfl) hR⟩
set_option maxHeartbeats 400000 in
theorem F_moneyAfter {w : xW} {S : xS} {B : String → xS → Prop} {A : Int → xS → Prop} {q m : Int} {n N : Nat} {T : Int} (hV : VS 0 n N T S) (hT : T ≤ 800000) (yq : xr q) (ym : xr m)  (hA : ∀ S', (o_moneyAfter q m n N S).1 = 0 → scr S' (o_moneyAfter q m n N S).2.2.2.2 → A (o_moneyAfter q m n N S).2.1 S') (hB1 : ∀ S', (o_moneyAfter q m n N S).1 = 1 → scr S' S → B "java/lang/IndexOutOfBoundsException" S') (hB2 : ∀ S', (o_moneyAfter q m n N S).1 = 2 → scr S' S → B "java/lang/IllegalArgumentException" S') : Ki w mX7_moneyAfter yX7_moneyAfter 1 6 [xp 0 0, xi q, xi m] S A B := by
  refine K.of rfl rfl rfl rfl (Nat.le_of_ble_eq_true rfl) rfl ?_
  obtain ⟨hVT, hN20, h8, hg, hp, ho, hs⟩ := id hV
  have hn := hg.1
  have hN := hVT.1
  have ht := hVT.2.2.1
  refine xs_aload_0 eX7_moneyAfter_0 ?_
  refine g_X7_0 eX7_moneyAfter_1 lRX7_10 ?_
  refine xs_iload_1 eX7_moneyAfter_4 ?_
  by_cases c5 : 0 ≤ q ∧ q < (n : Int)
  · refine xbo_V10 (mi' := mX4_knownProcess) (y := yX4_knownProcess) eX7_moneyAfter_5 (xw_5 lRX7_60 wy_X4_knownProcess) rfl ⟨wd_X4_knownProcess, by decide, by decide⟩ (by decide) (fun _ => rfl) rfl (Nat.le_of_ble_eq_true rfl) rfl (kI_X4_knownProcess hn h8 c5 ?_)
    refine xa_pop eX7_moneyAfter_8 rfl ?_
    refine xs_iload_2 eX7_moneyAfter_9 ?_
    refine xa_iconst eX7_moneyAfter_10 ?_
    refine xa_sipush eX7_moneyAfter_11 (by decide) ?_
    by_cases c14 : 1 ≤ m ∧ m ≤ 500
    · refine xbv_S30 (mi' := mX7_checkRange) (y := yX7_checkRange) eX7_moneyAfter_14 (xw_4 lRX7_45 wy_X7_checkRange) rfl rfl ⟨wd_X7_checkRange, by decide, by decide⟩ (Nat.le_of_ble_eq_true rfl) rfl (kk_X7_checkRange ym (by decide) (by decide) c14 ?_)
      obtain ⟨q9, rfl⟩ : ∃ q9 : Nat, q = (q9 : Int) := ⟨q.toNat, by omega⟩
      have hqn : q9 < n := by omega
      obtain ⟨m9, rfl⟩ : ∃ m9 : Nat, m = (m9 : Int) := ⟨m.toNat, by omega⟩
      have hV1 : VS 1 n N T (cpyS 0 1 n N S) := hV.cpy (by decide)
      have hfr1 : xts 1 (cpyS 0 1 n N S) S := cpyS_fr h8 (by omega)
      refine xs_aload_0 eX7_moneyAfter_17 ?_
      refine g_X7_1 eX7_moneyAfter_18 lRX7_16 ?_
      refine xs_aload_0 eX7_moneyAfter_21 ?_
      refine g_X7_0 eX7_moneyAfter_22 lRX7_10 ?_
      refine xbv_V10 (mi' := mX4_copyFrom) (y := yX4_copyFrom) eX7_moneyAfter_25 (xw_5 lRX7_226 wy_X4_copyFrom) rfl ⟨wd_X4_copyFrom, by decide, by decide⟩ (by decide) (fun _ => rfl) rfl (Nat.le_of_ble_eq_true rfl) rfl (f_X4_copyFrom (u := 0) (s := 1) (by decide) hn h8 hVT (by omega) ?_)
      refine xs_aload_0 eX7_moneyAfter_28 ?_
      refine g_X7_1 eX7_moneyAfter_29 lRX7_16 ?_
      refine xs_iload_2 eX7_moneyAfter_32 ?_
      refine xbv_V10 (mi' := mX4_pass) (y := yX4_pass) eX7_moneyAfter_33 (xw_5 lRX7_223 wy_X4_pass) rfl ⟨wd_X4_pass, by decide, by decide⟩ (by decide) (fun _ => rfl) rfl (Nat.le_of_ble_eq_true rfl) rfl (f_X4_pass (s := 1) hV1 (by omega) (by omega) ?_)
      refine xs_aload_0 eX7_moneyAfter_36 ?_
      refine g_X7_1 eX7_moneyAfter_37 lRX7_16 ?_
      refine xs_iload_1 eX7_moneyAfter_40 ?_
      refine xbo_V10 (mi' := mX4_knownProcess) (y := yX4_knownProcess) eX7_moneyAfter_41 (xw_5 lRX7_60 wy_X4_knownProcess) rfl ⟨wd_X4_knownProcess, by decide, by decide⟩ (by decide) (fun _ => rfl) rfl (Nat.le_of_ble_eq_true rfl) rfl (kI_X4_knownProcess (s := 1) (n := n) ((hV1.itr m9).g.1) h8 (by omega) ?_)
      refine gr_X0_0 eX7_moneyAfter_44 lRX7_85 (fun r44 => ?_)
      exact xa_iret eX7_moneyAfter_47 rfl ⟨_, rfl, by have h9 := hA; unfold o_moneyAfter at h9; rw [if_pos c5, if_pos c14] at h9; exact h9 _ rfl (((itr_fr hV1 m9).tr hfr1).scr (Or.inl rfl))⟩
    · exact xbv_S3 (mi' := mX7_checkRange) (y := yX7_checkRange) eX7_moneyAfter_14 (xw_4 lRX7_45 wy_X7_checkRange) rfl rfl ⟨wd_X7_checkRange, by decide, by decide⟩ (Nat.le_of_ble_eq_true rfl) rfl ⟨by decide, by decide⟩ (kt_X7_checkRange ym (by decide) (by decide) c14 (xt_out rfl (hB2 S (by unfold o_moneyAfter; rw [if_pos c5, if_neg c14]) scr.rf)))
  · exact xbo_V1 (mi' := mX4_knownProcess) (y := yX4_knownProcess) eX7_moneyAfter_5 (xw_5 lRX7_60 wy_X4_knownProcess) rfl ⟨wd_X4_knownProcess, by decide, by decide⟩ (by decide) (fun _ => rfl) rfl (Nat.le_of_ble_eq_true rfl) rfl ⟨by decide, by decide⟩ (kt_X4_knownProcess hn h8 yq c5 (xt_out rfl (hB1 S (by unfold o_moneyAfter; rw [if_neg c5]) scr.rf)))
set_option maxHeartbeats 400000 in
theorem G_moneyAfter {w : xW} {S : xS} {B : String → xS → Prop} {A : Int → xS → Prop} {q m : Int} {n N : Nat} {T : Int} {C : xS} {M : Nat → Int} (hV : VS 0 n N T C) (hT : T ≤ 800000) (hR : Rel 0 n N C M) (yq : xr q) (ym : xr m)  (hq : ∀ r S' M', ((o_moneyAfter q m n N C).1 = 0 → r = (o_moneyAfter q m n N C).2.1) → rfr S' S → S' 30 0 4 = ((o_moneyAfter q m n N C).1 : Int) → Rel 0 (o_moneyAfter q m n N C).2.2.1 (o_moneyAfter q m n N C).2.2.2.1 (o_moneyAfter q m n N C).2.2.2.2 M' → A r (stM M' S')) : Ki w mX8_moneyAfter yX8_moneyAfter 0 0 [xp 30 0, xi q, xi m] (stM M S) A B := by
  refine K.of rfl rfl rfl rfl (Nat.le_of_ble_eq_true rfl) rfl ?_
  obtain ⟨hVT, hN20, h8, hg, hp, ho, hs⟩ := id hV
  have hn := hg.1
  have hN := hVT.1
  have ht := hVT.2.2.1
  have hM1 : M 1 = (n : Int) := by rw [hR.1 1 (by decide)]; exact hn
  have hM2 : M 2 = (N : Int) := by rw [hR.1 2 (by decide)]; exact hN
  refine xs_aload_0 eX8_moneyAfter_0 ?_
  refine xs_iload_1 eX8_moneyAfter_1 ?_
  refine xs_iload_2 eX8_moneyAfter_2 ?_
  refine xa_i2l eX8_moneyAfter_3 (by omega) ?_
  refine xa_lconst1 eX8_moneyAfter_4 ?_
  refine xa_ldc2 (a := 500) eX8_moneyAfter_5 lRX8_262 (by decide) ?_
  refine xbi_S30 (mi' := mX8_isBetween) (y := yX8_isBetween) eX8_moneyAfter_8 (xw_4 lRX8_61 wy_X8_isBetween) rfl rfl ⟨wd_X8_isBetween, by decide, by decide⟩ (Nat.le_of_ble_eq_true rfl) rfl (k_X8_isBetween (by omega) (by decide) (by decide) ?_)
  refine xbi_V20 (mi' := mX8_isRefused) (y := yX8_isRefused) eX8_moneyAfter_11 (xw_5 lRX8_102 wy_X8_isRefused) rfl ⟨wd_X8_isRefused, by decide, by decide⟩ (by decide) (fun _ => rfl) rfl (Nat.le_of_ble_eq_true rfl) rfl (r_X8_isRefused hV hR yq (fun k1 => ?_) (fun k1 k2 => ?_) (fun k1 k2 => ?_))
  · refine xa_if_eq (tgt := 19) eX8_moneyAfter_14 (by decide) (by decide) (fun c14 => ?_) (fun c14 => ?_)
    · exact absurd c14 (by decide)
    · refine xa_iconst eX8_moneyAfter_17 ?_
      exact xa_iret eX8_moneyAfter_18 rfl ⟨_, rfl, by have h9 := hq; unfold o_moneyAfter at h9; rw [if_neg k1] at h9; exact h9 _ _ _ (fun z => absurd z (Nat.succ_ne_zero _)) rfr.t (by rw [up_same]; rfl) hR⟩
  · refine xa_if_eq (tgt := 19) eX8_moneyAfter_14 (by decide) (by decide) (fun c14 => ?_) (fun c14 => ?_)
    · exact absurd c14 (by decide)
    · refine xa_iconst eX8_moneyAfter_17 ?_
      exact xa_iret eX8_moneyAfter_18 rfl ⟨_, rfl, by have h9 := hq; unfold o_moneyAfter at h9; rw [if_pos k1, if_neg k2] at h9; exact h9 _ _ _ (fun z => absurd z (Nat.succ_ne_zero _)) rfr.t (by rw [up_same]; rfl) hR⟩
  · refine xa_if_eq (tgt := 19) eX8_moneyAfter_14 (by decide) (by decide) (fun c14 => ?_) (fun c14 => ?_)
    · obtain ⟨q9, rfl⟩ : ∃ q9 : Nat, q = (q9 : Int) := ⟨q.toNat, by omega⟩
      have hqn : q9 < n := by omega
      obtain ⟨m9, rfl⟩ : ∃ m9 : Nat, m = (m9 : Int) := ⟨m.toNat, by omega⟩
      obtain ⟨S1, hS1e⟩ : ∃ S1 : xS, S1 = (cpA 31 0 32 0 527 (stM M (up S 30 0 4 0))) := ⟨_, rfl⟩
      have hS1 : rfr S1 S ∧ S1 30 0 4 = 0 ∧ ∀ f, f < 527 → S1 32 0 f = M f := by rw [hS1e]; exact ⟨(bkp_rfr M _).tr rfr.t, by rw [cpA_o (by decide), stM_k (by decide), up_same], fun f hf => bkp_32 hf⟩
      have hV1 : VS 1 n N T (cpyS 0 1 n N C) := hV.cpy (by decide)
      have hR1 : Rel 1 n N (cpyS 0 1 n N C) M := hR.cpys (by decide)
      have lp : ∀ i : Nat, i ≤ m9 → ∀ M2, Rel 1 n N (itr (tckS 1 n N) i (cpyS 0 1 n N C)) M2 → X w mX8_moneyAfter (xTG w (fun v S' => ∃ a, v = some (xi a) ∧ A a S') B) 0 0 34 [xp 30 0, xi (q9 : Int), xi (m9 : Int), xi (i : Int)] [] (stM M2 S1) := by
        refine nloop m9 (fun i hi ih M2 hM2 => ?_)
        refine xs_iload_3 eX8_moneyAfter_34 ?_
        refine xs_iload_2 eX8_moneyAfter_35 ?_
        refine xa_icmp_ge (tgt := 49) eX8_moneyAfter_36 (by decide) (by omega) (by omega) (fun c36 => ?_) (fun c36 => ?_)
        · refine xs_aload_0 eX8_moneyAfter_49 ?_
          refine xs_iload_1 eX8_moneyAfter_50 ?_
          refine xa_iconst eX8_moneyAfter_51 ?_
          refine xbi_V20 (mi' := mX8_of) (y := yX8_of) eX8_moneyAfter_52 (xw_5 lRX8_70 wy_X8_of) rfl ⟨wd_X8_of, by decide, by decide⟩ (by decide) (fun _ => rfl) rfl (Nat.le_of_ble_eq_true rfl) rfl (r_X8_of (p := q9) (g := 0) hM2 rfl rfl hqn h8 (by decide) ?_)
          refine xs_istore_3 eX8_moneyAfter_55 rfl ?_
          refine xs_aload_0 eX8_moneyAfter_56 ?_
          refine g_X8_1 eX8_moneyAfter_57 lRX8_13 ?_
          refine xa_iconst eX8_moneyAfter_60 ?_
          refine xs_aload_0 eX8_moneyAfter_61 ?_
          refine g_X8_0 eX8_moneyAfter_62 lRX8_7 ?_
          refine xa_iconst eX8_moneyAfter_65 ?_
          refine xbv_S40 (mi' := mX8_copy) (y := yX8_copy) eX8_moneyAfter_66 (xw_4 lRX8_180 wy_X8_copy) rfl rfl ⟨wd_X8_copy, by decide, by decide⟩ (Nat.le_of_ble_eq_true rfl) rfl (k_X8_copy_32_31 ?_)
          refine xs_iload_3 eX8_moneyAfter_69 ?_
          exact xa_iret eX8_moneyAfter_70 rfl ⟨_, rfl, by obtain rfl : i = m9 := (by omega); have h9 := hq; unfold o_moneyAfter at h9; rw [if_pos k1, if_pos k2, Int.toNat_natCast, Int.toNat_natCast] at h9; have h8b := h9 _ (cpA 32 0 31 0 527 (stM M2 S1)) (cpA 32 0 31 0 527 (stM M2 S1) 31 0) (fun _ => rfl) ((rst_rfr M2 S1).tr hS1.1) (by rw [cpA_o (by decide), stM_k (by decide)]; exact hS1.2.1) (rst_rel hR hN20 hS1.2.2); rw [stM_self] at h8b; exact h8b⟩
        · refine xs_aload_0 eX8_moneyAfter_39 ?_
          refine xbv_V00 (mi' := mX8_tick) (y := yX8_tick) eX8_moneyAfter_40 (xw_5 lRX8_184 wy_X8_tick) rfl ⟨wd_X8_tick, by decide, by decide⟩ (by decide) (fun _ => rfl) rfl (Nat.le_of_ble_eq_true rfl) rfl (f_X8_tick (hV1.itr i) (by omega) hM2 (fun M3 hM3 => ?_))
          refine xs_iinc_3 eX8_moneyAfter_43 rfl ?_
          refine xa_goto (tgt := 34) eX8_moneyAfter_46 (by decide) ?_
          have h9 := ih (i + 1) (by omega) (by omega) M3 hM3
          rw [show (i : Int) + 1 = ((i + 1 : Nat) : Int) by omega]
          exact h9
      refine xs_aload_0 eX8_moneyAfter_19 ?_
      refine g_X8_0 eX8_moneyAfter_20 lRX8_7 ?_
      refine xa_iconst eX8_moneyAfter_23 ?_
      refine xs_aload_0 eX8_moneyAfter_24 ?_
      refine g_X8_1 eX8_moneyAfter_25 lRX8_13 ?_
      refine xa_iconst eX8_moneyAfter_28 ?_
      refine xbv_S40 (mi' := mX8_copy) (y := yX8_copy) eX8_moneyAfter_29 (xw_4 lRX8_180 wy_X8_copy) rfl rfl ⟨wd_X8_copy, by decide, by decide⟩ (Nat.le_of_ble_eq_true rfl) rfl (k_X8_copy_31_32 ?_)
      rw [bkp, ← hS1e]
      refine xa_iconst eX8_moneyAfter_32 ?_
      refine xs_istore_3 eX8_moneyAfter_33 rfl ?_
      exact lp 0 (by omega) M hR1
    · exact absurd rfl c14
set_option maxHeartbeats 400000 in
theorem F_ticksToFinish {w : xW} {S : xS} {B : String → xS → Prop} {A : Int → xS → Prop} {q m : Int} {n N : Nat} {T : Int} (hV : VS 0 n N T S) (hT : T ≤ 800000) (yq : xr q) (ym : xr m)  (hA : ∀ S', (o_ticksToFinish q m n N S).1 = 0 → scr S' (o_ticksToFinish q m n N S).2.2.2.2 → A (o_ticksToFinish q m n N S).2.1 S') (hB1 : ∀ S', (o_ticksToFinish q m n N S).1 = 1 → scr S' S → B "java/lang/IndexOutOfBoundsException" S') (hB2 : ∀ S', (o_ticksToFinish q m n N S).1 = 2 → scr S' S → B "java/lang/IllegalArgumentException" S') : Ki w mX7_ticksToFinish yX7_ticksToFinish 1 6 [xp 0 0, xi q, xi m] S A B := by
  refine K.of rfl rfl rfl rfl (Nat.le_of_ble_eq_true rfl) rfl ?_
  obtain ⟨hVT, hN20, h8, hg, hp, ho, hs⟩ := id hV
  have hn := hg.1
  have hN := hVT.1
  have ht := hVT.2.2.1
  refine xs_aload_0 eX7_ticksToFinish_0 ?_
  refine g_X7_0 eX7_ticksToFinish_1 lRX7_10 ?_
  refine xs_iload_1 eX7_ticksToFinish_4 ?_
  by_cases c5 : 0 ≤ q ∧ q < (n : Int)
  · refine xbo_V10 (mi' := mX4_knownProcess) (y := yX4_knownProcess) eX7_ticksToFinish_5 (xw_5 lRX7_60 wy_X4_knownProcess) rfl ⟨wd_X4_knownProcess, by decide, by decide⟩ (by decide) (fun _ => rfl) rfl (Nat.le_of_ble_eq_true rfl) rfl (kI_X4_knownProcess hn h8 c5 ?_)
    refine xa_pop eX7_ticksToFinish_8 rfl ?_
    refine xs_iload_2 eX7_ticksToFinish_9 ?_
    refine xa_iconst eX7_ticksToFinish_10 ?_
    refine xa_sipush eX7_ticksToFinish_11 (by decide) ?_
    by_cases c14 : 1 ≤ m ∧ m ≤ 500
    · refine xbv_S30 (mi' := mX7_checkRange) (y := yX7_checkRange) eX7_ticksToFinish_14 (xw_4 lRX7_45 wy_X7_checkRange) rfl rfl ⟨wd_X7_checkRange, by decide, by decide⟩ (Nat.le_of_ble_eq_true rfl) rfl (kk_X7_checkRange ym (by decide) (by decide) c14 ?_)
      obtain ⟨q9, rfl⟩ : ∃ q9 : Nat, q = (q9 : Int) := ⟨q.toNat, by omega⟩
      have hqn : q9 < n := by omega
      obtain ⟨m9, rfl⟩ : ∃ m9 : Nat, m = (m9 : Int) := ⟨m.toNat, by omega⟩
      have hV1 : VS 1 n N T (cpyS 0 1 n N S) := hV.cpy (by decide)
      have hfr1 : xts 1 (cpyS 0 1 n N S) S := cpyS_fr h8 (by omega)
      obtain ⟨g, hg9⟩ : ∃ g : Nat → Bool, g = (fun i => decide (itr (tckS 1 n N) i (cpyS 0 1 n N S) 4 (8 * 1 + q9) 1 = 0)) := ⟨_, rfl⟩
      have lp : ∀ i : Nat, i ≤ m9 + 1 → frs g (m9 + 1 - i) i = frs g (m9 + 1) 0 → X w mX7_ticksToFinish (xTG w (fun v S' => ∃ a, v = some (xi a) ∧ A a S') B) 1 6 40 [xp 0 0, xi (q9 : Int), xi (m9 : Int), xp 4 (8 * 1 + q9), xi (i : Int)] [] (itr (tckS 1 n N) i (cpyS 0 1 n N S)) := by
        refine nloop (m9 + 1) (fun i hi ih hI => ?_)
        refine xs_iload_4 eX7_ticksToFinish_40 ?_
        refine xs_iload_2 eX7_ticksToFinish_42 ?_
        refine xa_icmp_gt (tgt := 70) eX7_ticksToFinish_43 (by decide) (by omega) (by omega) (fun c43 => ?_) (fun c43 => ?_)
        · refine xa_iconst eX7_ticksToFinish_70 ?_
          exact xa_iret eX7_ticksToFinish_71 rfl ⟨_, rfl, by have h9 := hA; unfold o_ticksToFinish at h9; rw [if_pos c5, if_pos c14, Int.toNat_natCast, Int.toNat_natCast, ← hg9, ← hI, show m9 + 1 - i = 0 by omega, frs] at h9; exact h9 _ rfl (((itr_fr hV1 i).tr hfr1).scr (Or.inl rfl))⟩
        · refine xs_aload_3 eX7_ticksToFinish_46 ?_
          refine gr_X0_1 eX7_ticksToFinish_47 lRX7_79 (fun r47 => ?_)
          refine xa_if_ne (tgt := 56) eX7_ticksToFinish_50 (by decide) (by omega) (fun c50 => ?_) (fun c50 => ?_)
          · refine xs_aload_0 eX7_ticksToFinish_56 ?_
            refine g_X7_1 eX7_ticksToFinish_57 lRX7_16 ?_
            refine xa_iconst eX7_ticksToFinish_60 ?_
            refine xbv_V10 (mi' := mX4_pass) (y := yX4_pass) eX7_ticksToFinish_61 (xw_5 lRX7_223 wy_X4_pass) rfl ⟨wd_X4_pass, by decide, by decide⟩ (by decide) (fun _ => rfl) rfl (Nat.le_of_ble_eq_true rfl) rfl (f_X4_pass (s := 1) (m := 1) (hV1.itr i) (by omega) (by omega) ?_)
            refine xs_iinc_4 eX7_ticksToFinish_64 rfl ?_
            refine xa_goto (tgt := 40) eX7_ticksToFinish_67 (by decide) ?_
            have hgi : ¬ g i = true := by rw [hg9]; simpa using c50
            have h9 := ih (i + 1) (by omega) (by omega) (by rw [← hI, frs_g (i := i) (by omega), if_neg hgi])
            rw [show (i : Int) + 1 = ((i + 1 : Nat) : Int) by omega]
            exact h9
          · refine xs_iload_4 eX7_ticksToFinish_53 ?_
            exact xa_iret eX7_ticksToFinish_55 rfl ⟨_, rfl, by have hgi : g i = true := (by rw [hg9]; simpa using c50); have h9 := hA; unfold o_ticksToFinish at h9; rw [if_pos c5, if_pos c14, Int.toNat_natCast, Int.toNat_natCast, ← hg9, ← hI, frs_g (by omega), if_pos hgi] at h9; exact h9 _ rfl (((itr_fr hV1 i).tr hfr1).scr (Or.inl rfl))⟩
      refine xs_aload_0 eX7_ticksToFinish_17 ?_
      refine g_X7_1 eX7_ticksToFinish_18 lRX7_16 ?_
      refine xs_aload_0 eX7_ticksToFinish_21 ?_
      refine g_X7_0 eX7_ticksToFinish_22 lRX7_10 ?_
      refine xbv_V10 (mi' := mX4_copyFrom) (y := yX4_copyFrom) eX7_ticksToFinish_25 (xw_5 lRX7_226 wy_X4_copyFrom) rfl ⟨wd_X4_copyFrom, by decide, by decide⟩ (by decide) (fun _ => rfl) rfl (Nat.le_of_ble_eq_true rfl) rfl (f_X4_copyFrom (u := 0) (s := 1) (by decide) hn h8 hVT (by omega) ?_)
      refine xs_aload_0 eX7_ticksToFinish_28 ?_
      refine g_X7_1 eX7_ticksToFinish_29 lRX7_16 ?_
      refine xs_iload_1 eX7_ticksToFinish_32 ?_
      refine xbo_V10 (mi' := mX4_knownProcess) (y := yX4_knownProcess) eX7_ticksToFinish_33 (xw_5 lRX7_60 wy_X4_knownProcess) rfl ⟨wd_X4_knownProcess, by decide, by decide⟩ (by decide) (fun _ => rfl) rfl (Nat.le_of_ble_eq_true rfl) rfl (kI_X4_knownProcess (s := 1) (n := n) (hV1.g.1) h8 (by omega) ?_)
      rw [Int.toNat_natCast]
      refine xs_astore_3 eX7_ticksToFinish_36 rfl ?_
      refine xa_iconst eX7_ticksToFinish_37 ?_
      refine xs_istore_4 eX7_ticksToFinish_38 rfl ?_
      exact lp 0 (by omega) rfl
    · exact xbv_S3 (mi' := mX7_checkRange) (y := yX7_checkRange) eX7_ticksToFinish_14 (xw_4 lRX7_45 wy_X7_checkRange) rfl rfl ⟨wd_X7_checkRange, by decide, by decide⟩ (Nat.le_of_ble_eq_true rfl) rfl ⟨by decide, by decide⟩ (kt_X7_checkRange ym (by decide) (by decide) c14 (xt_out rfl (hB2 S (by unfold o_ticksToFinish; rw [if_pos c5, if_neg c14]) scr.rf)))
  · exact xbo_V1 (mi' := mX4_knownProcess) (y := yX4_knownProcess) eX7_ticksToFinish_5 (xw_5 lRX7_60 wy_X4_knownProcess) rfl ⟨wd_X4_knownProcess, by decide, by decide⟩ (by decide) (fun _ => rfl) rfl (Nat.le_of_ble_eq_true rfl) rfl ⟨by decide, by decide⟩ (kt_X4_knownProcess hn h8 yq c5 (xt_out rfl (hB1 S (by unfold o_ticksToFinish; rw [if_neg c5]) scr.rf)))
set_option maxHeartbeats 400000 in
theorem G_ticksToFinish {w : xW} {S : xS} {B : String → xS → Prop} {A : Int → xS → Prop} {q m : Int} {n N : Nat} {T : Int} {C : xS} {M : Nat → Int} (hV : VS 0 n N T C) (hT : T ≤ 800000) (hR : Rel 0 n N C M) (yq : xr q) (ym : xr m)  (hq : ∀ r S' M', ((o_ticksToFinish q m n N C).1 = 0 → r = (o_ticksToFinish q m n N C).2.1) → rfr S' S → S' 30 0 4 = ((o_ticksToFinish q m n N C).1 : Int) → Rel 0 (o_ticksToFinish q m n N C).2.2.1 (o_ticksToFinish q m n N C).2.2.2.1 (o_ticksToFinish q m n N C).2.2.2.2 M' → A r (stM M' S')) : Ki w mX8_ticksToFinish yX8_ticksToFinish 0 0 [xp 30 0, xi q, xi m] (stM M S) A B := by
  refine K.of rfl rfl rfl rfl (Nat.le_of_ble_eq_true rfl) rfl ?_
  obtain ⟨hVT, hN20, h8, hg, hp, ho, hs⟩ := id hV
  have hn := hg.1
  have hN := hVT.1
  have ht := hVT.2.2.1
  have hM1 : M 1 = (n : Int) := by rw [hR.1 1 (by decide)]; exact hn
  have hM2 : M 2 = (N : Int) := by rw [hR.1 2 (by decide)]; exact hN
  refine xs_aload_0 eX8_ticksToFinish_0 ?_
  refine xs_iload_1 eX8_ticksToFinish_1 ?_
  refine xs_iload_2 eX8_ticksToFinish_2 ?_
  refine xa_i2l eX8_ticksToFinish_3 (by omega) ?_
  refine xa_lconst1 eX8_ticksToFinish_4 ?_
  refine xa_ldc2 (a := 500) eX8_ticksToFinish_5 lRX8_262 (by decide) ?_
  refine xbi_S30 (mi' := mX8_isBetween) (y := yX8_isBetween) eX8_ticksToFinish_8 (xw_4 lRX8_61 wy_X8_isBetween) rfl rfl ⟨wd_X8_isBetween, by decide, by decide⟩ (Nat.le_of_ble_eq_true rfl) rfl (k_X8_isBetween (by omega) (by decide) (by decide) ?_)
  refine xbi_V20 (mi' := mX8_isRefused) (y := yX8_isRefused) eX8_ticksToFinish_11 (xw_5 lRX8_102 wy_X8_isRefused) rfl ⟨wd_X8_isRefused, by decide, by decide⟩ (by decide) (fun _ => rfl) rfl (Nat.le_of_ble_eq_true rfl) rfl (r_X8_isRefused hV hR yq (fun k1 => ?_) (fun k1 k2 => ?_) (fun k1 k2 => ?_))
  · refine xa_if_eq (tgt := 19) eX8_ticksToFinish_14 (by decide) (by decide) (fun c14 => ?_) (fun c14 => ?_)
    · exact absurd c14 (by decide)
    · refine xa_iconst eX8_ticksToFinish_17 ?_
      exact xa_iret eX8_ticksToFinish_18 rfl ⟨_, rfl, by have h9 := hq; unfold o_ticksToFinish at h9; rw [if_neg k1] at h9; exact h9 _ _ _ (fun z => absurd z (Nat.succ_ne_zero _)) rfr.t (by rw [up_same]; rfl) hR⟩
  · refine xa_if_eq (tgt := 19) eX8_ticksToFinish_14 (by decide) (by decide) (fun c14 => ?_) (fun c14 => ?_)
    · exact absurd c14 (by decide)
    · refine xa_iconst eX8_ticksToFinish_17 ?_
      exact xa_iret eX8_ticksToFinish_18 rfl ⟨_, rfl, by have h9 := hq; unfold o_ticksToFinish at h9; rw [if_pos k1, if_neg k2] at h9; exact h9 _ _ _ (fun z => absurd z (Nat.succ_ne_zero _)) rfr.t (by rw [up_same]; rfl) hR⟩
  · refine xa_if_eq (tgt := 19) eX8_ticksToFinish_14 (by decide) (by decide) (fun c14 => ?_) (fun c14 => ?_)
    · obtain ⟨q9, rfl⟩ : ∃ q9 : Nat, q = (q9 : Int) := ⟨q.toNat, by omega⟩
      have hqn : q9 < n := by omega
      obtain ⟨m9, rfl⟩ : ∃ m9 : Nat, m = (m9 : Int) := ⟨m.toNat, by omega⟩
      obtain ⟨S1, hS1e⟩ : ∃ S1 : xS, S1 = (cpA 31 0 32 0 527 (stM M (up S 30 0 4 0))) := ⟨_, rfl⟩
      have hS1 : rfr S1 S ∧ S1 30 0 4 = 0 ∧ ∀ f, f < 527 → S1 32 0 f = M f := by rw [hS1e]; exact ⟨(bkp_rfr M _).tr rfr.t, by rw [cpA_o (by decide), stM_k (by decide), up_same], fun f hf => bkp_32 hf⟩
      have hV1 : VS 1 n N T (cpyS 0 1 n N C) := hV.cpy (by decide)
      have hR1 : Rel 1 n N (cpyS 0 1 n N C) M := hR.cpys (by decide)
      obtain ⟨g, hg9⟩ : ∃ g : Nat → Bool, g = (fun i => decide (itr (tckS 1 n N) i (cpyS 0 1 n N C) 4 (8 * 1 + q9) 1 = 0)) := ⟨_, rfl⟩
      have lp : ∀ i : Nat, i ≤ m9 + 1 → ∀ M2, Rel 1 n N (itr (tckS 1 n N) i (cpyS 0 1 n N C)) M2 ∧ frs g (m9 + 1 - i) i = frs g (m9 + 1) 0 → X w mX8_ticksToFinish (xTG w (fun v S' => ∃ a, v = some (xi a) ∧ A a S') B) 0 0 34 [xp 30 0, xi (q9 : Int), xi (m9 : Int), xi (i : Int)] [] (stM M2 S1) := by
        refine nloop (m9 + 1) (fun i hi ih M2 hI => ?_)
        have hpq := (hV1.itr i).p hqn
        unfold PQ at hpq
        refine xs_aload_0 eX8_ticksToFinish_34 ?_
        refine xs_iload_1 eX8_ticksToFinish_35 ?_
        refine xa_iconst eX8_ticksToFinish_36 ?_
        refine xbi_V20 (mi' := mX8_of) (y := yX8_of) eX8_ticksToFinish_37 (xw_5 lRX8_70 wy_X8_of) rfl ⟨wd_X8_of, by decide, by decide⟩ (by decide) (fun _ => rfl) rfl (Nat.le_of_ble_eq_true rfl) rfl (r_X8_of (p := q9) (g := 1) hI.1 rfl rfl hqn h8 (by decide) ?_)
        refine xa_if_le (tgt := 58) eX8_ticksToFinish_40 (by decide) (by omega) (fun c40 => ?_) (fun c40 => ?_)
        · have hgi : g i = true := by rw [hg9]; exact decide_eq_true (by omega)
          refine xs_aload_0 eX8_ticksToFinish_58 ?_
          refine g_X8_1 eX8_ticksToFinish_59 lRX8_13 ?_
          refine xa_iconst eX8_ticksToFinish_62 ?_
          refine xs_aload_0 eX8_ticksToFinish_63 ?_
          refine g_X8_0 eX8_ticksToFinish_64 lRX8_7 ?_
          refine xa_iconst eX8_ticksToFinish_67 ?_
          refine xbv_S40 (mi' := mX8_copy) (y := yX8_copy) eX8_ticksToFinish_68 (xw_4 lRX8_180 wy_X8_copy) rfl rfl ⟨wd_X8_copy, by decide, by decide⟩ (Nat.le_of_ble_eq_true rfl) rfl (k_X8_copy_32_31 ?_)
          refine xs_iload_3 eX8_ticksToFinish_71 ?_
          refine xs_iload_2 eX8_ticksToFinish_72 ?_
          refine xa_icmp_gt (tgt := 80) eX8_ticksToFinish_73 (by decide) (by omega) (by omega) (fun c73 => ?_) (fun c73 => ?_)
          · refine xa_iconst eX8_ticksToFinish_80 ?_
            exact xa_iret eX8_ticksToFinish_81 rfl ⟨_, rfl, by have h9 := hq; unfold o_ticksToFinish at h9; rw [if_pos k1, if_pos k2, Int.toNat_natCast, Int.toNat_natCast, ← hg9, ← hI.2, show m9 + 1 - i = 0 by omega, frs] at h9; have h8b := h9 _ (cpA 32 0 31 0 527 (stM M2 S1)) (cpA 32 0 31 0 527 (stM M2 S1) 31 0) (fun _ => rfl) ((rst_rfr M2 S1).tr hS1.1) (by rw [cpA_o (by decide), stM_k (by decide)]; exact hS1.2.1) (rst_rel hR hN20 hS1.2.2); rw [stM_self] at h8b; exact h8b⟩
          · refine xs_iload_3 eX8_ticksToFinish_76 ?_
            refine xa_goto (tgt := 81) eX8_ticksToFinish_77 (by decide) ?_
            exact xa_iret eX8_ticksToFinish_81 rfl ⟨_, rfl, by have h9 := hq; unfold o_ticksToFinish at h9; rw [if_pos k1, if_pos k2, Int.toNat_natCast, Int.toNat_natCast, ← hg9, ← hI.2, frs_g (by omega), if_pos hgi] at h9; have h8b := h9 _ (cpA 32 0 31 0 527 (stM M2 S1)) (cpA 32 0 31 0 527 (stM M2 S1) 31 0) (fun _ => rfl) ((rst_rfr M2 S1).tr hS1.1) (by rw [cpA_o (by decide), stM_k (by decide)]; exact hS1.2.1) (rst_rel hR hN20 hS1.2.2); rw [stM_self] at h8b; exact h8b⟩
        · refine xs_iload_3 eX8_ticksToFinish_43 ?_
          refine xs_iload_2 eX8_ticksToFinish_44 ?_
          refine xa_icmp_gt (tgt := 58) eX8_ticksToFinish_45 (by decide) (by omega) (by omega) (fun c45 => ?_) (fun c45 => ?_)
          · refine xs_aload_0 eX8_ticksToFinish_58 ?_
            refine g_X8_1 eX8_ticksToFinish_59 lRX8_13 ?_
            refine xa_iconst eX8_ticksToFinish_62 ?_
            refine xs_aload_0 eX8_ticksToFinish_63 ?_
            refine g_X8_0 eX8_ticksToFinish_64 lRX8_7 ?_
            refine xa_iconst eX8_ticksToFinish_67 ?_
            refine xbv_S40 (mi' := mX8_copy) (y := yX8_copy) eX8_ticksToFinish_68 (xw_4 lRX8_180 wy_X8_copy) rfl rfl ⟨wd_X8_copy, by decide, by decide⟩ (Nat.le_of_ble_eq_true rfl) rfl (k_X8_copy_32_31 ?_)
            refine xs_iload_3 eX8_ticksToFinish_71 ?_
            refine xs_iload_2 eX8_ticksToFinish_72 ?_
            refine xa_icmp_gt (tgt := 80) eX8_ticksToFinish_73 (by decide) (by omega) (by omega) (fun c73 => ?_) (fun c73 => ?_)
            · refine xa_iconst eX8_ticksToFinish_80 ?_
              exact xa_iret eX8_ticksToFinish_81 rfl ⟨_, rfl, by have h9 := hq; unfold o_ticksToFinish at h9; rw [if_pos k1, if_pos k2, Int.toNat_natCast, Int.toNat_natCast, ← hg9, ← hI.2, show m9 + 1 - i = 0 by omega, frs] at h9; have h8b := h9 _ (cpA 32 0 31 0 527 (stM M2 S1)) (cpA 32 0 31 0 527 (stM M2 S1) 31 0) (fun _ => rfl) ((rst_rfr M2 S1).tr hS1.1) (by rw [cpA_o (by decide), stM_k (by decide)]; exact hS1.2.1) (rst_rel hR hN20 hS1.2.2); rw [stM_self] at h8b; exact h8b⟩
            · exact absurd c45 (by omega)
          · refine xs_aload_0 eX8_ticksToFinish_48 ?_
            refine xbv_V00 (mi' := mX8_tick) (y := yX8_tick) eX8_ticksToFinish_49 (xw_5 lRX8_184 wy_X8_tick) rfl ⟨wd_X8_tick, by decide, by decide⟩ (by decide) (fun _ => rfl) rfl (Nat.le_of_ble_eq_true rfl) rfl (f_X8_tick (hV1.itr i) (by omega) hI.1 (fun M3 hM3 => ?_))
            refine xs_iinc_3 eX8_ticksToFinish_52 rfl ?_
            refine xa_goto (tgt := 34) eX8_ticksToFinish_55 (by decide) ?_
            have hgi : ¬ g i = true := by rw [hg9]; intro z; have z2 := of_decide_eq_true z; omega
            have h9 := ih (i + 1) (by omega) (by omega) M3 ⟨hM3, by rw [← hI.2, frs_g (i := i) (by omega), if_neg hgi]⟩
            rw [show (i : Int) + 1 = ((i + 1 : Nat) : Int) by omega]
            exact h9
      refine xs_aload_0 eX8_ticksToFinish_19 ?_
      refine g_X8_0 eX8_ticksToFinish_20 lRX8_7 ?_
      refine xa_iconst eX8_ticksToFinish_23 ?_
      refine xs_aload_0 eX8_ticksToFinish_24 ?_
      refine g_X8_1 eX8_ticksToFinish_25 lRX8_13 ?_
      refine xa_iconst eX8_ticksToFinish_28 ?_
      refine xbv_S40 (mi' := mX8_copy) (y := yX8_copy) eX8_ticksToFinish_29 (xw_4 lRX8_180 wy_X8_copy) rfl rfl ⟨wd_X8_copy, by decide, by decide⟩ (Nat.le_of_ble_eq_true rfl) rfl (k_X8_copy_31_32 ?_)
      rw [bkp, ← hS1e]
      refine xa_iconst eX8_ticksToFinish_32 ?_
      refine xs_istore_3 eX8_ticksToFinish_33 rfl ?_
      exact lp 0 (by omega) M ⟨hR1, rfl⟩
    · exact absurd rfl c14
