/-! numbers that are ints; what a reader leaves -/
set_option maxHeartbeats 400000 in
theorem kr_X8_parseNumber {w : xW} {S : xS} {B : String → xS → Prop} {A : Int → xS → Prop} {n p : Nat} {lo hi : Int} (hlo : xr lo) (hhi : xr hi) (h15 : S 30 0 15 = (p : Int)) (hn : S 30 0 14 = (n : Int)) (h7 : n ≤ 700) (hB : ∀ i, i < n → 0 ≤ S 41 0 i ∧ S 41 0 i ≤ 255) (hp : p ≤ n) (hq1 : S 30 0 20 = 0 → S 30 0 17 = 3 → lo ≤ S 30 0 19 ∧ S 30 0 19 ≤ hi → A (S 30 0 19) (nxR n p S)) (hq2 : S 30 0 20 = 0 → ¬ S 30 0 17 = 3 → ∀ v, xr v → A v (rqS 1 S)) (hq3 : S 30 0 20 = 0 → S 30 0 17 = 3 → ¬ (lo ≤ S 30 0 19 ∧ S 30 0 19 ≤ hi) → ∀ v, xr v → A v (rqS 2 S)) (hq4 : ¬ S 30 0 20 = 0 → ∀ v, xr v → A v S) : Ki w mX8_parseNumber yX8_parseNumber 0 0 [xp 30 0, xi lo, xi hi] S A B := by
  refine K.of rfl rfl rfl rfl (Nat.le_of_ble_eq_true rfl) rfl ?_
  refine xs_aload_0 eX8_parseNumber_0 ?_
  refine xs_aload_0 eX8_parseNumber_1 ?_
  refine gr_X8_17 eX8_parseNumber_2 lRX8_294 (fun r2 => ?_)
  refine xa_iconst eX8_parseNumber_5 ?_
  refine xa_icmp_ne (tgt := 13) eX8_parseNumber_6 (by decide) (by omega) (by decide) (fun c6 => ?_) (fun c6 => ?_)
  · refine xa_iconst eX8_parseNumber_13 ?_
    refine xa_iconst eX8_parseNumber_14 ?_
    refine xbv_V20 (mi' := mX8_require) (y := yX8_require) eX8_parseNumber_15 (xw_5 lRX8_330 wy_X8_require) rfl ⟨wd_X8_require, by decide, by decide⟩ (by decide) (fun _ => rfl) rfl (Nat.le_of_ble_eq_true rfl) rfl (k_X8_require (Or.inl rfl) (by decide) (fun z => absurd z (by decide)) (fun _ => ?_))
    refine xs_aload_0 eX8_parseNumber_18 ?_
    refine xs_aload_0 eX8_parseNumber_19 ?_
    refine gr_X8_19 eX8_parseNumber_20 lRX8_291 (fun r20 => ?_)
    refine xa_i2l eX8_parseNumber_23 (by omega) ?_
    refine xs_iload_1 eX8_parseNumber_24 ?_
    refine xa_i2l eX8_parseNumber_25 (by omega) ?_
    refine xs_iload_2 eX8_parseNumber_26 ?_
    refine xa_i2l eX8_parseNumber_27 (by omega) ?_
    refine xbi_S30 (mi' := mX8_isBetween) (y := yX8_isBetween) eX8_parseNumber_28 (xw_4 lRX8_61 wy_X8_isBetween) rfl rfl ⟨wd_X8_isBetween, by decide, by decide⟩ (Nat.le_of_ble_eq_true rfl) rfl (k_X8_isBetween (by omega) (by omega) (by omega) ?_)
    refine xa_iconst eX8_parseNumber_31 ?_
    refine xbv_V20 (mi' := mX8_require) (y := yX8_require) eX8_parseNumber_32 (xw_5 lRX8_330 wy_X8_require) rfl ⟨wd_X8_require, by decide, by decide⟩ (by decide) (fun _ => rfl) rfl (Nat.le_of_ble_eq_true rfl) rfl (k_X8_require (b2i_01 _) (by decide) (fun z => ?_) (fun z => ?_))
    · refine xs_aload_0 eX8_parseNumber_35 ?_
      refine gr_X8_19 eX8_parseNumber_36 lRX8_291 (fun r36 => ?_)
      refine xs_istore_3 eX8_parseNumber_39 rfl ?_
      refine xs_aload_0 eX8_parseNumber_40 ?_
      refine xbv_V00 (mi' := mX8_advance) (y := yX8_advance) eX8_parseNumber_41 (xw_5 lRX8_334 wy_X8_advance) rfl ⟨wd_X8_advance, by decide, by decide⟩ (by decide) (fun _ => rfl) rfl (Nat.le_of_ble_eq_true rfl) rfl (f_X8_advance (n := n) (p := p) (by rw [rq_f (by decide) (by decide)]; exact h15) (by rw [rq_f (by decide) (by decide)]; exact hn) h7 (by rw [rq_k (by decide)]; exact hB) hp ?_)
      refine xs_iload_3 eX8_parseNumber_44 ?_
      exact xa_iret eX8_parseNumber_45 rfl ⟨_, rfl, by rw [if_neg (rq_20 (by decide))]; by_cases e : S 30 0 20 = 0; exact hq2 e (by omega) _ (by assumption); exact (by rw [rq_id e]; exact hq4 e _ (by first | assumption | (rw [rq_id e] at r36; exact r36)))⟩
    · rw [rq_id (c := 2) (rq_20 (c := 1) (S := S) (by decide))]
      refine xs_aload_0 eX8_parseNumber_35 ?_
      refine gr_X8_19 eX8_parseNumber_36 lRX8_291 (fun r36 => ?_)
      refine xs_istore_3 eX8_parseNumber_39 rfl ?_
      refine xs_aload_0 eX8_parseNumber_40 ?_
      refine xbv_V00 (mi' := mX8_advance) (y := yX8_advance) eX8_parseNumber_41 (xw_5 lRX8_334 wy_X8_advance) rfl ⟨wd_X8_advance, by decide, by decide⟩ (by decide) (fun _ => rfl) rfl (Nat.le_of_ble_eq_true rfl) rfl (f_X8_advance (n := n) (p := p) (by rw [rq_f (by decide) (by decide)]; exact h15) (by rw [rq_f (by decide) (by decide)]; exact hn) h7 (by rw [rq_k (by decide)]; exact hB) hp ?_)
      refine xs_iload_3 eX8_parseNumber_44 ?_
      exact xa_iret eX8_parseNumber_45 rfl ⟨_, rfl, by rw [if_neg (rq_20 (by decide))]; by_cases e : S 30 0 20 = 0; exact hq2 e (by omega) _ (by assumption); exact (by rw [rq_id e]; exact hq4 e _ (by first | assumption | (rw [rq_id e] at r36; exact r36)))⟩
  · refine xa_iconst eX8_parseNumber_9 ?_
    refine xa_goto (tgt := 14) eX8_parseNumber_10 (by decide) ?_
    refine xa_iconst eX8_parseNumber_14 ?_
    refine xbv_V20 (mi' := mX8_require) (y := yX8_require) eX8_parseNumber_15 (xw_5 lRX8_330 wy_X8_require) rfl ⟨wd_X8_require, by decide, by decide⟩ (by decide) (fun _ => rfl) rfl (Nat.le_of_ble_eq_true rfl) rfl (k_X8_require (Or.inr rfl) (by decide) (fun _ => ?_) (fun z => absurd z (by decide)))
    refine xs_aload_0 eX8_parseNumber_18 ?_
    refine xs_aload_0 eX8_parseNumber_19 ?_
    refine gr_X8_19 eX8_parseNumber_20 lRX8_291 (fun r20 => ?_)
    refine xa_i2l eX8_parseNumber_23 (by omega) ?_
    refine xs_iload_1 eX8_parseNumber_24 ?_
    refine xa_i2l eX8_parseNumber_25 (by omega) ?_
    refine xs_iload_2 eX8_parseNumber_26 ?_
    refine xa_i2l eX8_parseNumber_27 (by omega) ?_
    refine xbi_S30 (mi' := mX8_isBetween) (y := yX8_isBetween) eX8_parseNumber_28 (xw_4 lRX8_61 wy_X8_isBetween) rfl rfl ⟨wd_X8_isBetween, by decide, by decide⟩ (Nat.le_of_ble_eq_true rfl) rfl (k_X8_isBetween (by omega) (by omega) (by omega) ?_)
    refine xa_iconst eX8_parseNumber_31 ?_
    refine xbv_V20 (mi' := mX8_require) (y := yX8_require) eX8_parseNumber_32 (xw_5 lRX8_330 wy_X8_require) rfl ⟨wd_X8_require, by decide, by decide⟩ (by decide) (fun _ => rfl) rfl (Nat.le_of_ble_eq_true rfl) rfl (k_X8_require (b2i_01 _) (by decide) (fun z => ?_) (fun z => ?_))
    · have p2 := b2i_y z
      refine xs_aload_0 eX8_parseNumber_35 ?_
      refine gr_X8_19 eX8_parseNumber_36 lRX8_291 (fun r36 => ?_)
      refine xs_istore_3 eX8_parseNumber_39 rfl ?_
      refine xs_aload_0 eX8_parseNumber_40 ?_
      refine xbv_V00 (mi' := mX8_advance) (y := yX8_advance) eX8_parseNumber_41 (xw_5 lRX8_334 wy_X8_advance) rfl ⟨wd_X8_advance, by decide, by decide⟩ (by decide) (fun _ => rfl) rfl (Nat.le_of_ble_eq_true rfl) rfl (f_X8_advance h15 hn h7 hB hp ?_)
      refine xs_iload_3 eX8_parseNumber_44 ?_
      exact xa_iret eX8_parseNumber_45 rfl ⟨_, rfl, by by_cases e : S 30 0 20 = 0; exact (by rw [if_pos e]; exact hq1 e (by omega) p2); exact (by rw [if_neg e]; exact hq4 e _ (by first | assumption | (rw [rq_id e] at r36; exact r36)))⟩
    · have p2 := b2i_n z
      refine xs_aload_0 eX8_parseNumber_35 ?_
      refine gr_X8_19 eX8_parseNumber_36 lRX8_291 (fun r36 => ?_)
      refine xs_istore_3 eX8_parseNumber_39 rfl ?_
      refine xs_aload_0 eX8_parseNumber_40 ?_
      refine xbv_V00 (mi' := mX8_advance) (y := yX8_advance) eX8_parseNumber_41 (xw_5 lRX8_334 wy_X8_advance) rfl ⟨wd_X8_advance, by decide, by decide⟩ (by decide) (fun _ => rfl) rfl (Nat.le_of_ble_eq_true rfl) rfl (f_X8_advance (n := n) (p := p) (by rw [rq_f (by decide) (by decide)]; exact h15) (by rw [rq_f (by decide) (by decide)]; exact hn) h7 (by rw [rq_k (by decide)]; exact hB) hp ?_)
      refine xs_iload_3 eX8_parseNumber_44 ?_
      exact xa_iret eX8_parseNumber_45 rfl ⟨_, rfl, by rw [if_neg (rq_20 (by decide))]; by_cases e : S 30 0 20 = 0; exact hq3 e (by omega) p2 _ (by assumption); exact (by rw [rq_id e]; exact hq4 e _ (by first | assumption | (rw [rq_id e] at r36; exact r36)))⟩

set_option maxHeartbeats 400000 in
theorem pr_X8_parseNumber {w : xW} {S C : xS} {B : String → xS → Prop} {A : Int → xS → Prop} {n : Nat} {lo hi : Int} (hP : PT n C) (h : TR n (nx n C) S) (e : S 30 0 20 = 0) (hlo : xr lo) (hhi : xr hi) (hi7 : hi < 10000000) (q1 : (rdN n lo hi C).1 = true → ∀ S', TR n (nx n (rdN n lo hi C).2) S' → FM S' S → S' 30 0 20 = 0 → A ((rdN n lo hi C).2 3 0 9) S') (q0 : (rdN n lo hi C).1 = false → ∀ v S', xr v → FM S' S → S' 30 0 20 = (rdN n lo hi C).2 3 0 4 → S' 30 0 21 = (rdN n lo hi C).2 3 0 5 → ¬ S' 30 0 20 = 0 → A v S') : Ki w mX8_parseNumber yX8_parseNumber 0 0 [xp 30 0, xi lo, xi hi] S A B := by
  have hP1 := hP.nx
  have hP2 := id hP1
  obtain ⟨b1, b2, b3, b4, b5, b6⟩ := hP1
  have h0 := id h
  obtain ⟨t, a1, a2, a3, a4, a5⟩ := h
  have hc := (cod_inj b6).2.2.1
  refine kr_X8_parseNumber (n := n) (p := (nx n C 3 0 8).toNat) hlo hhi (by rw [a1]; omega) t.1 t.2.2.1 t.bytes (by omega) (fun _ hk hr => ?_) (fun _ hk v hv9 => ?_) (fun _ hk hr v hv9 => ?_) (fun z => absurd e z)
  · have hk2 : nx n C 3 0 6 = 2 := hc.mp (by rw [← a3]; exact hk)
    have hv := a4 hk2
    have ev : S 30 0 19 = nx n C 3 0 9 := by unfold VR at hv; omega
    have er : rdN n lo hi C = (true, nx n C) := by unfold rdN; rw [if_pos hk2, if_pos (by omega)]
    rw [er] at q1
    rw [ev]
    exact q1 rfl _ (TR_nx (C := nx n C) ⟨by omega, b4⟩ t) FM.nx (by rw [nxR_20]; exact e)
  · have er : rdN n lo hi C = (false, flS 1 (nx n C)) := by unfold rdN; rw [if_neg (fun z => hk (by rw [a3]; exact hc.mpr z))]
    rw [er] at q0
    exact q0 rfl v _ hv9 (FM.rq (by decide)) (by unfold rqS; rw [if_pos e, up_f (by decide), up_same]; rfl) (by unfold rqS; rw [if_pos e, up_same, a2]; rfl) (rq_20 (by decide))
  · have hk2 : nx n C 3 0 6 = 2 := hc.mp (by rw [← a3]; exact hk)
    have hv := a4 hk2
    have er : rdN n lo hi C = (false, flS 2 (nx n C)) := by unfold rdN; rw [if_pos hk2, if_neg (fun z => hr (by unfold VR at hv; omega))]
    rw [er] at q0
    exact q0 rfl v _ hv9 (FM.rq (by decide)) (by unfold rqS; rw [if_pos e, up_f (by decide), up_same]; rfl) (by unfold rqS; rw [if_pos e, up_same, a2]; rfl) (rq_20 (by decide))
set_option maxHeartbeats 400000 in
theorem zr_X8_parseNumber {w : xW} {S : xS} {B : String → xS → Prop} {A : Int → xS → Prop} {lo hi : Int} (hlo : xr lo) (hhi : xr hi) (e : ¬ S 30 0 20 = 0) (hq : ∀ v, xr v → A v S) : Ki w mX8_parseNumber yX8_parseNumber 0 0 [xp 30 0, xi lo, xi hi] S A B := by
  refine K.of rfl rfl rfl rfl (Nat.le_of_ble_eq_true rfl) rfl ?_
  refine xs_aload_0 eX8_parseNumber_0 ?_
  refine xs_aload_0 eX8_parseNumber_1 ?_
  refine gr_X8_17 eX8_parseNumber_2 lRX8_294 (fun r2 => ?_)
  refine xa_iconst eX8_parseNumber_5 ?_
  refine xa_icmp_ne (tgt := 13) eX8_parseNumber_6 (by decide) (by omega) (by decide) (fun c6 => ?_) (fun c6 => ?_)
  · refine xa_iconst eX8_parseNumber_13 ?_
    refine xa_iconst eX8_parseNumber_14 ?_
    refine xbv_V20 (mi' := mX8_require) (y := yX8_require) eX8_parseNumber_15 (xw_5 lRX8_330 wy_X8_require) rfl ⟨wd_X8_require, by decide, by decide⟩ (by decide) (fun _ => rfl) rfl (Nat.le_of_ble_eq_true rfl) rfl (k_X8_require (Or.inl rfl) (by decide) (fun z => absurd z (by decide)) (fun _ => ?_))
    rw [rq_id e]
    refine xs_aload_0 eX8_parseNumber_18 ?_
    refine xs_aload_0 eX8_parseNumber_19 ?_
    refine gr_X8_19 eX8_parseNumber_20 lRX8_291 (fun r20 => ?_)
    refine xa_i2l eX8_parseNumber_23 (by omega) ?_
    refine xs_iload_1 eX8_parseNumber_24 ?_
    refine xa_i2l eX8_parseNumber_25 (by omega) ?_
    refine xs_iload_2 eX8_parseNumber_26 ?_
    refine xa_i2l eX8_parseNumber_27 (by omega) ?_
    refine xbi_S30 (mi' := mX8_isBetween) (y := yX8_isBetween) eX8_parseNumber_28 (xw_4 lRX8_61 wy_X8_isBetween) rfl rfl ⟨wd_X8_isBetween, by decide, by decide⟩ (Nat.le_of_ble_eq_true rfl) rfl (k_X8_isBetween (by omega) (by omega) (by omega) ?_)
    refine xa_iconst eX8_parseNumber_31 ?_
    refine xbv_V20 (mi' := mX8_require) (y := yX8_require) eX8_parseNumber_32 (xw_5 lRX8_330 wy_X8_require) rfl ⟨wd_X8_require, by decide, by decide⟩ (by decide) (fun _ => rfl) rfl (Nat.le_of_ble_eq_true rfl) rfl (k_X8_require (b2i_01 _) (by decide) (fun _ => ?_) (fun _ => ?_))
    · refine xs_aload_0 eX8_parseNumber_35 ?_
      refine gr_X8_19 eX8_parseNumber_36 lRX8_291 (fun r36 => ?_)
      refine xs_istore_3 eX8_parseNumber_39 rfl ?_
      refine xs_aload_0 eX8_parseNumber_40 ?_
      refine xbv_V00 (mi' := mX8_advance) (y := yX8_advance) eX8_parseNumber_41 (xw_5 lRX8_334 wy_X8_advance) rfl ⟨wd_X8_advance, by decide, by decide⟩ (by decide) (fun _ => rfl) rfl (Nat.le_of_ble_eq_true rfl) rfl (z_X8_advance e ?_)
      refine xs_iload_3 eX8_parseNumber_44 ?_
      exact xa_iret eX8_parseNumber_45 rfl ⟨_, rfl, hq _ r36⟩
    · rw [rq_id e]
      refine xs_aload_0 eX8_parseNumber_35 ?_
      refine gr_X8_19 eX8_parseNumber_36 lRX8_291 (fun r36 => ?_)
      refine xs_istore_3 eX8_parseNumber_39 rfl ?_
      refine xs_aload_0 eX8_parseNumber_40 ?_
      refine xbv_V00 (mi' := mX8_advance) (y := yX8_advance) eX8_parseNumber_41 (xw_5 lRX8_334 wy_X8_advance) rfl ⟨wd_X8_advance, by decide, by decide⟩ (by decide) (fun _ => rfl) rfl (Nat.le_of_ble_eq_true rfl) rfl (z_X8_advance e ?_)
      refine xs_iload_3 eX8_parseNumber_44 ?_
      exact xa_iret eX8_parseNumber_45 rfl ⟨_, rfl, hq _ r36⟩
  · refine xa_iconst eX8_parseNumber_9 ?_
    refine xa_goto (tgt := 14) eX8_parseNumber_10 (by decide) ?_
    refine xa_iconst eX8_parseNumber_14 ?_
    refine xbv_V20 (mi' := mX8_require) (y := yX8_require) eX8_parseNumber_15 (xw_5 lRX8_330 wy_X8_require) rfl ⟨wd_X8_require, by decide, by decide⟩ (by decide) (fun _ => rfl) rfl (Nat.le_of_ble_eq_true rfl) rfl (k_X8_require (Or.inr rfl) (by decide) (fun _ => ?_) (fun z => absurd z (by decide)))
    refine xs_aload_0 eX8_parseNumber_18 ?_
    refine xs_aload_0 eX8_parseNumber_19 ?_
    refine gr_X8_19 eX8_parseNumber_20 lRX8_291 (fun r20 => ?_)
    refine xa_i2l eX8_parseNumber_23 (by omega) ?_
    refine xs_iload_1 eX8_parseNumber_24 ?_
    refine xa_i2l eX8_parseNumber_25 (by omega) ?_
    refine xs_iload_2 eX8_parseNumber_26 ?_
    refine xa_i2l eX8_parseNumber_27 (by omega) ?_
    refine xbi_S30 (mi' := mX8_isBetween) (y := yX8_isBetween) eX8_parseNumber_28 (xw_4 lRX8_61 wy_X8_isBetween) rfl rfl ⟨wd_X8_isBetween, by decide, by decide⟩ (Nat.le_of_ble_eq_true rfl) rfl (k_X8_isBetween (by omega) (by omega) (by omega) ?_)
    refine xa_iconst eX8_parseNumber_31 ?_
    refine xbv_V20 (mi' := mX8_require) (y := yX8_require) eX8_parseNumber_32 (xw_5 lRX8_330 wy_X8_require) rfl ⟨wd_X8_require, by decide, by decide⟩ (by decide) (fun _ => rfl) rfl (Nat.le_of_ble_eq_true rfl) rfl (k_X8_require (b2i_01 _) (by decide) (fun _ => ?_) (fun _ => ?_))
    · refine xs_aload_0 eX8_parseNumber_35 ?_
      refine gr_X8_19 eX8_parseNumber_36 lRX8_291 (fun r36 => ?_)
      refine xs_istore_3 eX8_parseNumber_39 rfl ?_
      refine xs_aload_0 eX8_parseNumber_40 ?_
      refine xbv_V00 (mi' := mX8_advance) (y := yX8_advance) eX8_parseNumber_41 (xw_5 lRX8_334 wy_X8_advance) rfl ⟨wd_X8_advance, by decide, by decide⟩ (by decide) (fun _ => rfl) rfl (Nat.le_of_ble_eq_true rfl) rfl (z_X8_advance e ?_)
      refine xs_iload_3 eX8_parseNumber_44 ?_
      exact xa_iret eX8_parseNumber_45 rfl ⟨_, rfl, hq _ r36⟩
    · rw [rq_id e]
      refine xs_aload_0 eX8_parseNumber_35 ?_
      refine gr_X8_19 eX8_parseNumber_36 lRX8_291 (fun r36 => ?_)
      refine xs_istore_3 eX8_parseNumber_39 rfl ?_
      refine xs_aload_0 eX8_parseNumber_40 ?_
      refine xbv_V00 (mi' := mX8_advance) (y := yX8_advance) eX8_parseNumber_41 (xw_5 lRX8_334 wy_X8_advance) rfl ⟨wd_X8_advance, by decide, by decide⟩ (by decide) (fun _ => rfl) rfl (Nat.le_of_ble_eq_true rfl) rfl (z_X8_advance e ?_)
      refine xs_iload_3 eX8_parseNumber_44 ?_
      exact xa_iret eX8_parseNumber_45 rfl ⟨_, rfl, hq _ r36⟩
theorem rdN_k {n : Nat} {lo hi : Int} {C : xS} (h : ¬ nx n C 3 0 6 = 2) : rdN n lo hi C = (false, flS 1 (nx n C)) := by unfold rdN; rw [if_neg h]
theorem rdN_v {n : Nat} {lo hi : Int} {C : xS} (h : nx n C 3 0 6 = 2) (g : ¬ (lo ≤ nx n C 3 0 9 ∧ nx n C 3 0 9 ≤ hi)) : rdN n lo hi C = (false, flS 2 (nx n C)) := by unfold rdN; rw [if_pos h, if_neg g]
theorem rdN_y {n : Nat} {lo hi : Int} {C : xS} (h : nx n C 3 0 6 = 2) (g : lo ≤ nx n C 3 0 9 ∧ nx n C 3 0 9 ≤ hi) : rdN n lo hi C = (true, nx n C) := by unfold rdN; rw [if_pos h, if_pos g]
/-- what the reference's reader leaves, its state, backup aside and lines -/
def FW (S' S : xS) : Prop := (∀ k j, (k < 30 ∨ k = 33 ∨ k = 34 ∨ 41 ≤ k) → S' k j = S k j) ∧ S' 32 0 = S 32 0 ∧ (∀ f, f < 15 → f ≠ 11 → f ≠ 12 → S' 30 0 f = S 30 0 f) ∧ (S' 30 0 20 = 0 → S 30 0 20 = 0 ∧ S' 30 0 21 = S 30 0 21)
theorem FW.rf {S : xS} : FW S S := ⟨fun _ _ _ => rfl, rfl, fun _ _ _ _ => rfl, fun e => ⟨e, rfl⟩⟩
theorem FW.tr {S1 S2 S3 : xS} (h : FW S3 S2) (g : FW S2 S1) : FW S3 S1 := ⟨fun k j a => (h.1 k j a).trans (g.1 k j a), h.2.1.trans g.2.1, fun f a b c => (h.2.2.1 f a b c).trans (g.2.2.1 f a b c), fun e => ⟨(g.2.2.2 (h.2.2.2 e).1).1, (h.2.2.2 e).2.trans (g.2.2.2 (h.2.2.2 e).1).2⟩⟩
theorem FN.fw {S1 S2 : xS} (h : FN S2 S1) : FW S2 S1 := ⟨fun k j a => by rw [h.1 k (by omega) (by omega) (by omega)], by rw [h.1 32 (by decide) (by decide) (by decide)], h.2.1, h.2.2⟩
theorem FM.fw {S1 S2 : xS} (h : FM S2 S1) : FW S2 S1 := h.fn.fw
theorem FW.m {S : xS} {M : Nat → Int} : FW (stM M S) S := FN.m.fw
theorem lnr.fw {S1 S2 : xS} (h : lnr S2 S1) (g : S2 32 0 = S1 32 0) : FW S2 S1 := ⟨h.1.1, g, fun f _ b c => h.2 f b c, fun e => ⟨by rw [← h.2 20 (by decide) (by decide)]; exact e, h.2 21 (by decide) (by decide)⟩⟩
theorem add_cg {X Y : xS} {a u N : Nat} {o p b d : Int} (h : X a = Y a) (h2 : X 2 = Y 2) : addT u N o p b d X a = addT u N o p b d Y a := by
  funext y g
  unfold addT
  rw [h, h2]
theorem add_9 {u N : Nat} {o p b d : Int} {X : xS} : addT u N o p b d X 10 (32 * u + N) 9 = -1 := by
  unfold addT
  rw [if_neg (by omega), if_pos ⟨rfl, rfl⟩]
  rfl
