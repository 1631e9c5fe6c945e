/-! the reference in error -/
set_option maxHeartbeats 400000 in
theorem z_X8_advance {w : xW} {S : xS} {B : String → xS → Prop} {A : xS → Prop} (e : ¬ S 30 0 20 = 0) (hq : A S) : Kv w mX8_advance yX8_advance 0 0 [xp 30 0] S A B := by
  refine K.of rfl rfl rfl rfl (Nat.le_of_ble_eq_true rfl) rfl ?_
  refine xs_aload_0 eX8_advance_0 ?_
  refine xbi_V00 (mi' := mX8_isFine) (y := yX8_isFine) eX8_advance_1 (xw_5 lRX8_320 wy_X8_isFine) rfl ⟨wd_X8_isFine, by decide, by decide⟩ (by decide) (fun _ => rfl) rfl (Nat.le_of_ble_eq_true rfl) rfl (k_X8_isFine ?_)
  refine xa_ifb_eq (tgt := 11) eX8_advance_4 (by decide) (fun c4 => ?_) (fun c4 => ?_)
  · exact xa_vret eX8_advance_11 rfl ⟨rfl, hq⟩
  · exact absurd c4 e
set_option maxHeartbeats 400000 in
theorem z_X8_parseNumber {w : xW} {S : xS} {B : String → xS → Prop} {A : Int → xS → Prop} {lo hi : Int} (hlo : xr lo) (hhi : xr hi) (e : ¬ S 30 0 20 = 0) (hq : ∀ v, A v S) : Ki w mX8_parseNumber yX8_parseNumber 0 0 [xp 30 0, xi lo, xi hi] S A B := by
  refine K.of rfl rfl rfl rfl (Nat.le_of_ble_eq_true rfl) rfl ?_
  refine xs_aload_0 eX8_parseNumber_0 ?_
  refine xs_aload_0 eX8_parseNumber_1 ?_
  refine gr_X8_17 eX8_parseNumber_2 lRX8_294 (fun r2 => ?_)
  refine xa_iconst eX8_parseNumber_5 ?_
  refine xa_icmp_ne (tgt := 13) eX8_parseNumber_6 (by decide) (by omega) (by decide) (fun c6 => ?_) (fun c6 => ?_)
  · refine xa_iconst eX8_parseNumber_13 ?_
    refine xa_iconst eX8_parseNumber_14 ?_
    refine xbv_V20 (mi' := mX8_require) (y := yX8_require) eX8_parseNumber_15 (xw_5 lRX8_330 wy_X8_require) rfl ⟨wd_X8_require, by decide, by decide⟩ (by decide) (fun _ => rfl) rfl (Nat.le_of_ble_eq_true rfl) rfl (k_X8_require (Or.inl rfl) (by decide) (fun z => absurd z (by decide)) (fun _ => ?_))
    rw [rq_id e]
    refine xs_aload_0 eX8_parseNumber_18 ?_
    refine xs_aload_0 eX8_parseNumber_19 ?_
    refine gr_X8_19 eX8_parseNumber_20 lRX8_291 (fun r20 => ?_)
    refine xa_i2l eX8_parseNumber_23 (by omega) ?_
    refine xs_iload_1 eX8_parseNumber_24 ?_
    refine xa_i2l eX8_parseNumber_25 (by omega) ?_
    refine xs_iload_2 eX8_parseNumber_26 ?_
    refine xa_i2l eX8_parseNumber_27 (by omega) ?_
    refine xbi_S30 (mi' := mX8_isBetween) (y := yX8_isBetween) eX8_parseNumber_28 (xw_4 lRX8_61 wy_X8_isBetween) rfl rfl ⟨wd_X8_isBetween, by decide, by decide⟩ (Nat.le_of_ble_eq_true rfl) rfl (k_X8_isBetween (by omega) (by omega) (by omega) ?_)
    refine xa_iconst eX8_parseNumber_31 ?_
    refine xbv_V20 (mi' := mX8_require) (y := yX8_require) eX8_parseNumber_32 (xw_5 lRX8_330 wy_X8_require) rfl ⟨wd_X8_require, by decide, by decide⟩ (by decide) (fun _ => rfl) rfl (Nat.le_of_ble_eq_true rfl) rfl (k_X8_require (b2i_01 _) (by decide) (fun _ => ?_) (fun _ => ?_))
    · refine xs_aload_0 eX8_parseNumber_35 ?_
      refine gr_X8_19 eX8_parseNumber_36 lRX8_291 (fun r36 => ?_)
      refine xs_istore_3 eX8_parseNumber_39 rfl ?_
      refine xs_aload_0 eX8_parseNumber_40 ?_
      refine xbv_V00 (mi' := mX8_advance) (y := yX8_advance) eX8_parseNumber_41 (xw_5 lRX8_334 wy_X8_advance) rfl ⟨wd_X8_advance, by decide, by decide⟩ (by decide) (fun _ => rfl) rfl (Nat.le_of_ble_eq_true rfl) rfl (z_X8_advance e ?_)
      refine xs_iload_3 eX8_parseNumber_44 ?_
      exact xa_iret eX8_parseNumber_45 rfl ⟨_, rfl, hq _⟩
    · rw [rq_id e]
      refine xs_aload_0 eX8_parseNumber_35 ?_
      refine gr_X8_19 eX8_parseNumber_36 lRX8_291 (fun r36 => ?_)
      refine xs_istore_3 eX8_parseNumber_39 rfl ?_
      refine xs_aload_0 eX8_parseNumber_40 ?_
      refine xbv_V00 (mi' := mX8_advance) (y := yX8_advance) eX8_parseNumber_41 (xw_5 lRX8_334 wy_X8_advance) rfl ⟨wd_X8_advance, by decide, by decide⟩ (by decide) (fun _ => rfl) rfl (Nat.le_of_ble_eq_true rfl) rfl (z_X8_advance e ?_)
      refine xs_iload_3 eX8_parseNumber_44 ?_
      exact xa_iret eX8_parseNumber_45 rfl ⟨_, rfl, hq _⟩
  · refine xa_iconst eX8_parseNumber_9 ?_
    refine xa_goto (tgt := 14) eX8_parseNumber_10 (by decide) ?_
    refine xa_iconst eX8_parseNumber_14 ?_
    refine xbv_V20 (mi' := mX8_require) (y := yX8_require) eX8_parseNumber_15 (xw_5 lRX8_330 wy_X8_require) rfl ⟨wd_X8_require, by decide, by decide⟩ (by decide) (fun _ => rfl) rfl (Nat.le_of_ble_eq_true rfl) rfl (k_X8_require (Or.inr rfl) (by decide) (fun _ => ?_) (fun z => absurd z (by decide)))
    refine xs_aload_0 eX8_parseNumber_18 ?_
    refine xs_aload_0 eX8_parseNumber_19 ?_
    refine gr_X8_19 eX8_parseNumber_20 lRX8_291 (fun r20 => ?_)
    refine xa_i2l eX8_parseNumber_23 (by omega) ?_
    refine xs_iload_1 eX8_parseNumber_24 ?_
    refine xa_i2l eX8_parseNumber_25 (by omega) ?_
    refine xs_iload_2 eX8_parseNumber_26 ?_
    refine xa_i2l eX8_parseNumber_27 (by omega) ?_
    refine xbi_S30 (mi' := mX8_isBetween) (y := yX8_isBetween) eX8_parseNumber_28 (xw_4 lRX8_61 wy_X8_isBetween) rfl rfl ⟨wd_X8_isBetween, by decide, by decide⟩ (Nat.le_of_ble_eq_true rfl) rfl (k_X8_isBetween (by omega) (by omega) (by omega) ?_)
    refine xa_iconst eX8_parseNumber_31 ?_
    refine xbv_V20 (mi' := mX8_require) (y := yX8_require) eX8_parseNumber_32 (xw_5 lRX8_330 wy_X8_require) rfl ⟨wd_X8_require, by decide, by decide⟩ (by decide) (fun _ => rfl) rfl (Nat.le_of_ble_eq_true rfl) rfl (k_X8_require (b2i_01 _) (by decide) (fun _ => ?_) (fun _ => ?_))
    · refine xs_aload_0 eX8_parseNumber_35 ?_
      refine gr_X8_19 eX8_parseNumber_36 lRX8_291 (fun r36 => ?_)
      refine xs_istore_3 eX8_parseNumber_39 rfl ?_
      refine xs_aload_0 eX8_parseNumber_40 ?_
      refine xbv_V00 (mi' := mX8_advance) (y := yX8_advance) eX8_parseNumber_41 (xw_5 lRX8_334 wy_X8_advance) rfl ⟨wd_X8_advance, by decide, by decide⟩ (by decide) (fun _ => rfl) rfl (Nat.le_of_ble_eq_true rfl) rfl (z_X8_advance e ?_)
      refine xs_iload_3 eX8_parseNumber_44 ?_
      exact xa_iret eX8_parseNumber_45 rfl ⟨_, rfl, hq _⟩
    · rw [rq_id e]
      refine xs_aload_0 eX8_parseNumber_35 ?_
      refine gr_X8_19 eX8_parseNumber_36 lRX8_291 (fun r36 => ?_)
      refine xs_istore_3 eX8_parseNumber_39 rfl ?_
      refine xs_aload_0 eX8_parseNumber_40 ?_
      refine xbv_V00 (mi' := mX8_advance) (y := yX8_advance) eX8_parseNumber_41 (xw_5 lRX8_334 wy_X8_advance) rfl ⟨wd_X8_advance, by decide, by decide⟩ (by decide) (fun _ => rfl) rfl (Nat.le_of_ble_eq_true rfl) rfl (z_X8_advance e ?_)
      refine xs_iload_3 eX8_parseNumber_44 ?_
      exact xa_iret eX8_parseNumber_45 rfl ⟨_, rfl, hq _⟩
set_option maxHeartbeats 400000 in
theorem z_X8_accept {w : xW} {S : xS} {B : String → xS → Prop} {A : Int → xS → Prop} {i : Nat} (e : ¬ S 30 0 20 = 0) (hq : A 0 S) : Ki w mX8_accept yX8_accept 0 0 [xp 30 0, xp 51 i] S A B := by
  refine K.of rfl rfl rfl rfl (Nat.le_of_ble_eq_true rfl) rfl ?_
  refine xs_aload_0 eX8_accept_0 ?_
  refine xbi_V00 (mi' := mX8_isFine) (y := yX8_isFine) eX8_accept_1 (xw_5 lRX8_320 wy_X8_isFine) rfl ⟨wd_X8_isFine, by decide, by decide⟩ (by decide) (fun _ => rfl) rfl (Nat.le_of_ble_eq_true rfl) rfl (k_X8_isFine ?_)
  refine xa_ifb_eq (tgt := 19) eX8_accept_4 (by decide) (fun c4 => ?_) (fun c4 => ?_)
  · refine xa_iconst eX8_accept_19 ?_
    refine xs_istore_2 eX8_accept_20 rfl ?_
    refine xs_iload_2 eX8_accept_21 ?_
    refine xa_if_eq (tgt := 29) eX8_accept_22 (by decide) (by decide) (fun c22 => ?_) (fun c22 => ?_)
    · refine xs_iload_2 eX8_accept_29 ?_
      exact xa_zret eX8_accept_30 rfl (by decide) ⟨_, rfl, hq⟩
    · exact absurd rfl c22
  · exact absurd c4 e
