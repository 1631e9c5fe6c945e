/-! the class: texts and saved states -/
set_option maxHeartbeats 400000 in
theorem F_save {w : xW} {S : xS} {B : String → xS → Prop} {A : xS → Prop} {i : Int} {n N : Nat} {T : Int} (hV : VS 0 n N T S) (hT : T ≤ 1000000) (yi : xr i) (hA : 0 ≤ i ∧ i < 2 → A (up (cpyS 0 (2 + i.toNat) n N S) 21 0 i.toNat 1)) (hB1 : ¬ (0 ≤ i ∧ i < 2) → B "java/lang/IllegalArgumentException" S) : Kv w mX7_save yX7_save 1 6 [xp 0 0, xi i] S A B := by
  refine K.of rfl rfl rfl rfl (Nat.le_of_ble_eq_true rfl) rfl ?_
  refine xs_iload_1 eX7_save_0 ?_
  refine xa_if_lt (tgt := 13) eX7_save_1 (by decide) yi (fun c1 => ?_) (fun c1 => ?_)
  · refine xa_iconst eX7_save_13 ?_
    exact xbv_S1 (mi' := mX7_checkArgument) (y := yX7_checkArgument) eX7_save_14 (xw_4 lRX7_116 wy_X7_checkArgument) rfl rfl ⟨wd_X7_checkArgument, by decide, by decide⟩ (Nat.le_of_ble_eq_true rfl) rfl ⟨by decide, by decide⟩ (kt_X7_checkArgument (P := False) id (xt_out rfl (hB1 (by omega))))
  · refine xs_iload_1 eX7_save_4 ?_
    refine xa_iconst eX7_save_5 ?_
    refine xa_icmp_ge (tgt := 13) eX7_save_6 (by decide) yi (by decide) (fun c6 => ?_) (fun c6 => ?_)
    · refine xa_iconst eX7_save_13 ?_
      exact xbv_S1 (mi' := mX7_checkArgument) (y := yX7_checkArgument) eX7_save_14 (xw_4 lRX7_116 wy_X7_checkArgument) rfl rfl ⟨wd_X7_checkArgument, by decide, by decide⟩ (Nat.le_of_ble_eq_true rfl) rfl ⟨by decide, by decide⟩ (kt_X7_checkArgument (P := False) id (xt_out rfl (hB1 (by omega))))
    · refine xa_iconst eX7_save_9 ?_
      refine xa_goto (tgt := 14) eX7_save_10 (by decide) ?_
      refine xbv_S10 (mi' := mX7_checkArgument) (y := yX7_checkArgument) eX7_save_14 (xw_4 lRX7_116 wy_X7_checkArgument) rfl rfl ⟨wd_X7_checkArgument, by decide, by decide⟩ (Nat.le_of_ble_eq_true rfl) rfl (kk_X7_checkArgument (P := True) trivial ?_)
      refine xs_aload_0 eX7_save_17 ?_
      refine g_X7_2 eX7_save_18 lRX7_19 ?_
      refine xs_iload_1 eX7_save_21 ?_
      refine ga_20 eX7_save_22 (by omega) ?_
      refine xs_aload_0 eX7_save_23 ?_
      refine g_X7_0 eX7_save_24 lRX7_10 ?_
      refine xbv_V10 (mi' := mX4_copyFrom) (y := yX4_copyFrom) eX7_save_27 (xw_5 lRX7_226 wy_X4_copyFrom) rfl ⟨wd_X4_copyFrom, by decide, by decide⟩ (by decide) (fun _ => rfl) rfl (Nat.le_of_ble_eq_true rfl) rfl (f_X4_copyFrom (u := 0) (s := 2 + i.toNat) (by omega) hV.g.1 hV.2.2.1 hV.1 hT ?_)
      refine xs_aload_0 eX7_save_30 ?_
      refine g_X7_3 eX7_save_31 lRX7_23 ?_
      refine xs_iload_1 eX7_save_34 ?_
      refine xa_iconst eX7_save_35 ?_
      refine pa_21 eX7_save_36 (by omega) (by decide) ?_
      exact xa_vret eX7_save_37 rfl ⟨rfl, hA ⟨by omega, by omega⟩⟩
set_option maxHeartbeats 400000 in
theorem F_restore {w : xW} {S : xS} {B : String → xS → Prop} {A : xS → Prop} {i : Int} {T : Int} (hT : T ≤ 1000000) (yi : xr i) (h21 : ∀ j, j < 2 → S 21 0 j = 0 ∨ S 21 0 j = 1) (hA : 0 ≤ i ∧ i < 2 → S 21 0 i.toNat = 1 → ∃ k N, VS (2 + i.toNat) k N T S ∧ A (cpyS (2 + i.toNat) 0 k N S)) (hB1 : ¬ (0 ≤ i ∧ i < 2) → B "java/lang/IllegalArgumentException" S) (hB2 : 0 ≤ i ∧ i < 2 → ¬ S 21 0 i.toNat = 1 → B "java/lang/IllegalStateException" S) : Kv w mX7_restore yX7_restore 1 6 [xp 0 0, xi i] S A B := by
  refine K.of rfl rfl rfl rfl (Nat.le_of_ble_eq_true rfl) rfl ?_
  refine xs_iload_1 eX7_restore_0 ?_
  refine xa_if_lt (tgt := 13) eX7_restore_1 (by decide) yi (fun c1 => ?_) (fun c1 => ?_)
  · refine xa_iconst eX7_restore_13 ?_
    exact xbv_S1 (mi' := mX7_checkArgument) (y := yX7_checkArgument) eX7_restore_14 (xw_4 lRX7_116 wy_X7_checkArgument) rfl rfl ⟨wd_X7_checkArgument, by decide, by decide⟩ (Nat.le_of_ble_eq_true rfl) rfl ⟨by decide, by decide⟩ (kt_X7_checkArgument (P := False) id (xt_out rfl (hB1 (by omega))))
  · refine xs_iload_1 eX7_restore_4 ?_
    refine xa_iconst eX7_restore_5 ?_
    refine xa_icmp_ge (tgt := 13) eX7_restore_6 (by decide) yi (by decide) (fun c6 => ?_) (fun c6 => ?_)
    · refine xa_iconst eX7_restore_13 ?_
      exact xbv_S1 (mi' := mX7_checkArgument) (y := yX7_checkArgument) eX7_restore_14 (xw_4 lRX7_116 wy_X7_checkArgument) rfl rfl ⟨wd_X7_checkArgument, by decide, by decide⟩ (Nat.le_of_ble_eq_true rfl) rfl ⟨by decide, by decide⟩ (kt_X7_checkArgument (P := False) id (xt_out rfl (hB1 (by omega))))
    · refine xa_iconst eX7_restore_9 ?_
      refine xa_goto (tgt := 14) eX7_restore_10 (by decide) ?_
      refine xbv_S10 (mi' := mX7_checkArgument) (y := yX7_checkArgument) eX7_restore_14 (xw_4 lRX7_116 wy_X7_checkArgument) rfl rfl ⟨wd_X7_checkArgument, by decide, by decide⟩ (Nat.le_of_ble_eq_true rfl) rfl (kk_X7_checkArgument (P := True) trivial ?_)
      refine xs_aload_0 eX7_restore_17 ?_
      refine g_X7_3 eX7_restore_18 lRX7_23 ?_
      refine xs_iload_1 eX7_restore_21 ?_
      have hz := h21 i.toNat (by omega)
      have hb : S 21 0 i.toNat = b2i (S 21 0 i.toNat = 1) := by rcases hz with z | z <;> rw [z] <;> decide
      refine gar_21 eX7_restore_22 (by omega) (fun r22 => ?_)
      rw [show (xi (S 21 0 i.toNat) : xV) = xi (b2i (S 21 0 i.toNat = 1)) by rw [← hb]]
      by_cases c23 : S 21 0 i.toNat = 1
      · refine xbv_S10 (mi' := mX7_checkState) (y := yX7_checkState) eX7_restore_23 (xw_4 lRX7_53 wy_X7_checkState) rfl rfl ⟨wd_X7_checkState, by decide, by decide⟩ (Nat.le_of_ble_eq_true rfl) rfl (kk_X7_checkState c23 ?_)
        obtain ⟨k2, N2, hV, hA9⟩ := hA ⟨by omega, by omega⟩ c23
        refine xs_aload_0 eX7_restore_26 ?_
        refine g_X7_0 eX7_restore_27 lRX7_10 ?_
        refine xs_aload_0 eX7_restore_30 ?_
        refine g_X7_2 eX7_restore_31 lRX7_19 ?_
        refine xs_iload_1 eX7_restore_34 ?_
        refine ga_20 eX7_restore_35 (by omega) ?_
        refine xbv_V10 (mi' := mX4_copyFrom) (y := yX4_copyFrom) eX7_restore_36 (xw_5 lRX7_226 wy_X4_copyFrom) rfl ⟨wd_X4_copyFrom, by decide, by decide⟩ (by decide) (fun _ => rfl) rfl (Nat.le_of_ble_eq_true rfl) rfl (f_X4_copyFrom (u := 2 + i.toNat) (s := 0) (by omega) hV.g.1 hV.2.2.1 hV.1 hT ?_)
        exact xa_vret eX7_restore_39 rfl ⟨rfl, hA9⟩
      · exact xbv_S1 (mi' := mX7_checkState) (y := yX7_checkState) eX7_restore_23 (xw_4 lRX7_53 wy_X7_checkState) rfl rfl ⟨wd_X7_checkState, by decide, by decide⟩ (Nat.le_of_ble_eq_true rfl) rfl ⟨by decide, by decide⟩ (kt_X7_checkState c23 (xt_out rfl (hB2 ⟨by omega, by omega⟩ c23)))
