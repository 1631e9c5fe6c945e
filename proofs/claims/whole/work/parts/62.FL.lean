/-! the class: texts and saved states -/
set_option maxHeartbeats 400000 in
theorem F_errorCode {w : xW} {S : xS} {B : String → xS → Prop} {A : Int → xS → Prop} (hq : A (S 3 0 4) S) : Ki w mX7_errorCode yX7_errorCode 0 0 [xp 0 0] S A B := by
  refine K.of rfl rfl rfl rfl (Nat.le_of_ble_eq_true rfl) rfl ?_
  refine xs_aload_0 eX7_errorCode_0 ?_
  refine g_X7_6 eX7_errorCode_1 lRX7_40 ?_
  refine gr_X3_4 eX7_errorCode_4 lRX7_242 (fun r4 => ?_)
  exact xa_iret eX7_errorCode_7 rfl ⟨_, rfl, hq⟩
set_option maxHeartbeats 400000 in
theorem F_errorPosition {w : xW} {S : xS} {B : String → xS → Prop} {A : Int → xS → Prop} (hq : A (S 3 0 5) S) : Ki w mX7_errorPosition yX7_errorPosition 0 0 [xp 0 0] S A B := by
  refine K.of rfl rfl rfl rfl (Nat.le_of_ble_eq_true rfl) rfl ?_
  refine xs_aload_0 eX7_errorPosition_0 ?_
  refine g_X7_6 eX7_errorPosition_1 lRX7_40 ?_
  refine gr_X3_5 eX7_errorPosition_4 lRX7_245 (fun r4 => ?_)
  exact xa_iret eX7_errorPosition_7 rfl ⟨_, rfl, hq⟩
set_option maxHeartbeats 400000 in
theorem F_truncateText {w : xW} {S : xS} {B : String → xS → Prop} {A : Int → xS → Prop} {a : Int} (ya : xr a) (hA : 0 ≤ a ∧ a ≤ S 3 0 1 → A a (up S 3 0 1 a)) (hB1 : ¬ (0 ≤ a ∧ a ≤ S 3 0 1) → B "java/lang/IllegalArgumentException" S) : Ki w mX7_truncateText yX7_truncateText 1 6 [xp 0 0, xi a] S A B := by
  refine K.of rfl rfl rfl rfl (Nat.le_of_ble_eq_true rfl) rfl ?_
  refine xs_iload_1 eX7_truncateText_0 ?_
  refine xa_iconst eX7_truncateText_1 ?_
  refine xs_aload_0 eX7_truncateText_2 ?_
  refine g_X7_6 eX7_truncateText_3 lRX7_40 ?_
  refine gr_X3_1 eX7_truncateText_6 lRX7_229 (fun r6 => ?_)
  by_cases c9 : 0 ≤ a ∧ a ≤ S 3 0 1
  · refine xbv_S30 (mi' := mX7_checkRange) (y := yX7_checkRange) eX7_truncateText_9 (xw_4 lRX7_45 wy_X7_checkRange) rfl rfl ⟨wd_X7_checkRange, by decide, by decide⟩ (Nat.le_of_ble_eq_true rfl) rfl (kk_X7_checkRange ya (by decide) r6 c9 ?_)
    refine xs_aload_0 eX7_truncateText_12 ?_
    refine g_X7_6 eX7_truncateText_13 lRX7_40 ?_
    refine xs_iload_1 eX7_truncateText_16 ?_
    refine p_X3_1 eX7_truncateText_17 lRX7_229 (by omega) ?_
    refine xs_iload_1 eX7_truncateText_20 ?_
    exact xa_iret eX7_truncateText_21 rfl ⟨_, rfl, hA c9⟩
  · exact xbv_S3 (mi' := mX7_checkRange) (y := yX7_checkRange) eX7_truncateText_9 (xw_4 lRX7_45 wy_X7_checkRange) rfl rfl ⟨wd_X7_checkRange, by decide, by decide⟩ (Nat.le_of_ble_eq_true rfl) rfl ⟨by decide, by decide⟩ (kt_X7_checkRange ya (by decide) r6 c9 (xt_out rfl (hB1 c9)))
set_option maxHeartbeats 400000 in
theorem F_save {w : xW} {S : xS} {B : String → xS → Prop} {A : xS → Prop} {i : Int} {n N : Nat} {T : Int} (hV : VS 0 n N T S) (hT : T ≤ 1000000) (yi : xr i) (hA : 0 ≤ i ∧ i < 2 → A (up (cpyS 0 (2 + i.toNat) n N S) 21 0 i.toNat 1)) (hB1 : ¬ (0 ≤ i ∧ i < 2) → B "java/lang/IllegalArgumentException" S) : Kv w mX7_save yX7_save 1 6 [xp 0 0, xi i] S A B := by
  refine K.of rfl rfl rfl rfl (Nat.le_of_ble_eq_true rfl) rfl ?_
  refine xs_iload_1 eX7_save_0 ?_
  refine xa_if_lt (tgt := 13) eX7_save_1 (by decide) yi (fun c1 => ?_) (fun c1 => ?_)
  · refine xa_iconst eX7_save_13 ?_
    exact xbv_S1 (mi' := mX7_checkArgument) (y := yX7_checkArgument) eX7_save_14 (xw_4 lRX7_116 wy_X7_checkArgument) rfl rfl ⟨wd_X7_checkArgument, by decide, by decide⟩ (Nat.le_of_ble_eq_true rfl) rfl ⟨by decide, by decide⟩ (kt_X7_checkArgument (P := False) id (xt_out rfl (hB1 (by omega))))
  · refine xs_iload_1 eX7_save_4 ?_
    refine xa_iconst eX7_save_5 ?_
    refine xa_icmp_ge (tgt := 13) eX7_save_6 (by decide) yi (by decide) (fun c6 => ?_) (fun c6 => ?_)
    · refine xa_iconst eX7_save_13 ?_
      exact xbv_S1 (mi' := mX7_checkArgument) (y := yX7_checkArgument) eX7_save_14 (xw_4 lRX7_116 wy_X7_checkArgument) rfl rfl ⟨wd_X7_checkArgument, by decide, by decide⟩ (Nat.le_of_ble_eq_true rfl) rfl ⟨by decide, by decide⟩ (kt_X7_checkArgument (P := False) id (xt_out rfl (hB1 (by omega))))
    · refine xa_iconst eX7_save_9 ?_
      refine xa_goto (tgt := 14) eX7_save_10 (by decide) ?_
      refine xbv_S10 (mi' := mX7_checkArgument) (y := yX7_checkArgument) eX7_save_14 (xw_4 lRX7_116 wy_X7_checkArgument) rfl rfl ⟨wd_X7_checkArgument, by decide, by decide⟩ (Nat.le_of_ble_eq_true rfl) rfl (kk_X7_checkArgument (P := True) trivial ?_)
      refine xs_aload_0 eX7_save_17 ?_
      refine g_X7_2 eX7_save_18 lRX7_19 ?_
      refine xs_iload_1 eX7_save_21 ?_
      refine ga_20 eX7_save_22 (by omega) ?_
      refine xs_aload_0 eX7_save_23 ?_
      refine g_X7_0 eX7_save_24 lRX7_10 ?_
      refine xbv_V10 (mi' := mX4_copyFrom) (y := yX4_copyFrom) eX7_save_27 (xw_5 lRX7_226 wy_X4_copyFrom) rfl ⟨wd_X4_copyFrom, by decide, by decide⟩ (by decide) (fun _ => rfl) rfl (Nat.le_of_ble_eq_true rfl) rfl (f_X4_copyFrom (u := 0) (s := 2 + i.toNat) (by omega) hV.g.1 hV.2.2.1 hV.1 hT ?_)
      refine xs_aload_0 eX7_save_30 ?_
      refine g_X7_3 eX7_save_31 lRX7_23 ?_
      refine xs_iload_1 eX7_save_34 ?_
      refine xa_iconst eX7_save_35 ?_
      refine pa_21 eX7_save_36 (by omega) (by decide) ?_
      exact xa_vret eX7_save_37 rfl ⟨rfl, hA ⟨by omega, by omega⟩⟩
set_option maxHeartbeats 400000 in
theorem F_restore {w : xW} {S : xS} {B : String → xS → Prop} {A : xS → Prop} {i : Int} {T : Int} (hT : T ≤ 1000000) (yi : xr i) (h21 : ∀ j, j < 2 → S 21 0 j = 0 ∨ S 21 0 j = 1) (hA : 0 ≤ i ∧ i < 2 → S 21 0 i.toNat = 1 → ∃ k N, VS (2 + i.toNat) k N T S ∧ A (cpyS (2 + i.toNat) 0 k N S)) (hB1 : ¬ (0 ≤ i ∧ i < 2) → B "java/lang/IllegalArgumentException" S) (hB2 : 0 ≤ i ∧ i < 2 → ¬ S 21 0 i.toNat = 1 → B "java/lang/IllegalStateException" S) : Kv w mX7_restore yX7_restore 1 6 [xp 0 0, xi i] S A B := by
  refine K.of rfl rfl rfl rfl (Nat.le_of_ble_eq_true rfl) rfl ?_
  refine xs_iload_1 eX7_restore_0 ?_
  refine xa_if_lt (tgt := 13) eX7_restore_1 (by decide) yi (fun c1 => ?_) (fun c1 => ?_)
  · refine xa_iconst eX7_restore_13 ?_
    exact xbv_S1 (mi' := mX7_checkArgument) (y := yX7_checkArgument) eX7_restore_14 (xw_4 lRX7_116 wy_X7_checkArgument) rfl rfl ⟨wd_X7_checkArgument, by decide, by decide⟩ (Nat.le_of_ble_eq_true rfl) rfl ⟨by decide, by decide⟩ (kt_X7_checkArgument (P := False) id (xt_out rfl (hB1 (by omega))))
  · refine xs_iload_1 eX7_restore_4 ?_
    refine xa_iconst eX7_restore_5 ?_
    refine xa_icmp_ge (tgt := 13) eX7_restore_6 (by decide) yi (by decide) (fun c6 => ?_) (fun c6 => ?_)
    · refine xa_iconst eX7_restore_13 ?_
      exact xbv_S1 (mi' := mX7_checkArgument) (y := yX7_checkArgument) eX7_restore_14 (xw_4 lRX7_116 wy_X7_checkArgument) rfl rfl ⟨wd_X7_checkArgument, by decide, by decide⟩ (Nat.le_of_ble_eq_true rfl) rfl ⟨by decide, by decide⟩ (kt_X7_checkArgument (P := False) id (xt_out rfl (hB1 (by omega))))
    · refine xa_iconst eX7_restore_9 ?_
      refine xa_goto (tgt := 14) eX7_restore_10 (by decide) ?_
      refine xbv_S10 (mi' := mX7_checkArgument) (y := yX7_checkArgument) eX7_restore_14 (xw_4 lRX7_116 wy_X7_checkArgument) rfl rfl ⟨wd_X7_checkArgument, by decide, by decide⟩ (Nat.le_of_ble_eq_true rfl) rfl (kk_X7_checkArgument (P := True) trivial ?_)
      refine xs_aload_0 eX7_restore_17 ?_
      refine g_X7_3 eX7_restore_18 lRX7_23 ?_
      refine xs_iload_1 eX7_restore_21 ?_
      have hz := h21 i.toNat (by omega)
      have hb : S 21 0 i.toNat = b2i (S 21 0 i.toNat = 1) := by rcases hz with z | z <;> rw [z] <;> decide
      refine gar_21 eX7_restore_22 (by omega) (fun r22 => ?_)
      rw [show (xi (S 21 0 i.toNat) : xV) = xi (b2i (S 21 0 i.toNat = 1)) by rw [← hb]]
      by_cases c23 : S 21 0 i.toNat = 1
      · refine xbv_S10 (mi' := mX7_checkState) (y := yX7_checkState) eX7_restore_23 (xw_4 lRX7_53 wy_X7_checkState) rfl rfl ⟨wd_X7_checkState, by decide, by decide⟩ (Nat.le_of_ble_eq_true rfl) rfl (kk_X7_checkState c23 ?_)
        obtain ⟨k2, N2, hV, hA9⟩ := hA ⟨by omega, by omega⟩ c23
        refine xs_aload_0 eX7_restore_26 ?_
        refine g_X7_0 eX7_restore_27 lRX7_10 ?_
        refine xs_aload_0 eX7_restore_30 ?_
        refine g_X7_2 eX7_restore_31 lRX7_19 ?_
        refine xs_iload_1 eX7_restore_34 ?_
        refine ga_20 eX7_restore_35 (by omega) ?_
        refine xbv_V10 (mi' := mX4_copyFrom) (y := yX4_copyFrom) eX7_restore_36 (xw_5 lRX7_226 wy_X4_copyFrom) rfl ⟨wd_X4_copyFrom, by decide, by decide⟩ (by decide) (fun _ => rfl) rfl (Nat.le_of_ble_eq_true rfl) rfl (f_X4_copyFrom (u := 2 + i.toNat) (s := 0) (by omega) hV.g.1 hV.2.2.1 hV.1 hT ?_)
        exact xa_vret eX7_restore_39 rfl ⟨rfl, hA9⟩
      · exact xbv_S1 (mi' := mX7_checkState) (y := yX7_checkState) eX7_restore_23 (xw_4 lRX7_53 wy_X7_checkState) rfl rfl ⟨wd_X7_checkState, by decide, by decide⟩ (Nat.le_of_ble_eq_true rfl) rfl ⟨by decide, by decide⟩ (kt_X7_checkState c23 (xt_out rfl (hB2 ⟨by omega, by omega⟩ c23)))
theorem VP_pr0 {S : xS} {n : Nat} {T : Int} (hT : 0 ≤ T) (hn : S 3 0 1 = (n : Int)) (h7 : n ≤ 700) (hv : 0 ≤ S 3 0 9 ∧ S 3 0 9 ≤ 10000000) : VP n 0 0 T (nx n (pr0 S)) := by
  have hc := (clrS_3 (s := 4) (S := S) hT).1
  have e1 : pr0 S 3 0 1 = (n : Int) := by show clrS 4 S 3 0 1 = _; rw [hc]; exact hn
  have e9 : 0 ≤ pr0 S 3 0 9 ∧ pr0 S 3 0 9 ≤ 10000000 := by show 0 ≤ clrS 4 S 3 0 9 ∧ clrS 4 S 3 0 9 ≤ _; rw [hc]; exact hv
  have e8 : pr0 S 3 0 8 = 0 := rfl
  exact ⟨(PT_nx0 e1 h7 ⟨by omega, by omega⟩ e9).1, VS_of (VS_of (VS.clr (s := 4) (S := S) hT) (fun a ha => by funext y f; show up (up (up (clrS 4 S) 3 0 4 0) 3 0 5 (-1)) 3 0 8 0 a y f = _; rw [up_k ha, up_k ha, up_k ha])) (fun a ha => nx_o ha)⟩
set_option maxHeartbeats 400000 in
theorem F_read {w : xW} {S : xS} {B : String → xS → Prop} {A : Int → xS → Prop} {n : Nat} {T : Int} (hT : 0 ≤ T ∧ T ≤ 900000) (hn : S 3 0 1 = (n : Int)) (h7 : n ≤ 700) (hv : 0 ≤ S 3 0 9 ∧ S 3 0 9 ≤ 10000000) (hA0 : ∀ r : Bool × xS, chn n n (nx n (pr0 S)) r → r.1 = false → A (-1) (up r.2 3 0 1 0)) (hA1 : ∀ (r : Bool × xS) (k N : Nat), chn n n (nx n (pr0 S)) r → r.1 = true → VP n k N T r.2 → A (N : Int) (cpyS 4 0 k N (up r.2 3 0 1 0))) : Ki w mX7_read yX7_read 0 0 [xp 0 0] S A B := by
  refine K.of rfl rfl rfl rfl (Nat.le_of_ble_eq_true rfl) rfl ?_
  have hs := VP_pr0 hT.1 hn h7 hv
  refine xs_aload_0 eX7_read_0 ?_
  refine g_X7_6 eX7_read_1 lRX7_40 ?_
  refine xbi_V00 (mi' := mX3_parse) (y := yX3_parse) eX7_read_4 (xw_5 lRX7_235 wy_X3_parse) rfl ⟨wd_X3_parse, by decide, by decide⟩ (by decide) (fun _ => rfl) rfl (Nat.le_of_ble_eq_true rfl) rfl (f_X3_parse hT hn h7 hv (fun r hr => ?_))
  refine xs_istore_1 eX7_read_7 rfl ?_
  refine xs_aload_0 eX7_read_8 ?_
  refine g_X7_6 eX7_read_9 lRX7_40 ?_
  refine xa_iconst eX7_read_12 ?_
  refine p_X3_1 eX7_read_13 lRX7_229 (by decide) ?_
  refine xs_iload_1 eX7_read_16 ?_
  refine xa_ifb_ne (tgt := 22) eX7_read_17 (by decide) (fun c17 => ?_) (fun c17 => ?_)
  · obtain ⟨k2, N2, hP2⟩ := chn_V hT.1 hs hr c17
    have hk : (up r.2 3 0 1 0) 1 4 3 = (k2 : Int) ∧ k2 ≤ 8 ∧ VT 4 N2 T (up r.2 3 0 1 0) ∧ True := ⟨hP2.2.g.1, hP2.2.2.2.1, hP2.2.1, trivial⟩
    refine xs_aload_0 eX7_read_22 ?_
    refine g_X7_0 eX7_read_23 lRX7_10 ?_
    refine xs_aload_0 eX7_read_26 ?_
    refine g_X7_6 eX7_read_27 lRX7_40 ?_
    refine g_X3_2 eX7_read_30 lRX7_239 ?_
    refine xbv_V10 (mi' := mX4_copyFrom) (y := yX4_copyFrom) eX7_read_33 (xw_5 lRX7_226 wy_X4_copyFrom) rfl ⟨wd_X4_copyFrom, by decide, by decide⟩ (by decide) (fun _ => rfl) rfl (Nat.le_of_ble_eq_true rfl) rfl (f_X4_copyFrom (u := 4) (s := 0) (by decide) hk.1 hk.2.1 hk.2.2.1 (by omega) ?_)
    refine xs_aload_0 eX7_read_36 ?_
    refine g_X7_0 eX7_read_37 lRX7_10 ?_
    refine g_X4_0 eX7_read_40 lRX7_88 ?_
    refine gr_X5_1 eX7_read_43 lRX7_101 (fun r43 => ?_)
    rw [show cpyS 4 0 k2 N2 (up r.2 3 0 1 0) 2 0 1 = (N2 : Int) by rw [(cpyS_at (u := 4) (s := 0) (n := k2) (N := N2) (S := up r.2 3 0 1 0) (by decide)).2.1]; exact hP2.2.1.1]
    exact xa_iret eX7_read_46 rfl ⟨_, rfl, hA1 r k2 N2 hr c17 hP2⟩
  · refine xa_iconst eX7_read_20 ?_
    exact xa_iret eX7_read_21 rfl ⟨_, rfl, hA0 r hr (by simpa using c17)⟩
def bya (a : Int) (k : Int) : Int := (Int32.ofInt (Int32.ofInt a >>> (Int32.ofInt k &&& 31)).toInt).toInt8.toInt
def apS (n : Nat) (a : Int) (S : xS) : xS := fun k j f => if k = 3 ∧ j = 0 ∧ f = 1 then (n : Int) + 4 else if k = 24 ∧ j = 0 ∧ n ≤ f ∧ f < n + 4 then bya a (24 - 8 * ((f : Int) - (n : Int))) else S k j f
theorem apS_eq {n : Nat} {a : Int} {S : xS} : up (up (up (up (up (up (up (up S 24 0 (n : Int).toNat (bya a 24)) 3 0 1 ((n : Int) + 1)) 24 0 ((n : Int) + 1).toNat (bya a (24 + -8))) 3 0 1 ((n : Int) + 1 + 1)) 24 0 ((n : Int) + 1 + 1).toNat (bya a (24 + -8 + -8))) 3 0 1 ((n : Int) + 1 + 1 + 1)) 24 0 ((n : Int) + 1 + 1 + 1).toNat (bya a (24 + -8 + -8 + -8))) 3 0 1 ((n : Int) + 1 + 1 + 1 + 1) = apS n a S := by
  rw [show ((n : Int)).toNat = n by omega, show ((n : Int) + 1).toNat = n + 1 by omega, show ((n : Int) + 1 + 1).toNat = n + 2 by omega, show ((n : Int) + 1 + 1 + 1).toNat = n + 3 by omega]
  funext k j f
  unfold up apS
  by_cases c : k = 3 ∧ j = 0 ∧ f = 1
  · rw [if_pos c, if_pos c]; omega
  · rw [if_neg c, if_neg c, if_neg c, if_neg c, if_neg c]
    by_cases c3 : k = 24 ∧ j = 0 ∧ f = n + 3
    · rw [if_pos c3, if_pos (by omega), show 24 - 8 * ((f : Int) - (n : Int)) = 24 + -8 + -8 + -8 by omega]
    · rw [if_neg c3]
      by_cases c2 : k = 24 ∧ j = 0 ∧ f = n + 2
      · rw [if_pos c2, if_pos (by omega), show 24 - 8 * ((f : Int) - (n : Int)) = 24 + -8 + -8 by omega]
      · rw [if_neg c2]
        by_cases c1 : k = 24 ∧ j = 0 ∧ f = n + 1
        · rw [if_pos c1, if_pos (by omega), show 24 - 8 * ((f : Int) - (n : Int)) = 24 + -8 by omega]
        · rw [if_neg c1]
          by_cases c0 : k = 24 ∧ j = 0 ∧ f = n
          · rw [if_pos c0, if_pos (by omega), show 24 - 8 * ((f : Int) - (n : Int)) = 24 by omega]
          · rw [if_neg c0, if_neg (by omega)]
set_option maxHeartbeats 400000 in
theorem f_X3_append {w : xW} {S : xS} {B : String → xS → Prop} {A : xS → Prop} {n : Nat} {a : Int} (hn : S 3 0 1 = (n : Int)) (h7 : n ≤ 696) (hq : A (apS n a S)) : Kv w mX3_append yX3_append 0 0 [xp 3 0, xi a] S A B := by
  refine K.of rfl rfl rfl rfl (Nat.le_of_ble_eq_true rfl) rfl ?_
  have hb : ∀ x : Int32, -128 ≤ x.toInt8.toInt ∧ x.toInt8.toInt < 128 := fun x => ⟨Int8.le_toInt _, Int8.toInt_lt _⟩
  refine xa_bipush eX3_append_0 (by decide) ?_
  refine xs_istore_2 eX3_append_2 rfl ?_
  refine xs_iload_2 eX3_append_3 ?_
  refine xa_if_lt (tgt := 46) eX3_append_4 (by decide) (by decide) (fun c4 => ?_) (fun c4 => ?_)
  · exact absurd c4 (by decide)
  · refine xs_aload_0 eX3_append_7 ?_
    refine gr_X3_1 eX3_append_8 lRX3_42 (fun r8 => ?_)
    try simp (decide := true) only [up_app, if_true, if_false, and_true, true_and, and_false, false_and, hn] at r8 ⊢
    refine xa_sipush eX3_append_11 (by decide) ?_
    refine xa_icmp_ge (tgt := 46) eX3_append_14 (by decide) (by omega) (by decide) (fun c14 => ?_) (fun c14 => ?_)
    · exact absurd c14 (by omega)
    · refine xs_aload_0 eX3_append_17 ?_
      refine g_X3_0 eX3_append_18 lRX3_9 ?_
      refine xs_aload_0 eX3_append_21 ?_
      refine gr_X3_1 eX3_append_22 lRX3_42 (fun r22 => ?_)
      try simp (decide := true) only [up_app, if_true, if_false, and_true, true_and, and_false, false_and, hn] at r22 ⊢
      refine xs_iload_1 eX3_append_25 ?_
      refine xs_iload_2 eX3_append_26 ?_
      refine xa_ishr eX3_append_27 ?_
      refine xa_i2b eX3_append_28 ?_
      refine pa_24 eX3_append_29 (by omega) (hb _) ?_
      refine xs_aload_0 eX3_append_30 ?_
      refine xa_dup eX3_append_31 rfl ?_
      refine gr_X3_1 eX3_append_32 lRX3_42 (fun r32 => ?_)
      try simp (decide := true) only [up_app, if_true, if_false, and_true, true_and, and_false, false_and, hn] at r32 ⊢
      refine xa_iconst eX3_append_35 ?_
      refine xa_iadd eX3_append_36 ?_
      refine p_X3_1 eX3_append_37 lRX3_42 (by omega) ?_
      refine xs_iinc_2 eX3_append_40 rfl ?_
      refine xa_goto (tgt := 3) eX3_append_43 (by decide) ?_
      refine xs_iload_2 eX3_append_3 ?_
      refine xa_if_lt (tgt := 46) eX3_append_4 (by decide) (by decide) (fun c4 => ?_) (fun c4 => ?_)
      · exact absurd c4 (by decide)
      · refine xs_aload_0 eX3_append_7 ?_
        refine gr_X3_1 eX3_append_8 lRX3_42 (fun r8 => ?_)
        try simp (decide := true) only [up_app, if_true, if_false, and_true, true_and, and_false, false_and, hn] at r8 ⊢
        refine xa_sipush eX3_append_11 (by decide) ?_
        refine xa_icmp_ge (tgt := 46) eX3_append_14 (by decide) (by omega) (by decide) (fun c14 => ?_) (fun c14 => ?_)
        · exact absurd c14 (by omega)
        · refine xs_aload_0 eX3_append_17 ?_
          refine g_X3_0 eX3_append_18 lRX3_9 ?_
          refine xs_aload_0 eX3_append_21 ?_
          refine gr_X3_1 eX3_append_22 lRX3_42 (fun r22 => ?_)
          try simp (decide := true) only [up_app, if_true, if_false, and_true, true_and, and_false, false_and, hn] at r22 ⊢
          refine xs_iload_1 eX3_append_25 ?_
          refine xs_iload_2 eX3_append_26 ?_
          refine xa_ishr eX3_append_27 ?_
          refine xa_i2b eX3_append_28 ?_
          refine pa_24 eX3_append_29 (by omega) (hb _) ?_
          refine xs_aload_0 eX3_append_30 ?_
          refine xa_dup eX3_append_31 rfl ?_
          refine gr_X3_1 eX3_append_32 lRX3_42 (fun r32 => ?_)
          try simp (decide := true) only [up_app, if_true, if_false, and_true, true_and, and_false, false_and, hn] at r32 ⊢
          refine xa_iconst eX3_append_35 ?_
          refine xa_iadd eX3_append_36 ?_
          refine p_X3_1 eX3_append_37 lRX3_42 (by omega) ?_
          refine xs_iinc_2 eX3_append_40 rfl ?_
          refine xa_goto (tgt := 3) eX3_append_43 (by decide) ?_
          refine xs_iload_2 eX3_append_3 ?_
          refine xa_if_lt (tgt := 46) eX3_append_4 (by decide) (by decide) (fun c4 => ?_) (fun c4 => ?_)
          · exact absurd c4 (by decide)
          · refine xs_aload_0 eX3_append_7 ?_
            refine gr_X3_1 eX3_append_8 lRX3_42 (fun r8 => ?_)
            try simp (decide := true) only [up_app, if_true, if_false, and_true, true_and, and_false, false_and, hn] at r8 ⊢
            refine xa_sipush eX3_append_11 (by decide) ?_
            refine xa_icmp_ge (tgt := 46) eX3_append_14 (by decide) (by omega) (by decide) (fun c14 => ?_) (fun c14 => ?_)
            · exact absurd c14 (by omega)
            · refine xs_aload_0 eX3_append_17 ?_
              refine g_X3_0 eX3_append_18 lRX3_9 ?_
              refine xs_aload_0 eX3_append_21 ?_
              refine gr_X3_1 eX3_append_22 lRX3_42 (fun r22 => ?_)
              try simp (decide := true) only [up_app, if_true, if_false, and_true, true_and, and_false, false_and, hn] at r22 ⊢
              refine xs_iload_1 eX3_append_25 ?_
              refine xs_iload_2 eX3_append_26 ?_
              refine xa_ishr eX3_append_27 ?_
              refine xa_i2b eX3_append_28 ?_
              refine pa_24 eX3_append_29 (by omega) (hb _) ?_
              refine xs_aload_0 eX3_append_30 ?_
              refine xa_dup eX3_append_31 rfl ?_
              refine gr_X3_1 eX3_append_32 lRX3_42 (fun r32 => ?_)
              try simp (decide := true) only [up_app, if_true, if_false, and_true, true_and, and_false, false_and, hn] at r32 ⊢
              refine xa_iconst eX3_append_35 ?_
              refine xa_iadd eX3_append_36 ?_
              refine p_X3_1 eX3_append_37 lRX3_42 (by omega) ?_
              refine xs_iinc_2 eX3_append_40 rfl ?_
              refine xa_goto (tgt := 3) eX3_append_43 (by decide) ?_
              refine xs_iload_2 eX3_append_3 ?_
              refine xa_if_lt (tgt := 46) eX3_append_4 (by decide) (by decide) (fun c4 => ?_) (fun c4 => ?_)
              · exact absurd c4 (by decide)
              · refine xs_aload_0 eX3_append_7 ?_
                refine gr_X3_1 eX3_append_8 lRX3_42 (fun r8 => ?_)
                try simp (decide := true) only [up_app, if_true, if_false, and_true, true_and, and_false, false_and, hn] at r8 ⊢
                refine xa_sipush eX3_append_11 (by decide) ?_
                refine xa_icmp_ge (tgt := 46) eX3_append_14 (by decide) (by omega) (by decide) (fun c14 => ?_) (fun c14 => ?_)
                · exact absurd c14 (by omega)
                · refine xs_aload_0 eX3_append_17 ?_
                  refine g_X3_0 eX3_append_18 lRX3_9 ?_
                  refine xs_aload_0 eX3_append_21 ?_
                  refine gr_X3_1 eX3_append_22 lRX3_42 (fun r22 => ?_)
                  try simp (decide := true) only [up_app, if_true, if_false, and_true, true_and, and_false, false_and, hn] at r22 ⊢
                  refine xs_iload_1 eX3_append_25 ?_
                  refine xs_iload_2 eX3_append_26 ?_
                  refine xa_ishr eX3_append_27 ?_
                  refine xa_i2b eX3_append_28 ?_
                  refine pa_24 eX3_append_29 (by omega) (hb _) ?_
                  refine xs_aload_0 eX3_append_30 ?_
                  refine xa_dup eX3_append_31 rfl ?_
                  refine gr_X3_1 eX3_append_32 lRX3_42 (fun r32 => ?_)
                  try simp (decide := true) only [up_app, if_true, if_false, and_true, true_and, and_false, false_and, hn] at r32 ⊢
                  refine xa_iconst eX3_append_35 ?_
                  refine xa_iadd eX3_append_36 ?_
                  refine p_X3_1 eX3_append_37 lRX3_42 (by omega) ?_
                  refine xs_iinc_2 eX3_append_40 rfl ?_
                  refine xa_goto (tgt := 3) eX3_append_43 (by decide) ?_
                  refine xs_iload_2 eX3_append_3 ?_
                  refine xa_if_lt (tgt := 46) eX3_append_4 (by decide) (by decide) (fun c4 => ?_) (fun c4 => ?_)
                  · exact xa_vret eX3_append_46 rfl ⟨rfl, by rw [← apS_eq] at hq; exact hq⟩
                  · exact absurd c4 (by decide)
set_option maxHeartbeats 400000 in
theorem F_appendText {w : xW} {S : xS} {B : String → xS → Prop} {A : Int → xS → Prop} {n : Nat} {a : Int} (ya : xr a) (hn : S 3 0 1 = (n : Int)) (h7 : n ≤ 700) (hA : n ≤ 696 → A ((n : Int) + 4) (apS n a S)) (hB1 : ¬ n ≤ 696 → B "java/lang/IllegalStateException" S) : Ki w mX7_appendText yX7_appendText 1 6 [xp 0 0, xi a] S A B := by
  refine K.of rfl rfl rfl rfl (Nat.le_of_ble_eq_true rfl) rfl ?_
  refine xs_aload_0 eX7_appendText_0 ?_
  refine g_X7_6 eX7_appendText_1 lRX7_40 ?_
  refine gr_X3_1 eX7_appendText_4 lRX7_229 (fun r4 => ?_)
  refine xa_sipush eX7_appendText_7 (by decide) ?_
  refine xa_icmp_gt (tgt := 17) eX7_appendText_10 (by decide) (by omega) (by decide) (fun c10 => ?_) (fun c10 => ?_)
  · refine xa_iconst eX7_appendText_17 ?_
    exact xbv_S1 (mi' := mX7_checkState) (y := yX7_checkState) eX7_appendText_18 (xw_4 lRX7_53 wy_X7_checkState) rfl rfl ⟨wd_X7_checkState, by decide, by decide⟩ (Nat.le_of_ble_eq_true rfl) rfl ⟨by decide, by decide⟩ (kt_X7_checkState (P := False) id (xt_out rfl (hB1 (by omega))))
  · refine xa_iconst eX7_appendText_13 ?_
    refine xa_goto (tgt := 18) eX7_appendText_14 (by decide) ?_
    refine xbv_S10 (mi' := mX7_checkState) (y := yX7_checkState) eX7_appendText_18 (xw_4 lRX7_53 wy_X7_checkState) rfl rfl ⟨wd_X7_checkState, by decide, by decide⟩ (Nat.le_of_ble_eq_true rfl) rfl (kk_X7_checkState (P := True) trivial ?_)
    refine xs_aload_0 eX7_appendText_21 ?_
    refine g_X7_6 eX7_appendText_22 lRX7_40 ?_
    refine xs_iload_1 eX7_appendText_25 ?_
    refine xbv_V10 (mi' := mX3_append) (y := yX3_append) eX7_appendText_26 (xw_5 lRX7_232 wy_X3_append) rfl ⟨wd_X3_append, by decide, by decide⟩ (by decide) (fun _ => rfl) rfl (Nat.le_of_ble_eq_true rfl) rfl (f_X3_append hn (by omega) ?_)
    refine xs_aload_0 eX7_appendText_29 ?_
    refine g_X7_6 eX7_appendText_30 lRX7_40 ?_
    refine gr_X3_1 eX7_appendText_33 lRX7_229 (fun r33 => ?_)
    exact xa_iret eX7_appendText_36 rfl ⟨_, rfl, hA (by omega)⟩
