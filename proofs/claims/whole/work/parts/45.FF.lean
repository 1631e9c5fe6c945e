/-! buying -/
abbrev canP (j q : Nat) (C : xS) : Prop := C 10 (32 * 0 + j) 9 ≠ -1 ∧ C 10 (32 * 0 + j) 1 ≠ (q : Int) ∧ C 10 (32 * 0 + j) 9 ≤ C 4 (8 * 0 + q) 0
def o_buy (j q : Int) (n N : Nat) (C : xS) : xO := if 0 ≤ j ∧ j < (N : Int) then (if 0 ≤ q ∧ q < (n : Int) then (if canP j.toNat q.toNat C then (0, C 10 (32 * 0 + j.toNat) 1, n, N, selS 0 (32 * 0 + j.toNat) q.toNat (C 10 (32 * 0 + j.toNat) 1).toNat C) else (2, 0, n, N, C)) else (1, 0, n, N, C)) else (1, 0, n, N, C)
def o_buyCheapest (q : Int) (n N : Nat) (C : xS) : xO := if 0 ≤ q ∧ q < (n : Int) then (match chpS 0 q.toNat C N with | none => (0, -1, n, N, C) | some b => (0, (b : Int), n, N, selS 0 (32 * 0 + b) q.toNat (C 10 (32 * 0 + b) 1).toNat C)) else (1, 0, n, N, C)
theorem selS_eq {i q o : Nat} {C : xS} : up (up (up (up (up (up (up (up C 4 (8 * 0 + q) 0 (C 4 (8 * 0 + q) 0 - C 10 (32 * 0 + i) 9)) 4 (8 * 0 + o) 0 (xmin 1000000 (C 4 (8 * 0 + o) 0 + (C 10 (32 * 0 + i) 9 - feeS 0 (32 * 0 + i) C)))) 1 0 6 (C 1 0 6 + feeS 0 (32 * 0 + i) C)) 10 (32 * 0 + i) 1 (q : Int)) 10 (32 * 0 + i) 9 (-1)) 25 0 (8 * o + q) (C 25 0 (8 * o + q) + 1)) 5 0 1 (C 5 0 1 + 1)) 5 0 2 (C 5 0 2 + C 10 (32 * 0 + i) 9) = selS 0 (32 * 0 + i) q o C := by
  funext k y f
  unfold selS
  by_cases c : k = 10
  · subst c; simp (decide := true) only [up_app, if_false, false_and]
  · simp only [up_app, c, false_and, if_false]
set_option maxHeartbeats 400000 in
theorem r_X8_canBuy {w : xW} {S : xS} {B : String → xS → Prop} {A : Int → xS → Prop} {n N i q : Nat} {T : Int} {C : xS} {M : Nat → Int} (hV : VS 0 n N T C) (hT : T ≤ 900000) (hR : Rel 0 n N C M) (hi : i < N) (hqn : q < n) (hq : A (b2i (canP i q C)) (stM M S)) : Ki w mX8_canBuy yX8_canBuy 0 0 [xp 30 0, xi (i : Int), xi (q : Int)] (stM M S) A B := by
  refine K.of rfl rfl rfl rfl (Nat.le_of_ble_eq_true rfl) rfl ?_
  obtain ⟨hVT, hN20, h8, hg, hp, ho, hs⟩ := id hV
  have hOQ := ho i hi
  unfold OQ at hOQ
  have hPq := hp q hqn
  unfold PQ at hPq
  refine xs_aload_0 eX8_canBuy_0 ?_
  refine xs_iload_1 eX8_canBuy_1 ?_
  refine xa_bipush eX8_canBuy_2 (by decide) ?_
  refine xbi_V20 (mi' := mX8_told0) (y := yX8_told0) eX8_canBuy_4 (xw_5 lRX8_122 wy_X8_told0) rfl ⟨wd_X8_told0, by decide, by decide⟩ (by decide) (fun _ => rfl) rfl (Nat.le_of_ble_eq_true rfl) rfl (r_X8_told0 (j := i) (g := 9) hR rfl rfl hi hN20 (by decide) (by decide) (by decide) (by decide) ?_)
  refine xa_iconst eX8_canBuy_7 ?_
  refine xa_icmp_eq (tgt := 41) eX8_canBuy_8 (by decide) (by omega) (by decide) (fun c8 => ?_) (fun c8 => ?_)
  · refine xa_iconst eX8_canBuy_41 ?_
    exact xa_zret eX8_canBuy_42 rfl (by decide) ⟨_, rfl, by have h9 := hq; rw [b2i, if_neg (fun z : canP i q C => by unfold canP at z; omega)] at h9; exact h9⟩
  · refine xs_aload_0 eX8_canBuy_11 ?_
    refine xs_iload_1 eX8_canBuy_12 ?_
    refine xa_iconst eX8_canBuy_13 ?_
    refine xbi_V20 (mi' := mX8_told0) (y := yX8_told0) eX8_canBuy_14 (xw_5 lRX8_122 wy_X8_told0) rfl ⟨wd_X8_told0, by decide, by decide⟩ (by decide) (fun _ => rfl) rfl (Nat.le_of_ble_eq_true rfl) rfl (r_X8_told0 (j := i) (g := 1) hR rfl rfl hi hN20 (by decide) (by decide) (by decide) (by decide) ?_)
    refine xs_iload_2 eX8_canBuy_17 ?_
    refine xa_icmp_eq (tgt := 41) eX8_canBuy_18 (by decide) (by omega) (by omega) (fun c18 => ?_) (fun c18 => ?_)
    · refine xa_iconst eX8_canBuy_41 ?_
      exact xa_zret eX8_canBuy_42 rfl (by decide) ⟨_, rfl, by have h9 := hq; rw [b2i, if_neg (fun z : canP i q C => by unfold canP at z; omega)] at h9; exact h9⟩
    · refine xs_aload_0 eX8_canBuy_21 ?_
      refine xs_iload_2 eX8_canBuy_22 ?_
      refine xa_iconst eX8_canBuy_23 ?_
      refine xbi_V20 (mi' := mX8_of) (y := yX8_of) eX8_canBuy_24 (xw_5 lRX8_70 wy_X8_of) rfl ⟨wd_X8_of, by decide, by decide⟩ (by decide) (fun _ => rfl) rfl (Nat.le_of_ble_eq_true rfl) rfl (r_X8_of (p := q) (g := 0) hR rfl rfl hqn h8 (by decide) ?_)
      refine xs_aload_0 eX8_canBuy_27 ?_
      refine xs_iload_1 eX8_canBuy_28 ?_
      refine xa_bipush eX8_canBuy_29 (by decide) ?_
      refine xbi_V20 (mi' := mX8_told0) (y := yX8_told0) eX8_canBuy_31 (xw_5 lRX8_122 wy_X8_told0) rfl ⟨wd_X8_told0, by decide, by decide⟩ (by decide) (fun _ => rfl) rfl (Nat.le_of_ble_eq_true rfl) rfl (r_X8_told0 (j := i) (g := 9) hR rfl rfl hi hN20 (by decide) (by decide) (by decide) (by decide) ?_)
      refine xa_icmp_lt (tgt := 41) eX8_canBuy_34 (by decide) (by omega) (by omega) (fun c34 => ?_) (fun c34 => ?_)
      · refine xa_iconst eX8_canBuy_41 ?_
        exact xa_zret eX8_canBuy_42 rfl (by decide) ⟨_, rfl, by have h9 := hq; rw [b2i, if_neg (fun z : canP i q C => by unfold canP at z; omega)] at h9; exact h9⟩
      · refine xa_iconst eX8_canBuy_37 ?_
        refine xa_goto (tgt := 42) eX8_canBuy_38 (by decide) ?_
        exact xa_zret eX8_canBuy_42 rfl (by decide) ⟨_, rfl, by have h9 := hq; rw [b2i, if_pos (show canP i q C from ⟨by omega, by omega, by omega⟩)] at h9; exact h9⟩
set_option maxHeartbeats 400000 in
theorem r_X8_sell {w : xW} {S : xS} {B : String → xS → Prop} {A : Int → xS → Prop} {n N i q o : Nat} {T : Int} {C : xS} {M : Nat → Int} (hV : VS 0 n N T C) (hT : T ≤ 900000) (hR : Rel 0 n N C M) (hi : i < N) (hqn : q < n) (hp : 0 ≤ C 10 (32 * 0 + i) 9) (hm : C 10 (32 * 0 + i) 9 ≤ C 4 (8 * 0 + q) 0) (ho : C 10 (32 * 0 + i) 1 = (o : Int)) (hoq : o ≠ q) (hq : ∀ M', Rel 0 n N (selS 0 (32 * 0 + i) q o C) M' → A (o : Int) (stM M' S)) : Ki w mX8_sell yX8_sell 0 0 [xp 30 0, xi (i : Int), xi (q : Int)] (stM M S) A B := by
  refine K.of rfl rfl rfl rfl (Nat.le_of_ble_eq_true rfl) rfl ?_
  obtain ⟨hVT, hN20, h8, hg, hp9, ho9, hs⟩ := id hV
  have hOQ := ho9 i hi
  have hon : o < n := by unfold OQ at hOQ; omega
  have hf := feeS_r (s := 0) (j := 32 * 0 + i) (S := C) (by unfold OQ at hOQ; omega) (by unfold GQ at hg; omega)
  have hPq := hp9 q hqn
  have hPo := hp9 o hon
  have hv9 := hs.2.2 (8 * o + q) (by omega)
  have h71 := hs.1
  have h72 := hs.2.1
  unfold PQ at hPq hPo
  unfold OQ at hOQ
  unfold GQ at hg
  have hx := xmin_or 1000000 (C 4 (8 * 0 + o) 0 + (C 10 (32 * 0 + i) 9 - feeS 0 (32 * 0 + i) C))
  have hne1 : (o = q) = False := eq_false hoq
  have hne2 : (q = o) = False := eq_false (Ne.symm hoq)
  refine xs_aload_0 eX8_sell_0 ?_
  refine xs_iload_1 eX8_sell_1 ?_
  refine xa_bipush eX8_sell_2 (by decide) ?_
  refine xbi_V20 (mi' := mX8_told0) (y := yX8_told0) eX8_sell_4 (xw_5 lRX8_122 wy_X8_told0) rfl ⟨wd_X8_told0, by decide, by decide⟩ (by decide) (fun _ => rfl) rfl (Nat.le_of_ble_eq_true rfl) rfl (r_X8_told0 (j := i) (g := 9) hR rfl rfl hi hN20 (by decide) (by decide) (by decide) (by decide) ?_)
  refine xs_istore_3 eX8_sell_7 rfl ?_
  refine xs_aload_0 eX8_sell_8 ?_
  refine xs_iload_1 eX8_sell_9 ?_
  refine xa_iconst eX8_sell_10 ?_
  refine xbi_V20 (mi' := mX8_told0) (y := yX8_told0) eX8_sell_11 (xw_5 lRX8_122 wy_X8_told0) rfl ⟨wd_X8_told0, by decide, by decide⟩ (by decide) (fun _ => rfl) rfl (Nat.le_of_ble_eq_true rfl) rfl (r_X8_told0 (j := i) (g := 1) hR rfl rfl hi hN20 (by decide) (by decide) (by decide) (by decide) ?_)
  rw [ho]
  refine xs_istore_4 eX8_sell_14 rfl ?_
  refine xs_iload_3 eX8_sell_16 ?_
  refine xs_aload_0 eX8_sell_17 ?_
  refine xa_iconst eX8_sell_18 ?_
  refine xbi_V10 (mi' := mX8_number) (y := yX8_number) eX8_sell_19 (xw_5 lRX8_65 wy_X8_number) rfl ⟨wd_X8_number, by decide, by decide⟩ (by decide) (fun _ => rfl) rfl (Nat.le_of_ble_eq_true rfl) rfl (r_X8_number (i := 4) hR rfl (by decide) ?_)
  rw [show gl 0 C 4 = C 1 0 5 from rfl]
  refine xa_imul eX8_sell_22 ?_
  refine xa_bipush eX8_sell_23 (by decide) ?_
  refine xa_idiv eX8_sell_25 (by omega) (by decide) (by decide) ?_
  rw [show Int.tdiv (C 10 (32 * 0 + i) 9 * C 1 0 5) 100 = feeS 0 (32 * 0 + i) C from rfl]
  refine xs_istore_5 eX8_sell_26 rfl ?_
  refine xs_aload_0 eX8_sell_28 ?_
  refine xs_iload_2 eX8_sell_29 ?_
  refine xa_iconst eX8_sell_30 ?_
  refine xs_iload_3 eX8_sell_31 ?_
  refine xa_ineg eX8_sell_32 ?_
  refine xbv_V30 (mi' := mX8_add) (y := yX8_add) eX8_sell_33 (xw_5 lRX8_210 wy_X8_add) rfl ⟨wd_X8_add, by decide, by decide⟩ (by decide) (fun _ => rfl) rfl (Nat.le_of_ble_eq_true rfl) rfl (r_X8_add (p := q) (g := 0) hR rfl rfl hqn h8 hN20 (by decide) (by omega) (by omega) (fun M1 hR1 => ?_))
  have hR1 : Rel 0 n N (up C 4 (8 * 0 + q) 0 (C 4 (8 * 0 + q) 0 - C 10 (32 * 0 + i) 9)) M1 := hR1
  refine xs_aload_0 eX8_sell_36 ?_
  refine xs_iload_4 eX8_sell_37 ?_
  refine xs_iload_3 eX8_sell_39 ?_
  refine xs_iload_5 eX8_sell_40 ?_
  refine xa_isub eX8_sell_42 ?_
  refine xbv_V20 (mi' := mX8_earn) (y := yX8_earn) eX8_sell_43 (xw_5 lRX8_116 wy_X8_earn) rfl ⟨wd_X8_earn, by decide, by decide⟩ (by decide) (fun _ => rfl) rfl (Nat.le_of_ble_eq_true rfl) rfl (r_X8_earn (p := o) hR1 rfl hon h8 hN20 (by simp (decide := true) only [up_app, hne1, hne2, if_true, if_false, and_true, true_and, and_false, false_and, Nat.add_left_cancel_iff]; omega) (fun M2 hR2 => ?_))
  have hR2 : Rel 0 n N (up (up C 4 (8 * 0 + q) 0 (C 4 (8 * 0 + q) 0 - C 10 (32 * 0 + i) 9)) 4 (8 * 0 + o) 0 (xmin 1000000 (C 4 (8 * 0 + o) 0 + (C 10 (32 * 0 + i) 9 - feeS 0 (32 * 0 + i) C)))) M2 := by have z := hR2; rw [show (up C 4 (8 * 0 + q) 0 (C 4 (8 * 0 + q) 0 - C 10 (32 * 0 + i) 9)) 4 (8 * 0 + o) 0 = C 4 (8 * 0 + o) 0 by simp (decide := true) only [up_app, hne1, hne2, if_true, if_false, and_true, true_and, and_false, false_and, Nat.add_left_cancel_iff]] at z; exact z
  refine xs_aload_0 eX8_sell_46 ?_
  refine g_X8_0 eX8_sell_47 lRX8_7 ?_
  refine xa_bipush eX8_sell_50 (by decide) ?_
  refine xa_dup2 eX8_sell_52 rfl rfl ?_
  refine gar_31 eX8_sell_53 (by decide) (fun r53 => ?_)
  refine xs_iload_5 eX8_sell_54 ?_
  refine xa_i2l eX8_sell_56 (by omega) ?_
  refine xa_ladd eX8_sell_57 ?_
  refine pa_31 eX8_sell_58 (by decide) (by rw [stM_31, show (14 : Int).toNat = 14 from rfl, hR2.1 14 (by decide)]; show x64 (C 1 0 6 + feeS 0 (32 * 0 + i) C); omega) ?_
  rw [stM_31, show (14 : Int).toNat = 14 from rfl, hR2.1 14 (by decide)]
  refine X_gu (i := 14) hR2 (by decide) (by decide) (fun M3 hR3 => ?_)
  have hR3 : Rel 0 n N (up (up (up C 4 (8 * 0 + q) 0 (C 4 (8 * 0 + q) 0 - C 10 (32 * 0 + i) 9)) 4 (8 * 0 + o) 0 (xmin 1000000 (C 4 (8 * 0 + o) 0 + (C 10 (32 * 0 + i) 9 - feeS 0 (32 * 0 + i) C)))) 1 0 6 (C 1 0 6 + feeS 0 (32 * 0 + i) C)) M3 := hR3
  refine xs_aload_0 eX8_sell_59 ?_
  refine xs_iload_1 eX8_sell_60 ?_
  refine xa_iconst eX8_sell_61 ?_
  refine xs_iload_2 eX8_sell_62 ?_
  refine xbv_V30 (mi' := mX8_keep) (y := yX8_keep) eX8_sell_63 (xw_5 lRX8_137 wy_X8_keep) rfl ⟨wd_X8_keep, by decide, by decide⟩ (by decide) (fun _ => rfl) rfl (Nat.le_of_ble_eq_true rfl) rfl (r_X8_keep (j := i) (g := 1) hR3 rfl rfl hi hN20 (by decide) (by decide) (by decide) (by decide) (by omega) (fun M4 hR4 => ?_))
  have hR4 : Rel 0 n N (up (up (up (up C 4 (8 * 0 + q) 0 (C 4 (8 * 0 + q) 0 - C 10 (32 * 0 + i) 9)) 4 (8 * 0 + o) 0 (xmin 1000000 (C 4 (8 * 0 + o) 0 + (C 10 (32 * 0 + i) 9 - feeS 0 (32 * 0 + i) C)))) 1 0 6 (C 1 0 6 + feeS 0 (32 * 0 + i) C)) 10 (32 * 0 + i) 1 (q : Int)) M4 := hR4
  refine xs_aload_0 eX8_sell_66 ?_
  refine xs_iload_1 eX8_sell_67 ?_
  refine xa_bipush eX8_sell_68 (by decide) ?_
  refine xa_iconst eX8_sell_70 ?_
  refine xbv_V30 (mi' := mX8_keep) (y := yX8_keep) eX8_sell_71 (xw_5 lRX8_137 wy_X8_keep) rfl ⟨wd_X8_keep, by decide, by decide⟩ (by decide) (fun _ => rfl) rfl (Nat.le_of_ble_eq_true rfl) rfl (r_X8_keep (j := i) (g := 9) hR4 rfl rfl hi hN20 (by decide) (by decide) (by decide) (by decide) (by omega) (fun M5 hR5 => ?_))
  have hR5 : Rel 0 n N (up (up (up (up (up C 4 (8 * 0 + q) 0 (C 4 (8 * 0 + q) 0 - C 10 (32 * 0 + i) 9)) 4 (8 * 0 + o) 0 (xmin 1000000 (C 4 (8 * 0 + o) 0 + (C 10 (32 * 0 + i) 9 - feeS 0 (32 * 0 + i) C)))) 1 0 6 (C 1 0 6 + feeS 0 (32 * 0 + i) C)) 10 (32 * 0 + i) 1 (q : Int)) 10 (32 * 0 + i) 9 (-1)) M5 := hR5
  refine xs_aload_0 eX8_sell_74 ?_
  refine g_X8_0 eX8_sell_75 lRX8_7 ?_
  refine xa_sipush eX8_sell_78 (by decide) ?_
  refine xa_bipush eX8_sell_81 (by decide) ?_
  refine xs_iload_4 eX8_sell_83 ?_
  refine xa_imul eX8_sell_85 ?_
  refine xa_iadd eX8_sell_86 ?_
  refine xs_iload_2 eX8_sell_87 ?_
  refine xa_iadd eX8_sell_88 ?_
  refine xa_dup2 eX8_sell_89 rfl rfl ?_
  refine gar_31 eX8_sell_90 (by omega) (fun r90 => ?_)
  refine xa_lconst1 eX8_sell_91 ?_
  refine xa_ladd eX8_sell_92 ?_
  refine pa_31 eX8_sell_93 (by omega) (by rw [stM_31, show ((463 : Int) + 8 * (o : Int) + (q : Int)).toNat = 463 + (8 * o + q) by omega, hR5.2.2.2 _ (by omega)]; show x64 (C 25 0 (8 * o + q) + 1); omega) ?_
  rw [stM_31, show ((463 : Int) + 8 * (o : Int) + (q : Int)).toNat = 463 + (8 * o + q) by omega, hR5.2.2.2 _ (by omega), up_stM]
  have hR6 := hR5.vu (i := 8 * o + q) (v := C 25 0 (8 * o + q) + 1) (by omega) h8 hN20
  rw [show (up (up (up (up (up C 4 (8 * 0 + q) 0 (C 4 (8 * 0 + q) 0 - C 10 (32 * 0 + i) 9)) 4 (8 * 0 + o) 0 (xmin 1000000 (C 4 (8 * 0 + o) 0 + (C 10 (32 * 0 + i) 9 - feeS 0 (32 * 0 + i) C)))) 1 0 6 (C 1 0 6 + feeS 0 (32 * 0 + i) C)) 10 (32 * 0 + i) 1 (q : Int)) 10 (32 * 0 + i) 9 (-1)) 25 0 (8 * o + q) = C 25 0 (8 * o + q) from rfl]
  generalize upM M5 (463 + (8 * o + q)) (C 25 0 (8 * o + q) + 1) = M6 at hR6 ⊢
  refine xs_aload_0 eX8_sell_94 ?_
  refine g_X8_0 eX8_sell_95 lRX8_7 ?_
  refine xa_bipush eX8_sell_98 (by decide) ?_
  refine xa_dup2 eX8_sell_100 rfl rfl ?_
  refine gar_31 eX8_sell_101 (by decide) (fun r101 => ?_)
  refine xa_lconst1 eX8_sell_102 ?_
  refine xa_ladd eX8_sell_103 ?_
  refine pa_31 eX8_sell_104 (by decide) (by rw [stM_31, show (12 : Int).toNat = 12 from rfl, hR6.1 12 (by decide)]; show x64 (C 5 0 1 + 1); omega) ?_
  rw [stM_31, show (12 : Int).toNat = 12 from rfl, hR6.1 12 (by decide)]
  refine X_gu (i := 12) hR6 (by decide) (by decide) (fun M7 hR7 => ?_)
  have hR7 : Rel 0 n N (up (up (up (up (up (up (up C 4 (8 * 0 + q) 0 (C 4 (8 * 0 + q) 0 - C 10 (32 * 0 + i) 9)) 4 (8 * 0 + o) 0 (xmin 1000000 (C 4 (8 * 0 + o) 0 + (C 10 (32 * 0 + i) 9 - feeS 0 (32 * 0 + i) C)))) 1 0 6 (C 1 0 6 + feeS 0 (32 * 0 + i) C)) 10 (32 * 0 + i) 1 (q : Int)) 10 (32 * 0 + i) 9 (-1)) 25 0 (8 * o + q) (C 25 0 (8 * o + q) + 1)) 5 0 1 (C 5 0 1 + 1)) M7 := hR7
  refine xs_aload_0 eX8_sell_105 ?_
  refine g_X8_0 eX8_sell_106 lRX8_7 ?_
  refine xa_bipush eX8_sell_109 (by decide) ?_
  refine xa_dup2 eX8_sell_111 rfl rfl ?_
  refine gar_31 eX8_sell_112 (by decide) (fun r112 => ?_)
  refine xs_iload_3 eX8_sell_113 ?_
  refine xa_i2l eX8_sell_114 (by omega) ?_
  refine xa_ladd eX8_sell_115 ?_
  refine pa_31 eX8_sell_116 (by decide) (by rw [stM_31, show (13 : Int).toNat = 13 from rfl, hR7.1 13 (by decide)]; show x64 (C 5 0 2 + C 10 (32 * 0 + i) 9); omega) ?_
  rw [stM_31, show (13 : Int).toNat = 13 from rfl, hR7.1 13 (by decide)]
  refine X_gu (i := 13) hR7 (by decide) (by decide) (fun M8 hR8 => ?_)
  refine xs_iload_4 eX8_sell_117 ?_
  exact xa_iret eX8_sell_119 rfl ⟨_, rfl, hq M8 (by rw [← selS_eq]; exact hR8)⟩
set_option maxHeartbeats 400000 in
theorem F_buy {w : xW} {S : xS} {B : String → xS → Prop} {A : Int → xS → Prop} {j q : Int} {n N : Nat} {T : Int} (hV : VS 0 n N T S) (hT : T ≤ 800000) (yj : xr j) (yq : xr q)  (hA : ∀ S', (o_buy j q n N S).1 = 0 → scr S' (o_buy j q n N S).2.2.2.2 → A (o_buy j q n N S).2.1 S') (hB1 : ∀ S', (o_buy j q n N S).1 = 1 → scr S' S → B "java/lang/IndexOutOfBoundsException" S') (hB2 : ∀ S', (o_buy j q n N S).1 = 2 → scr S' S → B "java/lang/IllegalStateException" S') : Ki w mX7_buy yX7_buy 1 6 [xp 0 0, xi j, xi q] S A B := by
  refine K.of rfl rfl rfl rfl (Nat.le_of_ble_eq_true rfl) rfl ?_
  obtain ⟨hVT, hN20, h8, hg, hp, ho, hs⟩ := id hV
  have hn := hg.1
  have hN := hVT.1
  have ht := hVT.2.2.1
  refine xs_aload_0 eX7_buy_0 ?_
  refine g_X7_0 eX7_buy_1 lRX7_10 ?_
  refine g_X4_0 eX7_buy_4 lRX7_88 ?_
  refine xs_iload_1 eX7_buy_7 ?_
  by_cases c8 : 0 ≤ j ∧ j < (N : Int)
  · refine xbo_V10 (mi' := mX5_knownPromise) (y := yX5_knownPromise) eX7_buy_8 (xw_5 lRX7_126 wy_X5_knownPromise) rfl ⟨wd_X5_knownPromise, by decide, by decide⟩ (by decide) (fun _ => rfl) rfl (Nat.le_of_ble_eq_true rfl) rfl (kI_X5_knownPromise hN (by omega) c8 ?_)
    refine xs_astore_3 eX7_buy_11 rfl ?_
    refine xs_aload_0 eX7_buy_12 ?_
    refine g_X7_0 eX7_buy_13 lRX7_10 ?_
    refine xs_iload_2 eX7_buy_16 ?_
    by_cases c17 : 0 ≤ q ∧ q < (n : Int)
    · refine xbo_V10 (mi' := mX4_knownProcess) (y := yX4_knownProcess) eX7_buy_17 (xw_5 lRX7_60 wy_X4_knownProcess) rfl ⟨wd_X4_knownProcess, by decide, by decide⟩ (by decide) (fun _ => rfl) rfl (Nat.le_of_ble_eq_true rfl) rfl (kI_X4_knownProcess hn h8 c17 ?_)
      have hTQ := hVT.2.2.2 j.toNat (by omega)
      unfold TQ at hTQ
      have hOQ := ho j.toNat (by omega)
      unfold OQ at hOQ
      obtain ⟨q9, rfl⟩ : ∃ q9 : Nat, q = (q9 : Int) := ⟨q.toNat, by omega⟩
      have hqn : q9 < n := by omega
      refine xa_pop eX7_buy_20 rfl ?_
      refine xs_aload_0 eX7_buy_21 ?_
      refine g_X7_0 eX7_buy_22 lRX7_10 ?_
      refine xs_aload_3 eX7_buy_25 ?_
      refine xs_iload_2 eX7_buy_26 ?_
      refine xbi_V20 (mi' := mX4_canBuy) (y := yX4_canBuy) eX7_buy_27 (xw_5 lRX7_174 wy_X4_canBuy) rfl ⟨wd_X4_canBuy, by decide, by decide⟩ (by decide) (fun _ => rfl) rfl (Nat.le_of_ble_eq_true rfl) rfl (k_X4_canBuy hn h8 hqn ?_)
      rw [show b2i (S 10 (32 * 0 + j.toNat) 9 ≠ -1 ∧ S 10 (32 * 0 + j.toNat) 1 ≠ (q9 : Int) ∧ S 10 (32 * 0 + j.toNat) 9 ≤ S 4 (8 * 0 + q9) 0) = b2i (canP j.toNat q9 S) from rfl]
      by_cases c30 : canP j.toNat q9 S
      · refine xbv_S10 (mi' := mX7_checkState) (y := yX7_checkState) eX7_buy_30 (xw_4 lRX7_53 wy_X7_checkState) rfl rfl ⟨wd_X7_checkState, by decide, by decide⟩ (Nat.le_of_ble_eq_true rfl) rfl (kk_X7_checkState c30 ?_)
        have c30b := id c30
        unfold canP at c30b
        obtain ⟨o9, eo⟩ : ∃ o9 : Nat, S 10 (32 * 0 + j.toNat) 1 = (o9 : Int) := ⟨(S 10 (32 * 0 + j.toNat) 1).toNat, by omega⟩
        refine xs_aload_3 eX7_buy_33 ?_
        refine gr_X1_1 eX7_buy_34 lRX7_178 (fun r34 => ?_)
        refine xs_istore_4 eX7_buy_37 rfl ?_
        refine xs_aload_0 eX7_buy_39 ?_
        refine g_X7_0 eX7_buy_40 lRX7_10 ?_
        refine xs_aload_3 eX7_buy_43 ?_
        refine xs_iload_2 eX7_buy_44 ?_
        refine xbv_V20 (mi' := mX4_sell) (y := yX4_sell) eX7_buy_45 (xw_5 lRX7_181 wy_X4_sell) rfl ⟨wd_X4_sell, by decide, by decide⟩ (by decide) (fun _ => rfl) rfl (Nat.le_of_ble_eq_true rfl) rfl (f_X4_sell (o := o9) hV (by omega) (by omega) hqn (by omega) c30.2.2 eo (by intro z; exact c30.2.1 (by rw [eo, z])) ?_)
        refine xs_iload_4 eX7_buy_48 ?_
        exact xa_iret eX7_buy_50 rfl ⟨_, rfl, by have h9 := hA; unfold o_buy at h9; rw [if_pos c8, if_pos c17, if_pos (show canP j.toNat ((q9 : Int)).toNat S from c30), eo] at h9; rw [eo]; exact h9 _ rfl scr.rf⟩
      · exact xbv_S1 (mi' := mX7_checkState) (y := yX7_checkState) eX7_buy_30 (xw_4 lRX7_53 wy_X7_checkState) rfl rfl ⟨wd_X7_checkState, by decide, by decide⟩ (Nat.le_of_ble_eq_true rfl) rfl ⟨by decide, by decide⟩ (kt_X7_checkState c30 (xt_out rfl (hB2 S (by unfold o_buy; rw [if_pos c8, if_pos c17, if_neg (show ¬ canP j.toNat ((q9 : Int)).toNat S from c30)]) scr.rf)))
    · exact xbo_V1 (mi' := mX4_knownProcess) (y := yX4_knownProcess) eX7_buy_17 (xw_5 lRX7_60 wy_X4_knownProcess) rfl ⟨wd_X4_knownProcess, by decide, by decide⟩ (by decide) (fun _ => rfl) rfl (Nat.le_of_ble_eq_true rfl) rfl ⟨by decide, by decide⟩ (kt_X4_knownProcess hn h8 yq c17 (xt_out rfl (hB1 S (by unfold o_buy; rw [if_pos c8, if_neg c17]) scr.rf)))
  · exact xbo_V1 (mi' := mX5_knownPromise) (y := yX5_knownPromise) eX7_buy_8 (xw_5 lRX7_126 wy_X5_knownPromise) rfl ⟨wd_X5_knownPromise, by decide, by decide⟩ (by decide) (fun _ => rfl) rfl (Nat.le_of_ble_eq_true rfl) rfl ⟨by decide, by decide⟩ (kt_X5_knownPromise hN (by omega) yj c8 (xt_out rfl (hB1 S (by unfold o_buy; rw [if_neg c8]) scr.rf)))
set_option maxHeartbeats 400000 in
theorem G_buy {w : xW} {S : xS} {B : String → xS → Prop} {A : Int → xS → Prop} {j q : Int} {n N : Nat} {T : Int} {C : xS} {M : Nat → Int} (hV : VS 0 n N T C) (hT : T ≤ 800000) (hR : Rel 0 n N C M) (yj : xr j) (yq : xr q)  (hq : ∀ r S' M', ((o_buy j q n N C).1 = 0 → r = (o_buy j q n N C).2.1) → rfr S' S → S' 30 0 4 = ((o_buy j q n N C).1 : Int) → Rel 0 (o_buy j q n N C).2.2.1 (o_buy j q n N C).2.2.2.1 (o_buy j q n N C).2.2.2.2 M' → A r (stM M' S')) : Ki w mX8_buy yX8_buy 0 0 [xp 30 0, xi j, xi q] (stM M S) A B := by
  refine K.of rfl rfl rfl rfl (Nat.le_of_ble_eq_true rfl) rfl ?_
  obtain ⟨hVT, hN20, h8, hg, hp, ho, hs⟩ := id hV
  have hn := hg.1
  have hN := hVT.1
  have ht := hVT.2.2.1
  have hM1 : M 1 = (n : Int) := by rw [hR.1 1 (by decide)]; exact hn
  have hM2 : M 2 = (N : Int) := by rw [hR.1 2 (by decide)]; exact hN
  refine xs_aload_0 eX8_buy_0 ?_
  refine xa_iconst eX8_buy_1 ?_
  refine p_X8_4 eX8_buy_2 lRX8_52 (by decide) ?_
  rw [up_stO (by decide)]
  refine xs_aload_0 eX8_buy_5 ?_
  refine xs_iload_1 eX8_buy_6 ?_
  refine xbi_V10 (mi' := mX8_isPromise) (y := yX8_isPromise) eX8_buy_7 (xw_5 lRX8_187 wy_X8_isPromise) rfl ⟨wd_X8_isPromise, by decide, by decide⟩ (by decide) (fun _ => rfl) rfl (Nat.le_of_ble_eq_true rfl) rfl (r_X8_isPromise hV hR yj ?_)
  refine xa_ifb_eq (tgt := 21) eX8_buy_10 (by decide) (fun c10 => ?_) (fun c10 => ?_)
  · refine xs_aload_0 eX8_buy_21 ?_
    refine xa_iconst eX8_buy_22 ?_
    refine xbi_V10 (mi' := mX8_fail) (y := yX8_fail) eX8_buy_23 (xw_5 lRX8_89 wy_X8_fail) rfl ⟨wd_X8_fail, by decide, by decide⟩ (by decide) (fun _ => rfl) rfl (Nat.le_of_ble_eq_true rfl) rfl (k_X8_fail (by decide) ?_)
    rw [up_stO (by decide)]
    exact xa_iret eX8_buy_26 rfl ⟨_, rfl, by have h9 := hq; unfold o_buy at h9; rw [if_neg c10] at h9; exact h9 _ _ _ (fun z => absurd z (Nat.succ_ne_zero _)) (rfr.t.tr rfr.t) (by rw [up_same]; rfl) hR⟩
  · refine xs_aload_0 eX8_buy_13 ?_
    refine xs_iload_2 eX8_buy_14 ?_
    refine xbi_V10 (mi' := mX8_isProcess) (y := yX8_isProcess) eX8_buy_15 (xw_5 lRX8_98 wy_X8_isProcess) rfl ⟨wd_X8_isProcess, by decide, by decide⟩ (by decide) (fun _ => rfl) rfl (Nat.le_of_ble_eq_true rfl) rfl (r_X8_isProcess hV hR yq ?_)
    refine xa_ifb_ne (tgt := 27) eX8_buy_18 (by decide) (fun c18 => ?_) (fun c18 => ?_)
    · have hTQ := hVT.2.2.2 j.toNat (by omega)
      unfold TQ at hTQ
      have hOQ := ho j.toNat (by omega)
      unfold OQ at hOQ
      obtain ⟨q9, rfl⟩ : ∃ q9 : Nat, q = (q9 : Int) := ⟨q.toNat, by omega⟩
      obtain ⟨j9, rfl⟩ : ∃ j9 : Nat, j = (j9 : Int) := ⟨j.toNat, by omega⟩
      rw [Int.toNat_natCast] at hOQ hTQ
      refine xs_aload_0 eX8_buy_27 ?_
      refine xs_iload_1 eX8_buy_28 ?_
      refine xs_iload_2 eX8_buy_29 ?_
      refine xbi_V20 (mi' := mX8_canBuy) (y := yX8_canBuy) eX8_buy_30 (xw_5 lRX8_213 wy_X8_canBuy) rfl ⟨wd_X8_canBuy, by decide, by decide⟩ (by decide) (fun _ => rfl) rfl (Nat.le_of_ble_eq_true rfl) rfl (r_X8_canBuy hV (by omega) hR (by omega) (by omega) ?_)
      refine xa_ifb_eq (tgt := 45) eX8_buy_33 (by decide) (fun c33 => ?_) (fun c33 => ?_)
      · refine xs_aload_0 eX8_buy_45 ?_
        refine xa_iconst eX8_buy_46 ?_
        refine xbi_V10 (mi' := mX8_fail) (y := yX8_fail) eX8_buy_47 (xw_5 lRX8_89 wy_X8_fail) rfl ⟨wd_X8_fail, by decide, by decide⟩ (by decide) (fun _ => rfl) rfl (Nat.le_of_ble_eq_true rfl) rfl (k_X8_fail (by decide) ?_)
        rw [up_stO (by decide)]
        exact xa_iret eX8_buy_50 rfl ⟨_, rfl, by have h9 := hq; unfold o_buy at h9; rw [if_pos c10, if_pos c18, if_neg (show ¬ canP ((j9 : Int)).toNat ((q9 : Int)).toNat C from c33)] at h9; exact h9 _ _ _ (fun z => absurd z (Nat.succ_ne_zero _)) (rfr.t.tr rfr.t) (by rw [up_same]; rfl) hR⟩
      · have c33b := id c33
        unfold canP at c33b
        obtain ⟨o9, eo⟩ : ∃ o9 : Nat, C 10 (32 * 0 + j9) 1 = (o9 : Int) := ⟨(C 10 (32 * 0 + j9) 1).toNat, by omega⟩
        refine xs_aload_0 eX8_buy_36 ?_
        refine xs_iload_1 eX8_buy_37 ?_
        refine xs_iload_2 eX8_buy_38 ?_
        refine xbi_V20 (mi' := mX8_sell) (y := yX8_sell) eX8_buy_39 (xw_5 lRX8_217 wy_X8_sell) rfl ⟨wd_X8_sell, by decide, by decide⟩ (by decide) (fun _ => rfl) rfl (Nat.le_of_ble_eq_true rfl) rfl (r_X8_sell (o := o9) hV (by omega) hR (by omega) (by omega) (by omega) c33.2.2 eo (by intro z; exact c33.2.1 (by rw [eo, z])) (fun M2 hR2 => ?_))
        refine xa_goto (tgt := 50) eX8_buy_42 (by decide) ?_
        exact xa_iret eX8_buy_50 rfl ⟨_, rfl, by have h9 := hq; unfold o_buy at h9; rw [if_pos c10, if_pos c18, if_pos (show canP ((j9 : Int)).toNat ((q9 : Int)).toNat C from c33), Int.toNat_natCast, eo] at h9; exact h9 _ _ M2 (fun _ => rfl) rfr.t (by rw [up_same]; rfl) hR2⟩
    · refine xs_aload_0 eX8_buy_21 ?_
      refine xa_iconst eX8_buy_22 ?_
      refine xbi_V10 (mi' := mX8_fail) (y := yX8_fail) eX8_buy_23 (xw_5 lRX8_89 wy_X8_fail) rfl ⟨wd_X8_fail, by decide, by decide⟩ (by decide) (fun _ => rfl) rfl (Nat.le_of_ble_eq_true rfl) rfl (k_X8_fail (by decide) ?_)
      rw [up_stO (by decide)]
      exact xa_iret eX8_buy_26 rfl ⟨_, rfl, by have h9 := hq; unfold o_buy at h9; rw [if_pos c10, if_neg c18] at h9; exact h9 _ _ _ (fun z => absurd z (Nat.succ_ne_zero _)) (rfr.t.tr rfr.t) (by rw [up_same]; rfl) hR⟩
