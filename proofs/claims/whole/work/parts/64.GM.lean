/-! the reference: text -/
def mt (S : xS) (p s k l v d : Int) : xS := fun a b f => if a = 30 ∧ b = 0 ∧ f = 15 then p else if a = 30 ∧ b = 0 ∧ f = 16 then s else if a = 30 ∧ b = 0 ∧ f = 17 then k else if a = 30 ∧ b = 0 ∧ f = 18 then l else if a = 30 ∧ b = 0 ∧ f = 19 then v else if a = 30 ∧ b = 0 ∧ f = 22 then d else S a b f
section MT
variable {S : xS} {p s k l v d x : Int}
theorem mt_15 : mt S p s k l v d 30 0 15 = p := rfl
theorem mt_16 : mt S p s k l v d 30 0 16 = s := rfl
theorem mt_17 : mt S p s k l v d 30 0 17 = k := rfl
theorem mt_18 : mt S p s k l v d 30 0 18 = l := rfl
theorem mt_19 : mt S p s k l v d 30 0 19 = v := rfl
theorem mt_22 : mt S p s k l v d 30 0 22 = d := rfl
theorem mt_4 : mt S p s k l v d 30 0 4 = S 30 0 4 := rfl
theorem mt_14 : mt S p s k l v d 30 0 14 = S 30 0 14 := rfl
theorem mt_20 : mt S p s k l v d 30 0 20 = S 30 0 20 := rfl
theorem mt_21 : mt S p s k l v d 30 0 21 = S 30 0 21 := rfl
theorem mt_11 : mt S p s k l v d 30 0 11 = S 30 0 11 := rfl
theorem mt_12 : mt S p s k l v d 30 0 12 = S 30 0 12 := rfl
theorem mt_o {a : Nat} (h : a ≠ 30) : mt S p s k l v d a = S a := by
  funext b f
  unfold mt
  rw [if_neg (by omega), if_neg (by omega), if_neg (by omega), if_neg (by omega), if_neg (by omega), if_neg (by omega)]
theorem mt_41 : mt S p s k l v d 41 = S 41 := mt_o (by decide)
theorem mt_up15 : up (mt S p s k l v d) 30 0 15 x = mt S x s k l v d := by
  funext a b f
  unfold up mt
  by_cases c : a = 30 ∧ b = 0 ∧ f = 15
  · rw [if_pos c, if_pos c]
  · rw [if_neg c]
    rw [if_neg c, if_neg c]
theorem mt_up16 : up (mt S p s k l v d) 30 0 16 x = mt S p x k l v d := by
  funext a b f
  unfold up mt
  by_cases c : a = 30 ∧ b = 0 ∧ f = 16
  · rw [if_pos c, if_neg (by omega), if_pos c]
  · rw [if_neg c]
    by_cases c15 : a = 30 ∧ b = 0 ∧ f = 15
    · rw [if_pos c15, if_pos c15]
    · rw [if_neg c15, if_neg c15]
      rw [if_neg c, if_neg c]
theorem mt_up17 : up (mt S p s k l v d) 30 0 17 x = mt S p s x l v d := by
  funext a b f
  unfold up mt
  by_cases c : a = 30 ∧ b = 0 ∧ f = 17
  · rw [if_pos c, if_neg (by omega), if_neg (by omega), if_pos c]
  · rw [if_neg c]
    by_cases c15 : a = 30 ∧ b = 0 ∧ f = 15
    · rw [if_pos c15, if_pos c15]
    · rw [if_neg c15, if_neg c15]
      by_cases c16 : a = 30 ∧ b = 0 ∧ f = 16
      · rw [if_pos c16, if_pos c16]
      · rw [if_neg c16, if_neg c16]
        rw [if_neg c, if_neg c]
theorem mt_up18 : up (mt S p s k l v d) 30 0 18 x = mt S p s k x v d := by
  funext a b f
  unfold up mt
  by_cases c : a = 30 ∧ b = 0 ∧ f = 18
  · rw [if_pos c, if_neg (by omega), if_neg (by omega), if_neg (by omega), if_pos c]
  · rw [if_neg c]
    by_cases c15 : a = 30 ∧ b = 0 ∧ f = 15
    · rw [if_pos c15, if_pos c15]
    · rw [if_neg c15, if_neg c15]
      by_cases c16 : a = 30 ∧ b = 0 ∧ f = 16
      · rw [if_pos c16, if_pos c16]
      · rw [if_neg c16, if_neg c16]
        by_cases c17 : a = 30 ∧ b = 0 ∧ f = 17
        · rw [if_pos c17, if_pos c17]
        · rw [if_neg c17, if_neg c17]
          rw [if_neg c, if_neg c]
theorem mt_up19 : up (mt S p s k l v d) 30 0 19 x = mt S p s k l x d := by
  funext a b f
  unfold up mt
  by_cases c : a = 30 ∧ b = 0 ∧ f = 19
  · rw [if_pos c, if_neg (by omega), if_neg (by omega), if_neg (by omega), if_neg (by omega), if_pos c]
  · rw [if_neg c]
    by_cases c15 : a = 30 ∧ b = 0 ∧ f = 15
    · rw [if_pos c15, if_pos c15]
    · rw [if_neg c15, if_neg c15]
      by_cases c16 : a = 30 ∧ b = 0 ∧ f = 16
      · rw [if_pos c16, if_pos c16]
      · rw [if_neg c16, if_neg c16]
        by_cases c17 : a = 30 ∧ b = 0 ∧ f = 17
        · rw [if_pos c17, if_pos c17]
        · rw [if_neg c17, if_neg c17]
          by_cases c18 : a = 30 ∧ b = 0 ∧ f = 18
          · rw [if_pos c18, if_pos c18]
          · rw [if_neg c18, if_neg c18]
            rw [if_neg c, if_neg c]
theorem mt_up22 : up (mt S p s k l v d) 30 0 22 x = mt S p s k l v x := by
  funext a b f
  unfold up mt
  by_cases c : a = 30 ∧ b = 0 ∧ f = 22
  · rw [if_pos c, if_neg (by omega), if_neg (by omega), if_neg (by omega), if_neg (by omega), if_neg (by omega), if_pos c]
  · rw [if_neg c]
    by_cases c15 : a = 30 ∧ b = 0 ∧ f = 15
    · rw [if_pos c15, if_pos c15]
    · rw [if_neg c15, if_neg c15]
      by_cases c16 : a = 30 ∧ b = 0 ∧ f = 16
      · rw [if_pos c16, if_pos c16]
      · rw [if_neg c16, if_neg c16]
        by_cases c17 : a = 30 ∧ b = 0 ∧ f = 17
        · rw [if_pos c17, if_pos c17]
        · rw [if_neg c17, if_neg c17]
          by_cases c18 : a = 30 ∧ b = 0 ∧ f = 18
          · rw [if_pos c18, if_pos c18]
          · rw [if_neg c18, if_neg c18]
            by_cases c19 : a = 30 ∧ b = 0 ∧ f = 19
            · rw [if_pos c19, if_pos c19]
            · rw [if_neg c19, if_neg c19]
              rw [if_neg c, if_neg c]
end MT
/-- a byte as the reference keeps it -/
def ub (b : Int) : Int := if b < 0 then b + 256 else b
def bat (B : Nat → Int) (n i : Nat) : Int := if i < n then B i else -1
set_option maxHeartbeats 400000 in
theorem k_X8_byteAt {w : xW} {S : xS} {B : String → xS → Prop} {A : Int → xS → Prop} {n i : Nat} {a : Int} (ea : a = (i : Int)) (hi : i ≤ 700) (hn : S 30 0 14 = (n : Int)) (h7 : n ≤ 700) (hq : A (bat (S 41 0) n i) S) : Ki w mX8_byteAt yX8_byteAt 0 0 [xp 30 0, xi a] S A B := by
  refine K.of rfl rfl rfl rfl (Nat.le_of_ble_eq_true rfl) rfl ?_
  subst ea
  refine xs_iload_1 eX8_byteAt_0 ?_
  refine xs_aload_0 eX8_byteAt_1 ?_
  refine gr_X8_14 eX8_byteAt_2 lRX8_264 (fun r2 => ?_)
  refine xa_icmp_ge (tgt := 17) eX8_byteAt_5 (by decide) (by omega) (by omega) (fun c5 => ?_) (fun c5 => ?_)
  · refine xa_iconst eX8_byteAt_17 ?_
    exact xa_iret eX8_byteAt_18 rfl ⟨_, rfl, by rw [bat, if_neg (by omega)] at hq; exact hq⟩
  · refine xs_aload_0 eX8_byteAt_8 ?_
    refine g_X8_13 eX8_byteAt_9 lRX8_42 ?_
    refine xs_iload_1 eX8_byteAt_12 ?_
    refine gar_41 eX8_byteAt_13 (by omega) (fun r13 => ?_)
    refine xa_goto (tgt := 18) eX8_byteAt_14 (by decide) ?_
    exact xa_iret eX8_byteAt_18 rfl ⟨_, rfl, by rw [bat, if_pos (by omega)] at hq; exact hq⟩
set_option maxHeartbeats 400000 in
theorem k_X8_isLetter {w : xW} {S : xS} {B : String → xS → Prop} {A : Int → xS → Prop} {a : Int} (ha : xr a) (hq : A (b2i (97 ≤ a ∧ a ≤ 122)) S) : Ki w mX8_isLetter yX8_isLetter 0 0 [xi a] S A B := by
  refine K.of rfl rfl rfl rfl (Nat.le_of_ble_eq_true rfl) rfl ?_
  refine xs_iload_0 eX8_isLetter_0 ?_
  refine xa_i2l eX8_isLetter_1 (by omega) ?_
  refine xa_ldc2 (a := 97) eX8_isLetter_2 lRX8_267 (by decide) ?_
  refine xa_ldc2 (a := 122) eX8_isLetter_5 lRX8_269 (by decide) ?_
  refine xbi_S30 (mi' := mX8_isBetween) (y := yX8_isBetween) eX8_isLetter_8 (xw_4 lRX8_61 wy_X8_isBetween) rfl rfl ⟨wd_X8_isBetween, by decide, by decide⟩ (Nat.le_of_ble_eq_true rfl) rfl (k_X8_isBetween (by omega) (by decide) (by decide) ?_)
  exact xa_zret eX8_isLetter_11 rfl (b2i_01 _) ⟨_, rfl, hq⟩
set_option maxHeartbeats 400000 in
theorem k_X8_isDigit {w : xW} {S : xS} {B : String → xS → Prop} {A : Int → xS → Prop} {a : Int} (ha : xr a) (hq : A (b2i (48 ≤ a ∧ a ≤ 57)) S) : Ki w mX8_isDigit yX8_isDigit 0 0 [xi a] S A B := by
  refine K.of rfl rfl rfl rfl (Nat.le_of_ble_eq_true rfl) rfl ?_
  refine xs_iload_0 eX8_isDigit_0 ?_
  refine xa_i2l eX8_isDigit_1 (by omega) ?_
  refine xa_ldc2 (a := 48) eX8_isDigit_2 lRX8_271 (by decide) ?_
  refine xa_ldc2 (a := 57) eX8_isDigit_5 lRX8_273 (by decide) ?_
  refine xbi_S30 (mi' := mX8_isBetween) (y := yX8_isBetween) eX8_isDigit_8 (xw_4 lRX8_61 wy_X8_isBetween) rfl rfl ⟨wd_X8_isBetween, by decide, by decide⟩ (Nat.le_of_ble_eq_true rfl) rfl (k_X8_isBetween (by omega) (by decide) (by decide) ?_)
  exact xa_zret eX8_isDigit_11 rfl (b2i_01 _) ⟨_, rfl, hq⟩
def byr (a : Int) (k : Int) : Int := (Int32.ofInt (Int32.ofInt a >>> (Int32.ofInt k &&& 31)).toInt &&& Int32.ofInt 255).toInt
def apR (n : Nat) (a : Int) (S : xS) : xS := fun k j f => if k = 30 ∧ j = 0 ∧ f = 14 then (n : Int) + 4 else if k = 30 ∧ j = 0 ∧ f = 4 then 0 else if k = 41 ∧ j = 0 ∧ n ≤ f ∧ f < n + 4 then byr a (24 - 8 * ((f : Int) - (n : Int))) else S k j f
theorem apR_eq {n : Nat} {a : Int} {S : xS} : up (up (up (up (up (up (up (up (up S 30 0 4 0) 41 0 (n : Int).toNat (byr a 24)) 30 0 14 ((n : Int) + 1)) 41 0 ((n : Int) + 1).toNat (byr a (24 + -8))) 30 0 14 ((n : Int) + 1 + 1)) 41 0 ((n : Int) + 1 + 1).toNat (byr a (24 + -8 + -8))) 30 0 14 ((n : Int) + 1 + 1 + 1)) 41 0 ((n : Int) + 1 + 1 + 1).toNat (byr a (24 + -8 + -8 + -8))) 30 0 14 ((n : Int) + 1 + 1 + 1 + 1) = apR n a S := by
  rw [show ((n : Int)).toNat = n by omega, show ((n : Int) + 1).toNat = n + 1 by omega, show ((n : Int) + 1 + 1).toNat = n + 2 by omega, show ((n : Int) + 1 + 1 + 1).toNat = n + 3 by omega]
  funext k j f
  unfold up apR
  by_cases c : k = 30 ∧ j = 0 ∧ f = 14
  · rw [if_pos c, if_pos c]; omega
  · rw [if_neg c, if_neg c, if_neg c, if_neg c, if_neg c]
    by_cases c4 : k = 30 ∧ j = 0 ∧ f = 4
    · rw [if_neg (by omega), if_neg (by omega), if_neg (by omega), if_neg (by omega), if_pos c4, if_pos c4]
    · rw [if_neg c4, if_neg c4]
      by_cases c3 : k = 41 ∧ j = 0 ∧ f = n + 3
      · rw [if_pos c3, if_pos (by omega), show 24 - 8 * ((f : Int) - (n : Int)) = 24 + -8 + -8 + -8 by omega]
      · rw [if_neg c3]
        by_cases c2 : k = 41 ∧ j = 0 ∧ f = n + 2
        · rw [if_pos c2, if_pos (by omega), show 24 - 8 * ((f : Int) - (n : Int)) = 24 + -8 + -8 by omega]
        · rw [if_neg c2]
          by_cases c1 : k = 41 ∧ j = 0 ∧ f = n + 1
          · rw [if_pos c1, if_pos (by omega), show 24 - 8 * ((f : Int) - (n : Int)) = 24 + -8 by omega]
          · rw [if_neg c1]
            by_cases c0 : k = 41 ∧ j = 0 ∧ f = n
            · rw [if_pos c0, if_pos (by omega), show 24 - 8 * ((f : Int) - (n : Int)) = 24 by omega]
            · rw [if_neg c0, if_neg (by omega)]
set_option maxHeartbeats 400000 in
theorem G_appendText {w : xW} {S : xS} {B : String → xS → Prop} {A : Int → xS → Prop} {n : Nat} {a : Int} (ya : xr a) (hn : S 30 0 14 = (n : Int)) (h7 : n ≤ 700) (hq1 : n ≤ 696 → A ((n : Int) + 4) (apR n a S)) (hq0 : ¬ n ≤ 696 → A 0 (up (up S 30 0 4 0) 30 0 4 1)) : Ki w mX8_appendText yX8_appendText 0 0 [xp 30 0, xi a] S A B := by
  refine K.of rfl rfl rfl rfl (Nat.le_of_ble_eq_true rfl) rfl ?_
  have hb : ∀ x : Int32, -2147483648 ≤ x.toInt ∧ x.toInt < 2147483648 := fun x => ⟨Int32.le_toInt x, Int32.toInt_lt x⟩
  refine xs_aload_0 eX8_appendText_0 ?_
  refine xa_iconst eX8_appendText_1 ?_
  refine p_X8_4 eX8_appendText_2 lRX8_52 (by decide) ?_
  refine xs_aload_0 eX8_appendText_5 ?_
  refine gr_X8_14 eX8_appendText_6 lRX8_264 (fun r6 => ?_)
  try simp (decide := true) only [up_app, if_true, if_false, and_true, true_and, and_false, false_and, hn] at r6 ⊢
  refine xa_iconst eX8_appendText_9 ?_
  refine xa_iadd eX8_appendText_10 ?_
  refine xa_sipush eX8_appendText_11 (by decide) ?_
  refine xa_icmp_le (tgt := 23) eX8_appendText_14 (by decide) (by omega) (by decide) (fun c14 => ?_) (fun c14 => ?_)
  · refine xa_bipush eX8_appendText_23 (by decide) ?_
    refine xs_istore_2 eX8_appendText_25 rfl ?_
    refine xs_iload_2 eX8_appendText_26 ?_
    refine xa_if_lt (tgt := 62) eX8_appendText_27 (by decide) (by decide) (fun c27 => ?_) (fun c27 => ?_)
    · exact absurd c27 (by decide)
    · refine xs_aload_0 eX8_appendText_30 ?_
      refine g_X8_13 eX8_appendText_31 lRX8_42 ?_
      refine xs_aload_0 eX8_appendText_34 ?_
      refine gr_X8_14 eX8_appendText_35 lRX8_264 (fun r35 => ?_)
      try simp (decide := true) only [up_app, if_true, if_false, and_true, true_and, and_false, false_and, hn] at r35 ⊢
      refine xs_iload_1 eX8_appendText_38 ?_
      refine xs_iload_2 eX8_appendText_39 ?_
      refine xa_ishr eX8_appendText_40 ?_
      refine xa_sipush eX8_appendText_41 (by decide) ?_
      refine xa_iand eX8_appendText_44 ?_
      refine pa_41 eX8_appendText_45 (by omega) (hb _) ?_
      refine xs_aload_0 eX8_appendText_46 ?_
      refine xa_dup eX8_appendText_47 rfl ?_
      refine gr_X8_14 eX8_appendText_48 lRX8_264 (fun r48 => ?_)
      try simp (decide := true) only [up_app, if_true, if_false, and_true, true_and, and_false, false_and, hn] at r48 ⊢
      refine xa_iconst eX8_appendText_51 ?_
      refine xa_iadd eX8_appendText_52 ?_
      refine p_X8_14 eX8_appendText_53 lRX8_264 (by omega) ?_
      refine xs_iinc_2 eX8_appendText_56 rfl ?_
      refine xa_goto (tgt := 26) eX8_appendText_59 (by decide) ?_
      refine xs_iload_2 eX8_appendText_26 ?_
      refine xa_if_lt (tgt := 62) eX8_appendText_27 (by decide) (by decide) (fun c27 => ?_) (fun c27 => ?_)
      · exact absurd c27 (by decide)
      · refine xs_aload_0 eX8_appendText_30 ?_
        refine g_X8_13 eX8_appendText_31 lRX8_42 ?_
        refine xs_aload_0 eX8_appendText_34 ?_
        refine gr_X8_14 eX8_appendText_35 lRX8_264 (fun r35 => ?_)
        try simp (decide := true) only [up_app, if_true, if_false, and_true, true_and, and_false, false_and, hn] at r35 ⊢
        refine xs_iload_1 eX8_appendText_38 ?_
        refine xs_iload_2 eX8_appendText_39 ?_
        refine xa_ishr eX8_appendText_40 ?_
        refine xa_sipush eX8_appendText_41 (by decide) ?_
        refine xa_iand eX8_appendText_44 ?_
        refine pa_41 eX8_appendText_45 (by omega) (hb _) ?_
        refine xs_aload_0 eX8_appendText_46 ?_
        refine xa_dup eX8_appendText_47 rfl ?_
        refine gr_X8_14 eX8_appendText_48 lRX8_264 (fun r48 => ?_)
        try simp (decide := true) only [up_app, if_true, if_false, and_true, true_and, and_false, false_and, hn] at r48 ⊢
        refine xa_iconst eX8_appendText_51 ?_
        refine xa_iadd eX8_appendText_52 ?_
        refine p_X8_14 eX8_appendText_53 lRX8_264 (by omega) ?_
        refine xs_iinc_2 eX8_appendText_56 rfl ?_
        refine xa_goto (tgt := 26) eX8_appendText_59 (by decide) ?_
        refine xs_iload_2 eX8_appendText_26 ?_
        refine xa_if_lt (tgt := 62) eX8_appendText_27 (by decide) (by decide) (fun c27 => ?_) (fun c27 => ?_)
        · exact absurd c27 (by decide)
        · refine xs_aload_0 eX8_appendText_30 ?_
          refine g_X8_13 eX8_appendText_31 lRX8_42 ?_
          refine xs_aload_0 eX8_appendText_34 ?_
          refine gr_X8_14 eX8_appendText_35 lRX8_264 (fun r35 => ?_)
          try simp (decide := true) only [up_app, if_true, if_false, and_true, true_and, and_false, false_and, hn] at r35 ⊢
          refine xs_iload_1 eX8_appendText_38 ?_
          refine xs_iload_2 eX8_appendText_39 ?_
          refine xa_ishr eX8_appendText_40 ?_
          refine xa_sipush eX8_appendText_41 (by decide) ?_
          refine xa_iand eX8_appendText_44 ?_
          refine pa_41 eX8_appendText_45 (by omega) (hb _) ?_
          refine xs_aload_0 eX8_appendText_46 ?_
          refine xa_dup eX8_appendText_47 rfl ?_
          refine gr_X8_14 eX8_appendText_48 lRX8_264 (fun r48 => ?_)
          try simp (decide := true) only [up_app, if_true, if_false, and_true, true_and, and_false, false_and, hn] at r48 ⊢
          refine xa_iconst eX8_appendText_51 ?_
          refine xa_iadd eX8_appendText_52 ?_
          refine p_X8_14 eX8_appendText_53 lRX8_264 (by omega) ?_
          refine xs_iinc_2 eX8_appendText_56 rfl ?_
          refine xa_goto (tgt := 26) eX8_appendText_59 (by decide) ?_
          refine xs_iload_2 eX8_appendText_26 ?_
          refine xa_if_lt (tgt := 62) eX8_appendText_27 (by decide) (by decide) (fun c27 => ?_) (fun c27 => ?_)
          · exact absurd c27 (by decide)
          · refine xs_aload_0 eX8_appendText_30 ?_
            refine g_X8_13 eX8_appendText_31 lRX8_42 ?_
            refine xs_aload_0 eX8_appendText_34 ?_
            refine gr_X8_14 eX8_appendText_35 lRX8_264 (fun r35 => ?_)
            try simp (decide := true) only [up_app, if_true, if_false, and_true, true_and, and_false, false_and, hn] at r35 ⊢
            refine xs_iload_1 eX8_appendText_38 ?_
            refine xs_iload_2 eX8_appendText_39 ?_
            refine xa_ishr eX8_appendText_40 ?_
            refine xa_sipush eX8_appendText_41 (by decide) ?_
            refine xa_iand eX8_appendText_44 ?_
            refine pa_41 eX8_appendText_45 (by omega) (hb _) ?_
            refine xs_aload_0 eX8_appendText_46 ?_
            refine xa_dup eX8_appendText_47 rfl ?_
            refine gr_X8_14 eX8_appendText_48 lRX8_264 (fun r48 => ?_)
            try simp (decide := true) only [up_app, if_true, if_false, and_true, true_and, and_false, false_and, hn] at r48 ⊢
            refine xa_iconst eX8_appendText_51 ?_
            refine xa_iadd eX8_appendText_52 ?_
            refine p_X8_14 eX8_appendText_53 lRX8_264 (by omega) ?_
            refine xs_iinc_2 eX8_appendText_56 rfl ?_
            refine xa_goto (tgt := 26) eX8_appendText_59 (by decide) ?_
            refine xs_iload_2 eX8_appendText_26 ?_
            refine xa_if_lt (tgt := 62) eX8_appendText_27 (by decide) (by decide) (fun c27 => ?_) (fun c27 => ?_)
            · refine xs_aload_0 eX8_appendText_62 ?_
              refine gr_X8_14 eX8_appendText_63 lRX8_264 (fun r63 => ?_)
              try simp (decide := true) only [up_app, if_true, if_false, and_true, true_and, and_false, false_and, hn] at r63 ⊢
              exact xa_iret eX8_appendText_66 rfl ⟨_, rfl, by have h9 := hq1 (by omega); rw [← apR_eq] at h9; exact h9⟩
            · exact absurd c27 (by decide)
  · refine xs_aload_0 eX8_appendText_17 ?_
    refine xa_iconst eX8_appendText_18 ?_
    refine xbi_V10 (mi' := mX8_fail) (y := yX8_fail) eX8_appendText_19 (xw_5 lRX8_89 wy_X8_fail) rfl ⟨wd_X8_fail, by decide, by decide⟩ (by decide) (fun _ => rfl) rfl (Nat.le_of_ble_eq_true rfl) rfl (k_X8_fail (by decide) ?_)
    exact xa_iret eX8_appendText_22 rfl ⟨_, rfl, hq0 (by omega)⟩
