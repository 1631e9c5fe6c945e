/-! the reference: words, errors -/
theorem mt_self {S : xS} : mt S (S 30 0 15) (S 30 0 16) (S 30 0 17) (S 30 0 18) (S 30 0 19) (S 30 0 22) = S := by
  funext a b f
  unfold mt
  by_cases c15 : a = 30 ∧ b = 0 ∧ f = 15
  · obtain ⟨rfl, rfl, rfl⟩ := c15; rfl
  · rw [if_neg c15]
    by_cases c16 : a = 30 ∧ b = 0 ∧ f = 16
    · obtain ⟨rfl, rfl, rfl⟩ := c16; rfl
    · rw [if_neg c16]
      by_cases c17 : a = 30 ∧ b = 0 ∧ f = 17
      · obtain ⟨rfl, rfl, rfl⟩ := c17; rfl
      · rw [if_neg c17]
        by_cases c18 : a = 30 ∧ b = 0 ∧ f = 18
        · obtain ⟨rfl, rfl, rfl⟩ := c18; rfl
        · rw [if_neg c18]
          by_cases c19 : a = 30 ∧ b = 0 ∧ f = 19
          · obtain ⟨rfl, rfl, rfl⟩ := c19; rfl
          · rw [if_neg c19]
            by_cases c22 : a = 30 ∧ b = 0 ∧ f = 22
            · obtain ⟨rfl, rfl, rfl⟩ := c22; rfl
            · rw [if_neg c22]
theorem f_X8_nextToken {w : xW} {S : xS} {B : String → xS → Prop} {A : xS → Prop} {n p : Nat} (h15 : S 30 0 15 = (p : Int)) (hn : S 30 0 14 = (n : Int)) (h7 : n ≤ 700) (hB : ∀ i, i < n → 0 ≤ S 41 0 i ∧ S 41 0 i ≤ 255) (hp : p ≤ n) (hq : A (nxR n p S)) : Kv w mX8_nextToken yX8_nextToken 0 0 [xp 30 0] S A B := by
  have e : S = mt S (p : Int) (S 30 0 16) (S 30 0 17) (S 30 0 18) (S 30 0 19) (S 30 0 22) := by rw [← h15]; exact mt_self.symm
  rw [e]
  exact k_X8_nextToken hn h7 hB hp hq
theorem hsW_r : ∀ i, i < 6 → ∀ k, k < 8 → 0 ≤ hsB (xchr i) 0 k ∧ hsB (xchr i) 0 k ≤ 900000000000 := by decide
abbrev isWR (i : Nat) (S : xS) : Prop := S 30 0 17 = 2 ∧ S 30 0 18 = ((xslen.getD i 0 : Nat) : Int) ∧ S 30 0 22 = hsB (xchr i) 0 (xslen.getD i 0)
set_option maxHeartbeats 400000 in
theorem k_X8_isWord {w : xW} {S : xS} {B : String → xS → Prop} {A : Int → xS → Prop} {i : Nat} (hi : i < 6) (hq : A (b2i (isWR i S)) S) : Ki w mX8_isWord yX8_isWord 0 0 [xp 30 0, xp 51 i] S A B := by
  refine K.of rfl rfl rfl rfl (Nat.le_of_ble_eq_true rfl) rfl ?_
  have hl := xslen_r i hi
  have lp : S 30 0 17 = 2 → S 30 0 18 = ((xslen.getD i 0 : Nat) : Int) → ∀ j : Nat, j ≤ xslen.getD i 0 → X w mX8_isWord (xTG w (fun v S' => ∃ a, v = some (xi a) ∧ A a S') B) 0 0 26 [xp 30 0, xp 51 i, xl (hsB (xchr i) 0 j), xj, xi (j : Int)] [] S := by
    intro hw1 hw2
    refine nloop (xslen.getD i 0) (fun j hjn ih => ?_)
    refine xs_iload_4 eX8_isWord_26 ?_
    refine xs_aload_1 eX8_isWord_28 ?_
    refine xbi_T0 (mi' := mJlen) (y := yJ0_length_8abf5) eX8_isWord_29 (xw_5 lRX8_308 wy_J0_length_8abf5) rfl rfl ⟨wd_Jlen, by decide, by decide⟩ hi (Nat.le_of_ble_eq_true rfl) rfl (k_Jlen hi ?_)
    refine xa_icmp_ge (tgt := 59) eX8_isWord_32 (by decide) (by omega) (by omega) (fun c32 => ?_) (fun c32 => ?_)
    · refine xs_aload_0 eX8_isWord_59 ?_
      refine gr_X8_22 eX8_isWord_60 lRX8_287 (fun r60 => ?_)
      refine xs_lload_2 eX8_isWord_63 ?_
      refine xa_lcmp eX8_isWord_64 (by omega) (by have z := hsW_r i hi j (by omega); omega) ?_
      refine xa_ifc_ne (tgt := 72) eX8_isWord_65 (by decide) (fun c65 => ?_) (fun c65 => ?_)
      · refine xa_iconst eX8_isWord_72 ?_
        exact xa_zret eX8_isWord_73 rfl (by decide) ⟨_, rfl, by have h9 := hq; rw [b2i, if_neg (fun z : isWR i S => by have z1 := z.2.2; rw [show xslen.getD i 0 = j by omega] at z1; exact c65 z1)] at h9; exact h9⟩
      · refine xa_iconst eX8_isWord_68 ?_
        refine xa_goto (tgt := 73) eX8_isWord_69 (by decide) ?_
        exact xa_zret eX8_isWord_73 rfl (by decide) ⟨_, rfl, by have h9 := hq; rw [b2i, if_pos (show isWR i S from ⟨hw1, hw2, by rw [show xslen.getD i 0 = j by omega]; exact c65⟩)] at h9; exact h9⟩
    · refine xa_ldc2 (a := 27) eX8_isWord_35 lRX8_300 (by decide) ?_
      refine xs_lload_2 eX8_isWord_38 ?_
      refine xa_lmul eX8_isWord_39 ?_
      refine xs_aload_1 eX8_isWord_40 ?_
      refine xs_iload_4 eX8_isWord_41 ?_
      refine xbi_T1 (mi' := mJcha) (y := yJ0_charAt_5068e) eX8_isWord_43 (xw_5 lRX8_313 wy_J0_charAt_5068e) rfl rfl ⟨wd_Jcha, by decide, by decide⟩ hi (Nat.le_of_ble_eq_true rfl) rfl (k_Jcha (j := j) hi rfl (by omega) ?_)
      refine xa_i2l eX8_isWord_46 (by have z := (xchr_ok i hi j (by omega)).2.2.2; omega) ?_
      refine xa_ladd eX8_isWord_47 ?_
      refine xa_ldc2 (a := 96) eX8_isWord_48 lRX8_302 (by decide) ?_
      refine xa_lsub eX8_isWord_51 ?_
      refine xs_lstore_2 eX8_isWord_52 rfl ?_
      refine xs_iinc_4 eX8_isWord_53 rfl ?_
      refine xa_goto (tgt := 26) eX8_isWord_56 (by decide) ?_
      have h9 := ih (j + 1) (by omega) (by omega)
      rw [show hsB (xchr i) 0 (j + 1) = 27 * hsB (xchr i) 0 j + xchr i j - 96 by rw [hsB, Nat.zero_add]] at h9
      rw [show (j : Int) + 1 = ((j + 1 : Nat) : Int) by omega]
      exact h9
  refine xs_aload_0 eX8_isWord_0 ?_
  refine gr_X8_17 eX8_isWord_1 lRX8_294 (fun r1 => ?_)
  refine xa_iconst eX8_isWord_4 ?_
  refine xa_icmp_ne (tgt := 19) eX8_isWord_5 (by decide) (by omega) (by decide) (fun c5 => ?_) (fun c5 => ?_)
  · refine xa_iconst eX8_isWord_19 ?_
    exact xa_zret eX8_isWord_20 rfl (by decide) ⟨_, rfl, by have h9 := hq; rw [b2i, if_neg (fun z : isWR i S => by have z1 := z.1; omega)] at h9; exact h9⟩
  · refine xs_aload_0 eX8_isWord_8 ?_
    refine gr_X8_18 eX8_isWord_9 lRX8_284 (fun r9 => ?_)
    refine xs_aload_1 eX8_isWord_12 ?_
    refine xbi_T0 (mi' := mJlen) (y := yJ0_length_8abf5) eX8_isWord_13 (xw_5 lRX8_308 wy_J0_length_8abf5) rfl rfl ⟨wd_Jlen, by decide, by decide⟩ hi (Nat.le_of_ble_eq_true rfl) rfl (k_Jlen hi ?_)
    refine xa_icmp_eq (tgt := 21) eX8_isWord_16 (by decide) (by omega) (by omega) (fun c16 => ?_) (fun c16 => ?_)
    · refine xa_lconst0 eX8_isWord_21 ?_
      refine xs_lstore_2 eX8_isWord_22 rfl ?_
      refine xa_iconst eX8_isWord_23 ?_
      refine xs_istore_4 eX8_isWord_24 rfl ?_
      exact lp (by omega) (by omega) 0 (by omega)
    · refine xa_iconst eX8_isWord_19 ?_
      exact xa_zret eX8_isWord_20 rfl (by decide) ⟨_, rfl, by have h9 := hq; rw [b2i, if_neg (fun z : isWR i S => by have z1 := z.2.1; omega)] at h9; exact h9⟩
set_option maxHeartbeats 400000 in
theorem k_X8_isFine {w : xW} {S : xS} {B : String → xS → Prop} {A : Int → xS → Prop} (hq : A (b2i (S 30 0 20 = 0)) S) : Ki w mX8_isFine yX8_isFine 0 0 [xp 30 0] S A B := by
  refine K.of rfl rfl rfl rfl (Nat.le_of_ble_eq_true rfl) rfl ?_
  refine xs_aload_0 eX8_isFine_0 ?_
  refine gr_X8_20 eX8_isFine_1 lRX8_317 (fun r1 => ?_)
  refine xa_if_ne (tgt := 11) eX8_isFine_4 (by decide) (by omega) (fun c4 => ?_) (fun c4 => ?_)
  · refine xa_iconst eX8_isFine_11 ?_
    exact xa_zret eX8_isFine_12 rfl (by decide) ⟨_, rfl, by rw [b2i, if_neg c4] at hq; exact hq⟩
  · refine xa_iconst eX8_isFine_7 ?_
    refine xa_goto (tgt := 12) eX8_isFine_8 (by decide) ?_
    exact xa_zret eX8_isFine_12 rfl (by decide) ⟨_, rfl, by rw [b2i, if_pos c4] at hq; exact hq⟩
/-- the first error is kept -/
def rqS (c : Int) (S : xS) : xS := if S 30 0 20 = 0 then up (up S 30 0 20 c) 30 0 21 (S 30 0 16) else S
set_option maxHeartbeats 400000 in
theorem k_X8_require {w : xW} {S : xS} {B : String → xS → Prop} {A : xS → Prop} {v c : Int} (hv : v = 0 ∨ v = 1) (hc : xr c) (hq1 : v = 1 → A S) (hq0 : v = 0 → A (rqS c S)) : Kv w mX8_require yX8_require 0 0 [xp 30 0, xi v, xi c] S A B := by
  refine K.of rfl rfl rfl rfl (Nat.le_of_ble_eq_true rfl) rfl ?_
  refine xs_iload_1 eX8_require_0 ?_
  refine xa_if_ne (tgt := 24) eX8_require_1 (by decide) (by omega) (fun c1 => ?_) (fun c1 => ?_)
  · exact xa_vret eX8_require_24 rfl ⟨rfl, hq1 (by omega)⟩
  · refine xs_aload_0 eX8_require_4 ?_
    refine gr_X8_20 eX8_require_5 lRX8_317 (fun r5 => ?_)
    try simp (decide := true) only [up_app, if_false, and_false, false_and, and_true, true_and] at r5 ⊢
    refine xa_if_ne (tgt := 24) eX8_require_8 (by decide) (by omega) (fun c8 => ?_) (fun c8 => ?_)
    · exact xa_vret eX8_require_24 rfl ⟨rfl, by have h9 := hq0 (by omega); rw [rqS, if_neg c8] at h9; exact h9⟩
    · refine xs_aload_0 eX8_require_11 ?_
      refine xs_iload_2 eX8_require_12 ?_
      refine p_X8_20 eX8_require_13 lRX8_317 hc ?_
      refine xs_aload_0 eX8_require_16 ?_
      refine xs_aload_0 eX8_require_17 ?_
      refine gr_X8_16 eX8_require_18 lRX8_281 (fun r18 => ?_)
      try simp (decide := true) only [up_app, if_false, and_false, false_and, and_true, true_and] at r18 ⊢
      refine p_X8_21 eX8_require_21 lRX8_45 (by omega) ?_
      exact xa_vret eX8_require_24 rfl ⟨rfl, by have h9 := hq0 (by omega); rw [rqS, if_pos c8] at h9; exact h9⟩
set_option maxHeartbeats 400000 in
theorem f_X8_advance {w : xW} {S : xS} {B : String → xS → Prop} {A : xS → Prop} {n p : Nat} (h15 : S 30 0 15 = (p : Int)) (hn : S 30 0 14 = (n : Int)) (h7 : n ≤ 700) (hB : ∀ i, i < n → 0 ≤ S 41 0 i ∧ S 41 0 i ≤ 255) (hp : p ≤ n) (hq : A (if S 30 0 20 = 0 then nxR n p S else S)) : Kv w mX8_advance yX8_advance 0 0 [xp 30 0] S A B := by
  refine K.of rfl rfl rfl rfl (Nat.le_of_ble_eq_true rfl) rfl ?_
  refine xs_aload_0 eX8_advance_0 ?_
  refine xbi_V00 (mi' := mX8_isFine) (y := yX8_isFine) eX8_advance_1 (xw_5 lRX8_320 wy_X8_isFine) rfl ⟨wd_X8_isFine, by decide, by decide⟩ (by decide) (fun _ => rfl) rfl (Nat.le_of_ble_eq_true rfl) rfl (k_X8_isFine ?_)
  refine xa_ifb_eq (tgt := 11) eX8_advance_4 (by decide) (fun c4 => ?_) (fun c4 => ?_)
  · exact xa_vret eX8_advance_11 rfl ⟨rfl, by rw [if_neg c4] at hq; exact hq⟩
  · refine xs_aload_0 eX8_advance_7 ?_
    refine xbv_V00 (mi' := mX8_nextToken) (y := yX8_nextToken) eX8_advance_8 (xw_5 lRX8_323 wy_X8_nextToken) rfl ⟨wd_X8_nextToken, by decide, by decide⟩ (by decide) (fun _ => rfl) rfl (Nat.le_of_ble_eq_true rfl) rfl (f_X8_nextToken h15 hn h7 hB hp ?_)
    exact xa_vret eX8_advance_11 rfl ⟨rfl, by rw [if_pos c4] at hq; exact hq⟩
