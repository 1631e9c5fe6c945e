/-! the class: reading -/
/-- what holds of the text's reader -/
def PT (n : Nat) (S : xS) : Prop := S 3 0 1 = (n : Int) ∧ n ≤ 700 ∧ (0 ≤ S 3 0 7 ∧ S 3 0 7 ≤ S 3 0 8) ∧ S 3 0 8 ≤ (n : Int) ∧ (0 ≤ S 3 0 9 ∧ S 3 0 9 ≤ 10000000) ∧ (0 ≤ S 3 0 6 ∧ S 3 0 6 < 5)
def nx (n : Nat) (S : xS) : xS := nxS n (S 3 0 8).toNat (S 3 0 9) S
theorem tkE_r {B : Nat → Int} {n s : Nat} (h : s ≤ n) : s ≤ tkE B n s ∧ tkE B n s ≤ n := by
  have h1 := wdF_r (B := B) (n - s) s
  have h2 := dgF_r (B := B) (n - s) s
  unfold tkE
  split
  · omega
  · split
    · omega
    · split <;> omega
theorem PT.nx {n : Nat} {S : xS} (h : PT n S) : PT n (nx n S) := by
  obtain ⟨h1, h2, h3, h4, h5, h6⟩ := h
  have hs := spF_r (B := S 24 0) (n - (S 3 0 8).toNat) (S 3 0 8).toNat
  have hsn : spF (S 24 0) (n - (S 3 0 8).toNat) (S 3 0 8).toNat ≤ n := by omega
  have he := tkE_r (B := S 24 0) hsn
  refine ⟨h1, h2, ?_, ?_, ?_, ?_⟩
  · show 0 ≤ ((spF (S 24 0) (n - (S 3 0 8).toNat) (S 3 0 8).toNat : Nat) : Int) ∧ ((spF (S 24 0) (n - (S 3 0 8).toNat) (S 3 0 8).toNat : Nat) : Int) ≤ ((tkE (S 24 0) n (spF (S 24 0) (n - (S 3 0 8).toNat) (S 3 0 8).toNat) : Nat) : Int)
    omega
  · show ((tkE (S 24 0) n (spF (S 24 0) (n - (S 3 0 8).toNat) (S 3 0 8).toNat) : Nat) : Int) ≤ n
    omega
  · show 0 ≤ tkV (S 24 0) n (spF (S 24 0) (n - (S 3 0 8).toNat) (S 3 0 8).toNat) (S 3 0 9) ∧ tkV (S 24 0) n (spF (S 24 0) (n - (S 3 0 8).toNat) (S 3 0 8).toNat) (S 3 0 9) ≤ 10000000
    have hv := vlF_r (B := S 24 0) (n - spF (S 24 0) (n - (S 3 0 8).toNat) (S 3 0 8).toNat) (spF (S 24 0) (n - (S 3 0 8).toNat) (S 3 0 8).toNat) 0 (by omega)
    unfold tkV
    split
    · exact h5
    · split
      · exact h5
      · split
        · exact hv
        · exact h5
  · show 0 ≤ tkK (S 24 0) n (spF (S 24 0) (n - (S 3 0 8).toNat) (S 3 0 8).toNat) ∧ tkK (S 24 0) n (spF (S 24 0) (n - (S 3 0 8).toNat) (S 3 0 8).toNat) < 5
    unfold tkK
    split
    · decide
    · split
      · decide
      · split
        · decide
        · split <;> decide
theorem nx_o {n a : Nat} {S : xS} (h : a ≠ 3) : nx n S a = S a := tk_o h
theorem f_X3_nextToken {w : xW} {S : xS} {B : String → xS → Prop} {A : xS → Prop} {n : Nat} (hP : PT n S) (hq : A (nx n S)) : Kv w mX3_nextToken yX3_nextToken 0 0 [xp 3 0] S A B := by
  have e : S = tk S (S 3 0 7) ((S 3 0 8).toNat : Int) (S 3 0 6) (S 3 0 9) := by
    obtain ⟨h1, h2, h3, h4, h5, h6⟩ := hP
    rw [show (((S 3 0 8).toNat : Nat) : Int) = S 3 0 8 by omega]
    exact tk_self.symm
  rw [e]
  obtain ⟨h1, h2, h3, h4, h5, h6⟩ := hP
  exact k_X3_nextToken h1 h2 (by omega) hq
def flS (c : Int) (S : xS) : xS := up (up S 3 0 4 c) 3 0 5 (S 3 0 7)
def wEq (B : Nat → Int) (s i : Nat) : Nat → Bool
  | 0 => true
  | k + 1 => wEq B s i k && decide (B (s + k) = xchr i k)
theorem wEq_le {B : Nat → Int} {s i : Nat} : ∀ {k : Nat}, wEq B s i k = true → ∀ j, j ≤ k → wEq B s i j = true
  | 0, h, j, hj => by obtain rfl : j = 0 := by omega
                      exact h
  | k + 1, h, j, hj => by
    by_cases e : j = k + 1
    · subst e; exact h
    · rw [wEq, Bool.and_eq_true] at h
      exact wEq_le h.1 j (by omega)
abbrev isW (i : Nat) (S : xS) : Prop := S 3 0 6 = 1 ∧ S 3 0 8 - S 3 0 7 = ((xslen.getD i 0 : Nat) : Int) ∧ wEq (S 24 0) (S 3 0 7).toNat i (xslen.getD i 0) = true
set_option maxHeartbeats 400000 in
theorem f_X3_fail {w : xW} {S : xS} {B : String → xS → Prop} {A : Int → xS → Prop} {c : Int} (hc : xr c) (hq : A 0 (flS c S)) : Ki w mX3_fail yX3_fail 0 0 [xp 3 0, xi c] S A B := by
  refine K.of rfl rfl rfl rfl (Nat.le_of_ble_eq_true rfl) rfl ?_
  refine xs_aload_0 eX3_fail_0 ?_
  refine xs_iload_1 eX3_fail_1 ?_
  refine p_X3_4 eX3_fail_2 lRX3_48 hc ?_
  refine xs_aload_0 eX3_fail_5 ?_
  refine xs_aload_0 eX3_fail_6 ?_
  refine gr_X3_7 eX3_fail_7 lRX3_169 (fun r7 => ?_)
  try simp (decide := true) only [up_app, if_true, if_false, and_true, true_and, and_false, false_and, Int.toNat_natCast] at r7 ⊢
  refine p_X3_5 eX3_fail_10 lRX3_29 (by omega) ?_
  refine xa_iconst eX3_fail_13 ?_
  exact xa_zret eX3_fail_14 rfl (by decide) ⟨_, rfl, hq⟩
set_option maxHeartbeats 400000 in
theorem f_X3_isWord {w : xW} {S : xS} {B : String → xS → Prop} {A : Int → xS → Prop} {n i : Nat} (hP : PT n S) (hi : i < 6) (hq : A (b2i (isW i S)) S) : Ki w mX3_isWord yX3_isWord 0 0 [xp 3 0, xp 51 i] S A B := by
  refine K.of rfl rfl rfl rfl (Nat.le_of_ble_eq_true rfl) rfl ?_
  obtain ⟨h1, h2, h3, h4, h5, h6⟩ := hP
  have hl := xslen_r i hi
  have lp : S 3 0 6 = 1 → S 3 0 8 - S 3 0 7 = ((xslen.getD i 0 : Nat) : Int) → ∀ j : Nat, j ≤ xslen.getD i 0 → wEq (S 24 0) (S 3 0 7).toNat i j = true → X w mX3_isWord (xTG w (fun v S' => ∃ a, v = some (xi a) ∧ A a S') B) 0 0 30 [xp 3 0, xp 51 i, xi (j : Int)] [] S := by
    intro hw1 hw2
    refine nloop (xslen.getD i 0) (fun j hjn ih hj => ?_)
    refine xs_iload_2 eX3_isWord_30 ?_
    refine xs_aload_1 eX3_isWord_31 ?_
    refine xbi_T0 (mi' := mJlen) (y := yJ0_length_8abf5) eX3_isWord_32 (xw_5 lRX3_191 wy_J0_length_8abf5) rfl rfl ⟨wd_Jlen, by decide, by decide⟩ hi (Nat.le_of_ble_eq_true rfl) rfl (k_Jlen hi ?_)
    refine xa_icmp_ge (tgt := 65) eX3_isWord_35 (by decide) (by omega) (by omega) (fun c35 => ?_) (fun c35 => ?_)
    · refine xa_iconst eX3_isWord_65 ?_
      exact xa_zret eX3_isWord_66 rfl (by decide) ⟨_, rfl, by have h9 := hq; rw [b2i, if_pos (show isW i S from ⟨by omega, by omega, wEq_le hj _ (by omega)⟩)] at h9; exact h9⟩
    · have eIX : (S 3 0 7 + (j : Int)).toNat = (S 3 0 7).toNat + j := by omega
      refine xs_aload_0 eX3_isWord_38 ?_
      refine g_X3_0 eX3_isWord_39 lRX3_9 ?_
      refine xs_aload_0 eX3_isWord_42 ?_
      refine gr_X3_7 eX3_isWord_43 lRX3_169 (fun r43 => ?_)
      refine xs_iload_2 eX3_isWord_46 ?_
      refine xa_iadd eX3_isWord_47 ?_
      refine gar_24 eX3_isWord_48 (by omega) (fun r48 => ?_)
      refine xs_aload_1 eX3_isWord_49 ?_
      refine xs_iload_2 eX3_isWord_50 ?_
      refine xbi_T1 (mi' := mJcha) (y := yJ0_charAt_5068e) eX3_isWord_51 (xw_5 lRX3_196 wy_J0_charAt_5068e) rfl rfl ⟨wd_Jcha, by decide, by decide⟩ hi (Nat.le_of_ble_eq_true rfl) rfl (k_Jcha (j := j) hi rfl (by omega) ?_)
      refine xa_icmp_eq (tgt := 59) eX3_isWord_54 (by decide) r48 (by have z := (xchr_ok i hi j (by omega)).2.2.2; omega) (fun c54 => ?_) (fun c54 => ?_)
      · refine xs_iinc_2 eX3_isWord_59 rfl ?_
        refine xa_goto (tgt := 30) eX3_isWord_62 (by decide) ?_
        rw [eIX] at c54
        have h9 := ih (j + 1) (by omega) (by omega) (by rw [wEq, hj, Bool.true_and]; exact decide_eq_true c54)
        rw [show (j : Int) + 1 = ((j + 1 : Nat) : Int) by omega]
        exact h9
      · refine xa_iconst eX3_isWord_57 ?_
        exact xa_zret eX3_isWord_58 rfl (by decide) ⟨_, rfl, by have h9 := hq; rw [b2i, if_neg (fun z : isW i S => by have z1 := wEq_le z.2.2 (j + 1) (by omega); rw [wEq, Bool.and_eq_true, decide_eq_true_iff, ← eIX] at z1; exact c54 z1.2)] at h9; exact h9⟩
  refine xs_aload_0 eX3_isWord_0 ?_
  refine g_X3_6 eX3_isWord_1 lRX3_39 ?_
  refine xa_tok (i := 1) eX3_isWord_4 (by decide) lRX3_172 ?_
  refine xa_acmp_ne (tgt := 26) eX3_isWord_7 (by decide) (by omega) (by decide) (fun c7 => ?_) (fun c7 => ?_)
  · refine xa_iconst eX3_isWord_26 ?_
    exact xa_zret eX3_isWord_27 rfl (by decide) ⟨_, rfl, by have h9 := hq; rw [b2i, if_neg (fun z : isW i S => by have z1 := z.1; omega)] at h9; exact h9⟩
  · refine xs_aload_0 eX3_isWord_10 ?_
    refine gr_X3_8 eX3_isWord_11 lRX3_51 (fun r11 => ?_)
    refine xs_aload_0 eX3_isWord_14 ?_
    refine gr_X3_7 eX3_isWord_15 lRX3_169 (fun r15 => ?_)
    refine xa_isub eX3_isWord_18 ?_
    refine xs_aload_1 eX3_isWord_19 ?_
    refine xbi_T0 (mi' := mJlen) (y := yJ0_length_8abf5) eX3_isWord_20 (xw_5 lRX3_191 wy_J0_length_8abf5) rfl rfl ⟨wd_Jlen, by decide, by decide⟩ hi (Nat.le_of_ble_eq_true rfl) rfl (k_Jlen hi ?_)
    refine xa_icmp_eq (tgt := 28) eX3_isWord_23 (by decide) (by omega) (by omega) (fun c23 => ?_) (fun c23 => ?_)
    · refine xa_iconst eX3_isWord_28 ?_
      refine xs_istore_2 eX3_isWord_29 rfl ?_
      exact lp (by omega) (by omega) 0 (by omega) rfl
    · refine xa_iconst eX3_isWord_26 ?_
      exact xa_zret eX3_isWord_27 rfl (by decide) ⟨_, rfl, by have h9 := hq; rw [b2i, if_neg (fun z : isW i S => by have z1 := z.2.1; omega)] at h9; exact h9⟩
