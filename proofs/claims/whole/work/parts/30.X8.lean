/-! PromiseMarketModel: the small methods -/
/-! the reference: its state is one array -/
def stM (M : Nat → Int) (S : xS) : xS := fun k j f => if k = 31 ∧ j = 0 then M f else S k j f
def upM (M : Nat → Int) (i : Nat) (v : Int) : Nat → Int := fun q => if q = i then v else M q
theorem stM_31 (M : Nat → Int) (S : xS) : stM M S 31 0 = M := by funext f; unfold stM; rw [if_pos ⟨rfl, rfl⟩]
theorem stM_o {M : Nat → Int} {S : xS} {k j : Nat} (h : k ≠ 31) : stM M S k j = S k j := by funext f; unfold stM; rw [if_neg (by omega)]
theorem stM_self (S : xS) : stM (S 31 0) S = S := by
  funext k j f
  unfold stM
  by_cases h : k = 31 ∧ j = 0
  · rw [if_pos h, h.1, h.2]
  · rw [if_neg h]
theorem stM_stM (M M2 : Nat → Int) (S : xS) : stM M (stM M2 S) = stM M S := by
  funext k j f
  unfold stM
  by_cases h : k = 31 ∧ j = 0
  · rw [if_pos h, if_pos h]
  · rw [if_neg h, if_neg h, if_neg h]
theorem up_stM (M : Nat → Int) (S : xS) (i : Nat) (v : Int) : up (stM M S) 31 0 i v = stM (upM M i v) S := by
  funext k j f
  rw [up_app]
  unfold stM upM
  by_cases h : k = 31 ∧ j = 0
  · by_cases h2 : f = i
    · rw [if_pos ⟨h.1, h.2, h2⟩, if_pos h, if_pos h2]
    · rw [if_neg (by omega), if_pos h, if_pos h, if_neg h2]
  · rw [if_neg (by omega), if_neg h, if_neg h]
theorem up_stO {M : Nat → Int} {S : xS} {k j f : Nat} {v : Int} (h : k ≠ 31) : up (stM M S) k j f v = stM M (up S k j f v) := by
  funext k' j' f'
  rw [up_app]
  unfold stM
  by_cases c : k' = k ∧ j' = j ∧ f' = f
  · rw [if_pos c, if_neg (by omega), up_app, if_pos c]
  · rw [if_neg c, up_app, if_neg c]
theorem upM_same (M : Nat → Int) (i : Nat) (v : Int) : upM M i v i = v := by unfold upM; rw [if_pos rfl]
theorem upM_o {M : Nat → Int} {i q : Nat} {v : Int} (h : q ≠ i) : upM M i v q = M q := by unfold upM; rw [if_neg h]
abbrev perP (a : Int) : Prop := 2 ≤ a ∧ a ≤ 120 ∧ Int.tmod 120 a = 0
abbrev wshP (p b d : Int) : Prop := perP p ∧ (1 ≤ b ∧ b ≤ 120) ∧ (b ≤ d ∧ d ≤ p)

set_option maxHeartbeats 400000 in
theorem k_X8_fail {w : xW} {S : xS} {B : String → xS → Prop} {A : Int → xS → Prop} {c : Int} (hc : xr c) (hq : A 0 (up S 30 0 4 c)) : Ki w mX8_fail yX8_fail 0 0 [xp 30 0, xi c] S A B := by
  refine K.of rfl rfl rfl rfl (Nat.le_of_ble_eq_true rfl) rfl ?_
  refine xs_aload_0 eX8_fail_0 ?_
  refine xs_iload_1 eX8_fail_1 ?_
  refine p_X8_4 eX8_fail_2 lRX8_52 (by omega) ?_
  refine xa_iconst eX8_fail_5 ?_
  exact xa_iret eX8_fail_6 rfl ⟨_, rfl, hq⟩
set_option maxHeartbeats 400000 in
theorem k_X8_thrown {w : xW} {S : xS} {B : String → xS → Prop} {A : Int → xS → Prop} (hq : A (S 30 0 4) S) : Ki w mX8_thrown yX8_thrown 0 0 [xp 30 0] S A B := by
  refine K.of rfl rfl rfl rfl (Nat.le_of_ble_eq_true rfl) rfl ?_
  refine xs_aload_0 eX8_thrown_0 ?_
  refine gr_X8_4 eX8_thrown_1 lRX8_52 (fun r1 => ?_)
  exact xa_iret eX8_thrown_4 rfl ⟨_, rfl, hq⟩
set_option maxHeartbeats 400000 in
theorem k_X8_isBetween {w : xW} {S : xS} {B : String → xS → Prop} {A : Int → xS → Prop} {a b c : Int} (ha : x64 a) (hb : x64 b) (hc : x64 c) (hq : A (b2i (b ≤ a ∧ a ≤ c)) S) : Ki w mX8_isBetween yX8_isBetween 0 0 [xl a, xl b, xl c] S A B := by
  refine K.of rfl rfl rfl rfl (Nat.le_of_ble_eq_true rfl) rfl ?_
  refine xs_lload_0 eX8_isBetween_0 ?_
  refine xs_lload_2 eX8_isBetween_1 ?_
  refine xa_lcmp eX8_isBetween_2 (by omega) (by omega) ?_
  refine xa_ifc_lt (tgt := 17) eX8_isBetween_3 (by decide) (fun c3 => ?_) (fun c3 => ?_)
  · refine xa_iconst eX8_isBetween_17 ?_
    exact xa_zret eX8_isBetween_18 rfl (by omega) ⟨_, rfl, by first | (rw [b2i, if_pos (by omega)] at hq; exact hq) | (rw [b2i, if_neg (by omega)] at hq; exact hq)⟩
  · refine xs_lload_0 eX8_isBetween_6 ?_
    refine xs_lload_4 eX8_isBetween_7 ?_
    refine xa_lcmp eX8_isBetween_9 (by omega) (by omega) ?_
    refine xa_ifc_gt (tgt := 17) eX8_isBetween_10 (by decide) (fun c10 => ?_) (fun c10 => ?_)
    · refine xa_iconst eX8_isBetween_17 ?_
      exact xa_zret eX8_isBetween_18 rfl (by omega) ⟨_, rfl, by first | (rw [b2i, if_pos (by omega)] at hq; exact hq) | (rw [b2i, if_neg (by omega)] at hq; exact hq)⟩
    · refine xa_iconst eX8_isBetween_13 ?_
      refine xa_goto (tgt := 18) eX8_isBetween_14 (by decide) ?_
      exact xa_zret eX8_isBetween_18 rfl (by omega) ⟨_, rfl, by first | (rw [b2i, if_pos (by omega)] at hq; exact hq) | (rw [b2i, if_neg (by omega)] at hq; exact hq)⟩
set_option maxHeartbeats 400000 in
theorem k_X8_number {w : xW} {S : xS} {B : String → xS → Prop} {A : Int → xS → Prop} {a : Int} {i : Nat} (e : a = (i : Int)) (hi : i < 527) (hq : A (S 31 0 i) S) : Ki w mX8_number yX8_number 0 0 [xp 30 0, xi a] S A B := by
  refine K.of rfl rfl rfl rfl (Nat.le_of_ble_eq_true rfl) rfl ?_
  subst e
  refine xs_aload_0 eX8_number_0 ?_
  refine g_X8_0 eX8_number_1 lRX8_7 ?_
  refine xs_iload_1 eX8_number_4 ?_
  refine gar_31 eX8_number_5 (by omega) (fun r5 => ?_)
  try simp only [Int.toNat_natCast] at r5 ⊢
  refine xa_l2i eX8_number_6 ?_
  exact xa_iret eX8_number_7 rfl ⟨_, rfl, hq⟩
set_option maxHeartbeats 400000 in
theorem k_X8_of {w : xW} {S : xS} {B : String → xS → Prop} {A : Int → xS → Prop} {a b : Int} {p g : Nat} (ea : a = (p : Int)) (eb : b = (g : Int)) (hp : p < 8) (hg : g < 11) (hq : A (S 31 0 (15 + 11 * p + g)) S) : Ki w mX8_of yX8_of 0 0 [xp 30 0, xi a, xi b] S A B := by
  refine K.of rfl rfl rfl rfl (Nat.le_of_ble_eq_true rfl) rfl ?_
  refine xs_aload_0 eX8_of_0 ?_
  refine xa_bipush eX8_of_1 (by decide) ?_
  refine xa_bipush eX8_of_3 (by decide) ?_
  refine xs_iload_1 eX8_of_5 ?_
  refine xa_imul eX8_of_6 ?_
  refine xa_iadd eX8_of_7 ?_
  refine xs_iload_2 eX8_of_8 ?_
  refine xa_iadd eX8_of_9 ?_
  refine xbi_V10 (mi' := mX8_number) (y := yX8_number) eX8_of_10 (xw_5 lRX8_65 wy_X8_number) rfl ⟨wd_X8_number, by decide, by decide⟩ (by decide) (fun _ => rfl) rfl (Nat.le_of_ble_eq_true rfl) rfl (k_X8_number (i := 15 + 11 * p + g) (by omega) (by omega) ?_)
  exact xa_iret eX8_of_13 rfl ⟨_, rfl, hq⟩
set_option maxHeartbeats 400000 in
theorem k_X8_told0 {w : xW} {S : xS} {B : String → xS → Prop} {A : Int → xS → Prop} {a b : Int} {p g : Nat} (ea : a = (p : Int)) (eb : b = (g : Int)) (hp : p < 20) (hg : g < 18) (hq : A (S 31 0 (103 + 18 * p + g)) S) : Ki w mX8_told0 yX8_told0 0 0 [xp 30 0, xi a, xi b] S A B := by
  refine K.of rfl rfl rfl rfl (Nat.le_of_ble_eq_true rfl) rfl ?_
  refine xs_aload_0 eX8_told0_0 ?_
  refine xa_bipush eX8_told0_1 (by decide) ?_
  refine xa_bipush eX8_told0_3 (by decide) ?_
  refine xs_iload_1 eX8_told0_5 ?_
  refine xa_imul eX8_told0_6 ?_
  refine xa_iadd eX8_told0_7 ?_
  refine xs_iload_2 eX8_told0_8 ?_
  refine xa_iadd eX8_told0_9 ?_
  refine xbi_V10 (mi' := mX8_number) (y := yX8_number) eX8_told0_10 (xw_5 lRX8_65 wy_X8_number) rfl ⟨wd_X8_number, by decide, by decide⟩ (by decide) (fun _ => rfl) rfl (Nat.le_of_ble_eq_true rfl) rfl (k_X8_number (i := 103 + 18 * p + g) (by omega) (by omega) ?_)
  exact xa_iret eX8_told0_13 rfl ⟨_, rfl, hq⟩
set_option maxHeartbeats 400000 in
theorem k_X8_put {w : xW} {S : xS} {B : String → xS → Prop} {A : xS → Prop} {a b v : Int} {p g : Nat} (ea : a = (p : Int)) (eb : b = (g : Int)) (hp : p < 8) (hg : g < 11) (hv : xr v) (hq : A (up S 31 0 (15 + 11 * p + g) v)) : Kv w mX8_put yX8_put 0 0 [xp 30 0, xi a, xi b, xi v] S A B := by
  refine K.of rfl rfl rfl rfl (Nat.le_of_ble_eq_true rfl) rfl ?_
  refine xs_aload_0 eX8_put_0 ?_
  refine g_X8_0 eX8_put_1 lRX8_7 ?_
  refine xa_bipush eX8_put_4 (by decide) ?_
  refine xa_bipush eX8_put_6 (by decide) ?_
  refine xs_iload_1 eX8_put_8 ?_
  refine xa_imul eX8_put_9 ?_
  refine xa_iadd eX8_put_10 ?_
  refine xs_iload_2 eX8_put_11 ?_
  refine xa_iadd eX8_put_12 ?_
  refine xs_iload_3 eX8_put_13 ?_
  refine xa_i2l eX8_put_14 (by omega) ?_
  refine pa_31 eX8_put_15 (by omega) (by omega) ?_
  exact xa_vret eX8_put_16 rfl ⟨rfl, by rw [show ((15 : Int) + 11 * a + b).toNat = 15 + 11 * p + g by omega]; exact hq⟩
set_option maxHeartbeats 400000 in
theorem k_X8_keep {w : xW} {S : xS} {B : String → xS → Prop} {A : xS → Prop} {a b v : Int} {p g : Nat} (ea : a = (p : Int)) (eb : b = (g : Int)) (hp : p < 20) (hg : g < 18) (hv : xr v) (hq : A (up S 31 0 (103 + 18 * p + g) v)) : Kv w mX8_keep yX8_keep 0 0 [xp 30 0, xi a, xi b, xi v] S A B := by
  refine K.of rfl rfl rfl rfl (Nat.le_of_ble_eq_true rfl) rfl ?_
  refine xs_aload_0 eX8_keep_0 ?_
  refine g_X8_0 eX8_keep_1 lRX8_7 ?_
  refine xa_bipush eX8_keep_4 (by decide) ?_
  refine xa_bipush eX8_keep_6 (by decide) ?_
  refine xs_iload_1 eX8_keep_8 ?_
  refine xa_imul eX8_keep_9 ?_
  refine xa_iadd eX8_keep_10 ?_
  refine xs_iload_2 eX8_keep_11 ?_
  refine xa_iadd eX8_keep_12 ?_
  refine xs_iload_3 eX8_keep_13 ?_
  refine xa_i2l eX8_keep_14 (by omega) ?_
  refine pa_31 eX8_keep_15 (by omega) (by omega) ?_
  exact xa_vret eX8_keep_16 rfl ⟨rfl, by rw [show ((103 : Int) + 18 * a + b).toNat = 103 + 18 * p + g by omega]; exact hq⟩
set_option maxHeartbeats 400000 in
theorem k_X8_add {w : xW} {S : xS} {B : String → xS → Prop} {A : xS → Prop} {a b v : Int} {p g : Nat} (ea : a = (p : Int)) (eb : b = (g : Int)) (hp : p < 8) (hg : g < 11) (hv : xr v) (hr : x64 (S 31 0 (15 + 11 * p + g) + v)) (hq : A (up S 31 0 (15 + 11 * p + g) (S 31 0 (15 + 11 * p + g) + v))) : Kv w mX8_add yX8_add 0 0 [xp 30 0, xi a, xi b, xi v] S A B := by
  refine K.of rfl rfl rfl rfl (Nat.le_of_ble_eq_true rfl) rfl ?_
  refine xs_aload_0 eX8_add_0 ?_
  refine g_X8_0 eX8_add_1 lRX8_7 ?_
  refine xa_bipush eX8_add_4 (by decide) ?_
  refine xa_bipush eX8_add_6 (by decide) ?_
  refine xs_iload_1 eX8_add_8 ?_
  refine xa_imul eX8_add_9 ?_
  refine xa_iadd eX8_add_10 ?_
  refine xs_iload_2 eX8_add_11 ?_
  refine xa_iadd eX8_add_12 ?_
  refine xa_dup2 eX8_add_13 rfl rfl ?_
  refine gar_31 eX8_add_14 (by omega) (fun r14 => ?_)
  refine xs_iload_3 eX8_add_15 ?_
  refine xa_i2l eX8_add_16 (by omega) ?_
  refine xa_ladd eX8_add_17 ?_
  refine pa_31 eX8_add_18 (by omega) (by rw [show ((15 : Int) + 11 * a + b).toNat = 15 + 11 * p + g by omega]; exact hr) ?_
  exact xa_vret eX8_add_19 rfl ⟨rfl, by rw [show ((15 : Int) + 11 * a + b).toNat = 15 + 11 * p + g by omega]; exact hq⟩
set_option maxHeartbeats 400000 in
theorem k_X8_earn {w : xW} {S : xS} {B : String → xS → Prop} {A : xS → Prop} {a v : Int} {p : Nat} (ea : a = (p : Int)) (hp : p < 8) (hr : xr (S 31 0 (15 + 11 * p + 0) + v)) (hq : A (up S 31 0 (15 + 11 * p + 0) (xmin 1000000 (S 31 0 (15 + 11 * p + 0) + v)))) : Kv w mX8_earn yX8_earn 0 0 [xp 30 0, xi a, xi v] S A B := by
  refine K.of rfl rfl rfl rfl (Nat.le_of_ble_eq_true rfl) rfl ?_
  have hx := xmin_or 1000000 (S 31 0 (15 + 11 * p + 0) + v)
  refine xs_aload_0 eX8_earn_0 ?_
  refine xs_iload_1 eX8_earn_1 ?_
  refine xa_iconst eX8_earn_2 ?_
  refine xa_ldc (a := 1000000) eX8_earn_3 lRX8_69 (by decide) ?_
  refine xs_aload_0 eX8_earn_5 ?_
  refine xs_iload_1 eX8_earn_6 ?_
  refine xa_iconst eX8_earn_7 ?_
  refine xbi_V20 (mi' := mX8_of) (y := yX8_of) eX8_earn_8 (xw_5 lRX8_70 wy_X8_of) rfl ⟨wd_X8_of, by decide, by decide⟩ (by decide) (fun _ => rfl) rfl (Nat.le_of_ble_eq_true rfl) rfl (k_X8_of (p := p) (g := 0) ea rfl hp (by decide) ?_)
  refine xs_iload_2 eX8_earn_11 ?_
  refine xa_iadd eX8_earn_12 ?_
  refine xa_min eX8_earn_13 lRX8_74 lm_min1 li_Math lm_min2 (by decide) (Nat.le_of_ble_eq_true rfl) rfl (by omega) (by omega) ?_
  refine xbv_V30 (mi' := mX8_put) (y := yX8_put) eX8_earn_16 (xw_5 lRX8_79 wy_X8_put) rfl ⟨wd_X8_put, by decide, by decide⟩ (by decide) (fun _ => rfl) rfl (Nat.le_of_ble_eq_true rfl) rfl (k_X8_put (p := p) (g := 0) ea rfl hp (by decide) (by omega) ?_)
  exact xa_vret eX8_earn_19 rfl ⟨rfl, hq⟩
set_option maxHeartbeats 400000 in
theorem k_X8_burden {w : xW} {S : xS} {B : String → xS → Prop} {A : xS → Prop} {a v : Int} {p : Nat} (ea : a = (p : Int)) (hp : p < 8) (hr : xr (S 31 0 (15 + 11 * p + 1) + v)) (hq : A (up S 31 0 (15 + 11 * p + 1) (xmin 9999 (S 31 0 (15 + 11 * p + 1) + v)))) : Kv w mX8_burden yX8_burden 0 0 [xp 30 0, xi a, xi v] S A B := by
  refine K.of rfl rfl rfl rfl (Nat.le_of_ble_eq_true rfl) rfl ?_
  have hx := xmin_or 9999 (S 31 0 (15 + 11 * p + 1) + v)
  refine xs_aload_0 eX8_burden_0 ?_
  refine xs_iload_1 eX8_burden_1 ?_
  refine xa_iconst eX8_burden_2 ?_
  refine xa_sipush eX8_burden_3 (by decide) ?_
  refine xs_aload_0 eX8_burden_6 ?_
  refine xs_iload_1 eX8_burden_7 ?_
  refine xa_iconst eX8_burden_8 ?_
  refine xbi_V20 (mi' := mX8_of) (y := yX8_of) eX8_burden_9 (xw_5 lRX8_70 wy_X8_of) rfl ⟨wd_X8_of, by decide, by decide⟩ (by decide) (fun _ => rfl) rfl (Nat.le_of_ble_eq_true rfl) rfl (k_X8_of (p := p) (g := 1) ea rfl hp (by decide) ?_)
  refine xs_iload_2 eX8_burden_12 ?_
  refine xa_iadd eX8_burden_13 ?_
  refine xa_min eX8_burden_14 lRX8_74 lm_min1 li_Math lm_min2 (by decide) (Nat.le_of_ble_eq_true rfl) rfl (by omega) (by omega) ?_
  refine xbv_V30 (mi' := mX8_put) (y := yX8_put) eX8_burden_17 (xw_5 lRX8_79 wy_X8_put) rfl ⟨wd_X8_put, by decide, by decide⟩ (by decide) (fun _ => rfl) rfl (Nat.le_of_ble_eq_true rfl) rfl (k_X8_put (p := p) (g := 1) ea rfl hp (by decide) (by omega) ?_)
  exact xa_vret eX8_burden_20 rfl ⟨rfl, hq⟩
set_option maxHeartbeats 400000 in
theorem k_X8_note {w : xW} {S : xS} {B : String → xS → Prop} {A : xS → Prop} {a b c : Int} {p g q : Nat} (ea : a = (p : Int)) (eb : b = (g : Int)) (ec : c = (q : Int)) (hp : p < 20) (hg : g < 18) (hc : q < 6) (h1 : x64 (S 31 0 (103 + 18 * p + g) + 1)) (h2 : x64 (S 31 0 (6 + q) + 1)) (hq : A (up (up S 31 0 (103 + 18 * p + g) (S 31 0 (103 + 18 * p + g) + 1)) 31 0 (6 + q) (S 31 0 (6 + q) + 1))) : Kv w mX8_note yX8_note 0 0 [xp 30 0, xi a, xi b, xi c] S A B := by
  refine K.of rfl rfl rfl rfl (Nat.le_of_ble_eq_true rfl) rfl ?_
  refine xs_aload_0 eX8_note_0 ?_
  refine g_X8_0 eX8_note_1 lRX8_7 ?_
  refine xa_bipush eX8_note_4 (by decide) ?_
  refine xa_bipush eX8_note_6 (by decide) ?_
  refine xs_iload_1 eX8_note_8 ?_
  refine xa_imul eX8_note_9 ?_
  refine xa_iadd eX8_note_10 ?_
  refine xs_iload_2 eX8_note_11 ?_
  refine xa_iadd eX8_note_12 ?_
  refine xa_dup2 eX8_note_13 rfl rfl ?_
  refine gar_31 eX8_note_14 (by omega) (fun r14 => ?_)
  refine xa_lconst1 eX8_note_15 ?_
  refine xa_ladd eX8_note_16 ?_
  refine pa_31 eX8_note_17 (by omega) (by rw [show ((103 : Int) + 18 * a + b).toNat = 103 + 18 * p + g by omega]; exact h1) ?_
  refine xs_aload_0 eX8_note_18 ?_
  refine g_X8_0 eX8_note_19 lRX8_7 ?_
  refine xa_bipush eX8_note_22 (by decide) ?_
  refine xs_iload_3 eX8_note_24 ?_
  refine xa_iadd eX8_note_25 ?_
  refine xa_dup2 eX8_note_26 rfl rfl ?_
  refine gar_31 eX8_note_27 (by omega) (fun r27 => ?_)
  refine xa_lconst1 eX8_note_28 ?_
  refine xa_ladd eX8_note_29 ?_
  refine pa_31 eX8_note_30 (by omega) (by rw [show ((103 : Int) + 18 * a + b).toNat = 103 + 18 * p + g by omega, show ((6 : Int) + c).toNat = 6 + q by omega, up_f (by omega)]; exact h2) ?_
  exact xa_vret eX8_note_31 rfl ⟨rfl, by rw [show ((103 : Int) + 18 * a + b).toNat = 103 + 18 * p + g by omega, show ((6 : Int) + c).toNat = 6 + q by omega, up_f (show 6 + q ≠ 103 + 18 * p + g by omega)]; exact hq⟩
set_option maxHeartbeats 400000 in
theorem k_X8_isProcess {w : xW} {S : xS} {B : String → xS → Prop} {A : Int → xS → Prop} {a : Int} (ha : xr a) (h9 : xr (S 31 0 1)) (hq : A (b2i (0 ≤ a ∧ a ≤ S 31 0 1 - 1)) S) : Ki w mX8_isProcess yX8_isProcess 0 0 [xp 30 0, xi a] S A B := by
  refine K.of rfl rfl rfl rfl (Nat.le_of_ble_eq_true rfl) rfl ?_
  refine xs_iload_1 eX8_isProcess_0 ?_
  refine xa_i2l eX8_isProcess_1 (by omega) ?_
  refine xa_lconst0 eX8_isProcess_2 ?_
  refine xs_aload_0 eX8_isProcess_3 ?_
  refine g_X8_0 eX8_isProcess_4 lRX8_7 ?_
  refine xa_iconst eX8_isProcess_7 ?_
  refine gar_31 eX8_isProcess_8 (by decide) (fun r8 => ?_)
  try rw [show (1 : Int).toNat = 1 from rfl] at r8 ⊢
  refine xa_lconst1 eX8_isProcess_9 ?_
  refine xa_lsub eX8_isProcess_10 ?_
  refine xbi_S30 (mi' := mX8_isBetween) (y := yX8_isBetween) eX8_isProcess_11 (xw_4 lRX8_61 wy_X8_isBetween) rfl rfl ⟨wd_X8_isBetween, by decide, by decide⟩ (Nat.le_of_ble_eq_true rfl) rfl (k_X8_isBetween (by omega) (by decide) (by omega) ?_)
  exact xa_zret eX8_isProcess_14 rfl (b2i_01 _) ⟨_, rfl, hq⟩
set_option maxHeartbeats 400000 in
theorem k_X8_isPromise {w : xW} {S : xS} {B : String → xS → Prop} {A : Int → xS → Prop} {a : Int} (ha : xr a) (h9 : xr (S 31 0 2)) (hq : A (b2i (0 ≤ a ∧ a ≤ S 31 0 2 - 1)) S) : Ki w mX8_isPromise yX8_isPromise 0 0 [xp 30 0, xi a] S A B := by
  refine K.of rfl rfl rfl rfl (Nat.le_of_ble_eq_true rfl) rfl ?_
  refine xs_iload_1 eX8_isPromise_0 ?_
  refine xa_i2l eX8_isPromise_1 (by omega) ?_
  refine xa_lconst0 eX8_isPromise_2 ?_
  refine xs_aload_0 eX8_isPromise_3 ?_
  refine g_X8_0 eX8_isPromise_4 lRX8_7 ?_
  refine xa_iconst eX8_isPromise_7 ?_
  refine gar_31 eX8_isPromise_8 (by decide) (fun r8 => ?_)
  try rw [show (2 : Int).toNat = 2 from rfl] at r8 ⊢
  refine xa_lconst1 eX8_isPromise_9 ?_
  refine xa_lsub eX8_isPromise_10 ?_
  refine xbi_S30 (mi' := mX8_isBetween) (y := yX8_isBetween) eX8_isPromise_11 (xw_4 lRX8_61 wy_X8_isBetween) rfl rfl ⟨wd_X8_isBetween, by decide, by decide⟩ (Nat.le_of_ble_eq_true rfl) rfl (k_X8_isBetween (by omega) (by decide) (by omega) ?_)
  exact xa_zret eX8_isPromise_14 rfl (b2i_01 _) ⟨_, rfl, hq⟩
set_option maxHeartbeats 400000 in
theorem k_X8_isRefused {w : xW} {S : xS} {B : String → xS → Prop} {A : Int → xS → Prop} {a : Int} {P : Prop} [Decidable P] (ha : xr a) (h9 : xr (S 31 0 1)) (h1 : ¬ (0 ≤ a ∧ a ≤ S 31 0 1 - 1) → A 1 (up S 30 0 4 1)) (h2 : 0 ≤ a ∧ a ≤ S 31 0 1 - 1 → ¬ P → A 1 (up S 30 0 4 2)) (h3 : 0 ≤ a ∧ a ≤ S 31 0 1 - 1 → P → A 0 (up S 30 0 4 0)) : Ki w mX8_isRefused yX8_isRefused 0 0 [xp 30 0, xi a, xi (b2i P)] S A B := by
  refine K.of rfl rfl rfl rfl (Nat.le_of_ble_eq_true rfl) rfl ?_
  refine xs_aload_0 eX8_isRefused_0 ?_
  refine xs_aload_0 eX8_isRefused_1 ?_
  refine xs_iload_1 eX8_isRefused_2 ?_
  refine xbi_V10 (mi' := mX8_isProcess) (y := yX8_isProcess) eX8_isRefused_3 (xw_5 lRX8_98 wy_X8_isProcess) rfl ⟨wd_X8_isProcess, by decide, by decide⟩ (by decide) (fun _ => rfl) rfl (Nat.le_of_ble_eq_true rfl) rfl (k_X8_isProcess ha h9 ?_)
  refine xa_ifb_ne (tgt := 13) eX8_isRefused_6 (by decide) (fun c6 => ?_) (fun c6 => ?_)
  · refine xs_iload_2 eX8_isRefused_13 ?_
    refine xa_ifb_ne (tgt := 21) eX8_isRefused_14 (by decide) (fun c14 => ?_) (fun c14 => ?_)
    · refine xa_iconst eX8_isRefused_21 ?_
      refine p_X8_4 eX8_isRefused_22 lRX8_52 (by omega) ?_
      refine xs_aload_0 eX8_isRefused_25 ?_
      refine gr_X8_4 eX8_isRefused_26 lRX8_52 (fun r26 => ?_)
      try simp (decide := true) only [up_app, if_true, if_false, and_true, true_and, and_false, false_and] at r26 ⊢
      refine xa_if_eq (tgt := 36) eX8_isRefused_29 (by decide) (by decide) (fun c29 => ?_) (fun c29 => ?_)
      · refine xa_iconst eX8_isRefused_36 ?_
        exact xa_zret eX8_isRefused_37 rfl (by decide) ⟨_, rfl, by first | exact h1 (by omega) | exact h2 (by omega) c14 | exact h3 (by omega) c14 | exact absurd c29 (by decide)⟩
      · refine xa_iconst eX8_isRefused_32 ?_
        refine xa_goto (tgt := 37) eX8_isRefused_33 (by decide) ?_
        exact xa_zret eX8_isRefused_37 rfl (by decide) ⟨_, rfl, by first | exact h1 (by omega) | exact h2 (by omega) c14 | exact h3 (by omega) c14 | exact absurd c29 (by decide)⟩
    · refine xa_iconst eX8_isRefused_17 ?_
      refine xa_goto (tgt := 22) eX8_isRefused_18 (by decide) ?_
      refine p_X8_4 eX8_isRefused_22 lRX8_52 (by omega) ?_
      refine xs_aload_0 eX8_isRefused_25 ?_
      refine gr_X8_4 eX8_isRefused_26 lRX8_52 (fun r26 => ?_)
      try simp (decide := true) only [up_app, if_true, if_false, and_true, true_and, and_false, false_and] at r26 ⊢
      refine xa_if_eq (tgt := 36) eX8_isRefused_29 (by decide) (by decide) (fun c29 => ?_) (fun c29 => ?_)
      · refine xa_iconst eX8_isRefused_36 ?_
        exact xa_zret eX8_isRefused_37 rfl (by decide) ⟨_, rfl, by first | exact h1 (by omega) | exact h2 (by omega) c14 | exact h3 (by omega) c14 | exact absurd c29 (by decide)⟩
      · refine xa_iconst eX8_isRefused_32 ?_
        refine xa_goto (tgt := 37) eX8_isRefused_33 (by decide) ?_
        exact xa_zret eX8_isRefused_37 rfl (by decide) ⟨_, rfl, by first | exact h1 (by omega) | exact h2 (by omega) c14 | exact h3 (by omega) c14 | exact absurd c29 (by decide)⟩
  · refine xa_iconst eX8_isRefused_9 ?_
    refine xa_goto (tgt := 22) eX8_isRefused_10 (by decide) ?_
    refine p_X8_4 eX8_isRefused_22 lRX8_52 (by omega) ?_
    refine xs_aload_0 eX8_isRefused_25 ?_
    refine gr_X8_4 eX8_isRefused_26 lRX8_52 (fun r26 => ?_)
    try simp (decide := true) only [up_app, if_true, if_false, and_true, true_and, and_false, false_and] at r26 ⊢
    refine xa_if_eq (tgt := 36) eX8_isRefused_29 (by decide) (by decide) (fun c29 => ?_) (fun c29 => ?_)
    · refine xa_iconst eX8_isRefused_36 ?_
      exact xa_zret eX8_isRefused_37 rfl (by decide) ⟨_, rfl, by first | exact h1 (by omega) | exact h2 (by omega) c14 | exact h3 (by omega) c14 | exact absurd c29 (by decide)⟩
    · refine xa_iconst eX8_isRefused_32 ?_
      refine xa_goto (tgt := 37) eX8_isRefused_33 (by decide) ?_
      exact xa_zret eX8_isRefused_37 rfl (by decide) ⟨_, rfl, by first | exact h1 (by omega) | exact h2 (by omega) c14 | exact h3 (by omega) c14 | exact absurd c29 (by decide)⟩
set_option maxHeartbeats 400000 in
theorem k_X8_hasEnded {w : xW} {S : xS} {B : String → xS → Prop} {A : Int → xS → Prop} {a : Int} {j : Nat} (ea : a = (j : Int)) (hj : j < 20) (h9 : xr (S 31 0 (103 + 18 * j + 0))) (hq : A (b2i (S 31 0 (103 + 18 * j + 0) = 1)) S) : Ki w mX8_hasEnded yX8_hasEnded 0 0 [xp 30 0, xi a] S A B := by
  refine K.of rfl rfl rfl rfl (Nat.le_of_ble_eq_true rfl) rfl ?_
  refine xs_aload_0 eX8_hasEnded_0 ?_
  refine xs_iload_1 eX8_hasEnded_1 ?_
  refine xa_iconst eX8_hasEnded_2 ?_
  refine xbi_V20 (mi' := mX8_told0) (y := yX8_told0) eX8_hasEnded_3 (xw_5 lRX8_122 wy_X8_told0) rfl ⟨wd_X8_told0, by decide, by decide⟩ (by decide) (fun _ => rfl) rfl (Nat.le_of_ble_eq_true rfl) rfl (k_X8_told0 (p := j) (g := 0) ea rfl hj (by decide) ?_)
  refine xa_iconst eX8_hasEnded_6 ?_
  refine xa_icmp_ne (tgt := 14) eX8_hasEnded_7 (by decide) (by omega) (by omega) (fun c7 => ?_) (fun c7 => ?_)
  · refine xa_iconst eX8_hasEnded_14 ?_
    exact xa_zret eX8_hasEnded_15 rfl (by omega) ⟨_, rfl, by first | (rw [b2i, if_pos (by omega)] at hq; exact hq) | (rw [b2i, if_neg (by omega)] at hq; exact hq)⟩
  · refine xa_iconst eX8_hasEnded_10 ?_
    refine xa_goto (tgt := 15) eX8_hasEnded_11 (by decide) ?_
    exact xa_zret eX8_hasEnded_15 rfl (by omega) ⟨_, rfl, by first | (rw [b2i, if_pos (by omega)] at hq; exact hq) | (rw [b2i, if_neg (by omega)] at hq; exact hq)⟩
set_option maxHeartbeats 400000 in
theorem k_X8_hasJob {w : xW} {S : xS} {B : String → xS → Prop} {A : Int → xS → Prop} {a : Int} {j : Nat} (ea : a = (j : Int)) (hj : j < 20) (h9 : xr (S 31 0 (103 + 18 * j + 17))) (h7 : xr (S 31 0 (103 + 18 * j + 7))) (hq : A (b2i (S 31 0 (103 + 18 * j + 17) = 1 ∧ S 31 0 0 < S 31 0 (103 + 18 * j + 7))) S) : Ki w mX8_hasJob yX8_hasJob 0 0 [xp 30 0, xi a] S A B := by
  refine K.of rfl rfl rfl rfl (Nat.le_of_ble_eq_true rfl) rfl ?_
  refine xs_aload_0 eX8_hasJob_0 ?_
  refine xs_iload_1 eX8_hasJob_1 ?_
  refine xa_bipush eX8_hasJob_2 (by decide) ?_
  refine xbi_V20 (mi' := mX8_told0) (y := yX8_told0) eX8_hasJob_4 (xw_5 lRX8_122 wy_X8_told0) rfl ⟨wd_X8_told0, by decide, by decide⟩ (by decide) (fun _ => rfl) rfl (Nat.le_of_ble_eq_true rfl) rfl (k_X8_told0 (p := j) (g := 17) ea rfl hj (by decide) ?_)
  refine xa_iconst eX8_hasJob_7 ?_
  refine xa_icmp_ne (tgt := 33) eX8_hasJob_8 (by decide) (by omega) (by omega) (fun c8 => ?_) (fun c8 => ?_)
  · refine xa_iconst eX8_hasJob_33 ?_
    exact xa_zret eX8_hasJob_34 rfl (by omega) ⟨_, rfl, by first | (rw [b2i, if_pos (by omega)] at hq; exact hq) | (rw [b2i, if_neg (by omega)] at hq; exact hq)⟩
  · refine xs_aload_0 eX8_hasJob_11 ?_
    refine g_X8_0 eX8_hasJob_12 lRX8_7 ?_
    refine xa_iconst eX8_hasJob_15 ?_
    refine gar_31 eX8_hasJob_16 (by decide) (fun r16 => ?_)
    try rw [show (0 : Int).toNat = 0 from rfl] at r16 ⊢
    refine xs_aload_0 eX8_hasJob_17 ?_
    refine xs_iload_1 eX8_hasJob_18 ?_
    refine xa_bipush eX8_hasJob_19 (by decide) ?_
    refine xbi_V20 (mi' := mX8_told0) (y := yX8_told0) eX8_hasJob_21 (xw_5 lRX8_122 wy_X8_told0) rfl ⟨wd_X8_told0, by decide, by decide⟩ (by decide) (fun _ => rfl) rfl (Nat.le_of_ble_eq_true rfl) rfl (k_X8_told0 (p := j) (g := 7) ea rfl hj (by decide) ?_)
    refine xa_i2l eX8_hasJob_24 (by omega) ?_
    refine xa_lcmp eX8_hasJob_25 (by omega) (by omega) ?_
    refine xa_ifc_ge (tgt := 33) eX8_hasJob_26 (by decide) (fun c26 => ?_) (fun c26 => ?_)
    · refine xa_iconst eX8_hasJob_33 ?_
      exact xa_zret eX8_hasJob_34 rfl (by omega) ⟨_, rfl, by first | (rw [b2i, if_pos (by omega)] at hq; exact hq) | (rw [b2i, if_neg (by omega)] at hq; exact hq)⟩
    · refine xa_iconst eX8_hasJob_29 ?_
      refine xa_goto (tgt := 34) eX8_hasJob_30 (by decide) ?_
      exact xa_zret eX8_hasJob_34 rfl (by omega) ⟨_, rfl, by first | (rw [b2i, if_pos (by omega)] at hq; exact hq) | (rw [b2i, if_neg (by omega)] at hq; exact hq)⟩
set_option maxHeartbeats 400000 in
theorem k_X8_isPeriod {w : xW} {S : xS} {B : String → xS → Prop} {A : Int → xS → Prop} {a : Int} (ha : xr a) (hq : A (b2i (perP a)) S) : Ki w mX8_isPeriod yX8_isPeriod 0 0 [xi a] S A B := by
  refine K.of rfl rfl rfl rfl (Nat.le_of_ble_eq_true rfl) rfl ?_
  refine xs_iload_0 eX8_isPeriod_0 ?_
  refine xa_i2l eX8_isPeriod_1 (by omega) ?_
  refine xa_ldc2 (a := 2) eX8_isPeriod_2 lRX8_130 (by decide) ?_
  refine xa_ldc2 (a := 120) eX8_isPeriod_5 lRX8_132 (by decide) ?_
  refine xbi_S30 (mi' := mX8_isBetween) (y := yX8_isBetween) eX8_isPeriod_8 (xw_4 lRX8_61 wy_X8_isBetween) rfl rfl ⟨wd_X8_isBetween, by decide, by decide⟩ (Nat.le_of_ble_eq_true rfl) rfl (k_X8_isBetween (by omega) (by decide) (by decide) ?_)
  refine xa_ifb_eq (tgt := 25) eX8_isPeriod_11 (by decide) (fun c11 => ?_) (fun c11 => ?_)
  · refine xa_iconst eX8_isPeriod_25 ?_
    exact xa_zret eX8_isPeriod_26 rfl (by omega) ⟨_, rfl, by first | (rw [b2i, if_pos ⟨c11.1, c11.2, c18⟩] at hq; exact hq) | (rw [b2i, if_neg (fun z => c18 z.2.2)] at hq; exact hq) | (rw [b2i, if_neg (fun z => c11 ⟨z.1, z.2.1⟩)] at hq; exact hq)⟩
  · refine xa_bipush eX8_isPeriod_14 (by decide) ?_
    refine xs_iload_0 eX8_isPeriod_16 ?_
    refine xa_irem eX8_isPeriod_17 (by decide) (by omega) (by omega) ?_
    refine xa_if_ne (tgt := 25) eX8_isPeriod_18 (by decide) (by have h1 := Int.tmod_nonneg a (show (0 : Int) ≤ 120 by decide); have h2 := Int.tmod_lt_of_pos 120 (show 0 < a by omega); omega) (fun c18 => ?_) (fun c18 => ?_)
    · refine xa_iconst eX8_isPeriod_25 ?_
      exact xa_zret eX8_isPeriod_26 rfl (by omega) ⟨_, rfl, by first | (rw [b2i, if_pos ⟨c11.1, c11.2, c18⟩] at hq; exact hq) | (rw [b2i, if_neg (fun z => c18 z.2.2)] at hq; exact hq) | (rw [b2i, if_neg (fun z => c11 ⟨z.1, z.2.1⟩)] at hq; exact hq)⟩
    · refine xa_iconst eX8_isPeriod_21 ?_
      refine xa_goto (tgt := 26) eX8_isPeriod_22 (by decide) ?_
      exact xa_zret eX8_isPeriod_26 rfl (by omega) ⟨_, rfl, by first | (rw [b2i, if_pos ⟨c11.1, c11.2, c18⟩] at hq; exact hq) | (rw [b2i, if_neg (fun z => c18 z.2.2)] at hq; exact hq) | (rw [b2i, if_neg (fun z => c11 ⟨z.1, z.2.1⟩)] at hq; exact hq)⟩
set_option maxHeartbeats 400000 in
theorem k_X8_isWish {w : xW} {S : xS} {B : String → xS → Prop} {A : Int → xS → Prop} {p b d : Int} (hp : xr p) (hb : xr b) (hd : xr d) (hq : A (b2i (wshP p b d)) S) : Ki w mX8_isWish yX8_isWish 0 0 [xi p, xi b, xi d] S A B := by
  refine K.of rfl rfl rfl rfl (Nat.le_of_ble_eq_true rfl) rfl ?_
  refine xs_iload_0 eX8_isWish_0 ?_
  refine xbi_S10 (mi' := mX8_isPeriod) (y := yX8_isPeriod) eX8_isWish_1 (xw_4 lRX8_134 wy_X8_isPeriod) rfl rfl ⟨wd_X8_isPeriod, by decide, by decide⟩ (Nat.le_of_ble_eq_true rfl) rfl (k_X8_isPeriod hp ?_)
  refine xa_ifb_eq (tgt := 35) eX8_isWish_4 (by decide) (fun c4 => ?_) (fun c4 => ?_)
  · refine xa_iconst eX8_isWish_35 ?_
    exact xa_zret eX8_isWish_36 rfl (by omega) ⟨_, rfl, by first | (rw [b2i, if_pos ⟨c4, c16, c28⟩] at hq; exact hq) | (rw [b2i, if_neg (fun z => c28 z.2.2)] at hq; exact hq) | (rw [b2i, if_neg (fun z => c16 z.2.1)] at hq; exact hq) | (rw [b2i, if_neg (fun z => c4 z.1)] at hq; exact hq)⟩
  · refine xs_iload_1 eX8_isWish_7 ?_
    refine xa_i2l eX8_isWish_8 (by omega) ?_
    refine xa_lconst1 eX8_isWish_9 ?_
    refine xa_ldc2 (a := 120) eX8_isWish_10 lRX8_132 (by decide) ?_
    refine xbi_S30 (mi' := mX8_isBetween) (y := yX8_isBetween) eX8_isWish_13 (xw_4 lRX8_61 wy_X8_isBetween) rfl rfl ⟨wd_X8_isBetween, by decide, by decide⟩ (Nat.le_of_ble_eq_true rfl) rfl (k_X8_isBetween (by omega) (by decide) (by decide) ?_)
    refine xa_ifb_eq (tgt := 35) eX8_isWish_16 (by decide) (fun c16 => ?_) (fun c16 => ?_)
    · refine xa_iconst eX8_isWish_35 ?_
      exact xa_zret eX8_isWish_36 rfl (by omega) ⟨_, rfl, by first | (rw [b2i, if_pos ⟨c4, c16, c28⟩] at hq; exact hq) | (rw [b2i, if_neg (fun z => c28 z.2.2)] at hq; exact hq) | (rw [b2i, if_neg (fun z => c16 z.2.1)] at hq; exact hq) | (rw [b2i, if_neg (fun z => c4 z.1)] at hq; exact hq)⟩
    · refine xs_iload_2 eX8_isWish_19 ?_
      refine xa_i2l eX8_isWish_20 (by omega) ?_
      refine xs_iload_1 eX8_isWish_21 ?_
      refine xa_i2l eX8_isWish_22 (by omega) ?_
      refine xs_iload_0 eX8_isWish_23 ?_
      refine xa_i2l eX8_isWish_24 (by omega) ?_
      refine xbi_S30 (mi' := mX8_isBetween) (y := yX8_isBetween) eX8_isWish_25 (xw_4 lRX8_61 wy_X8_isBetween) rfl rfl ⟨wd_X8_isBetween, by decide, by decide⟩ (Nat.le_of_ble_eq_true rfl) rfl (k_X8_isBetween (by omega) (by omega) (by omega) ?_)
      refine xa_ifb_eq (tgt := 35) eX8_isWish_28 (by decide) (fun c28 => ?_) (fun c28 => ?_)
      · refine xa_iconst eX8_isWish_35 ?_
        exact xa_zret eX8_isWish_36 rfl (by omega) ⟨_, rfl, by first | (rw [b2i, if_pos ⟨c4, c16, c28⟩] at hq; exact hq) | (rw [b2i, if_neg (fun z => c28 z.2.2)] at hq; exact hq) | (rw [b2i, if_neg (fun z => c16 z.2.1)] at hq; exact hq) | (rw [b2i, if_neg (fun z => c4 z.1)] at hq; exact hq)⟩
      · refine xa_iconst eX8_isWish_31 ?_
        refine xa_goto (tgt := 36) eX8_isWish_32 (by decide) ?_
        exact xa_zret eX8_isWish_36 rfl (by omega) ⟨_, rfl, by first | (rw [b2i, if_pos ⟨c4, c16, c28⟩] at hq; exact hq) | (rw [b2i, if_neg (fun z => c28 z.2.2)] at hq; exact hq) | (rw [b2i, if_neg (fun z => c16 z.2.1)] at hq; exact hq) | (rw [b2i, if_neg (fun z => c4 z.1)] at hq; exact hq)⟩
def cpA (x a z b i : Nat) (S : xS) : xS := fun k j f => if k = z ∧ j = 0 ∧ b ≤ f ∧ f < b + i then S x 0 (a + (f - b)) else S k j f
theorem cpA_0 (x a z b : Nat) (S : xS) : cpA x a z b 0 S = S := by funext k j f; unfold cpA; rw [if_neg (by omega)]
theorem cpA_s {x a z b i : Nat} {S : xS} (h : x ≠ z) : cpA x a z b (i + 1) S = up (cpA x a z b i S) z 0 (b + i) (cpA x a z b i S x 0 (a + i)) := by
  funext k j f
  rw [up_app]
  unfold cpA
  by_cases c : k = z ∧ j = 0 ∧ f = b + i
  · obtain ⟨rfl, rfl, rfl⟩ := c
    rw [if_pos ⟨rfl, rfl, by omega, by omega⟩, if_pos ⟨rfl, rfl, rfl⟩, if_neg (by omega), Nat.add_sub_cancel_left]
  · rw [if_neg c]
    by_cases c2 : k = z ∧ j = 0 ∧ b ≤ f ∧ f < b + i
    · rw [if_pos c2, if_pos (by omega)]
    · rw [if_neg c2, if_neg (by omega)]
theorem cpA_o {x a z b i : Nat} {S : xS} {k : Nat} (h : k ≠ z) : cpA x a z b i S k = S k := by funext j f; unfold cpA; rw [if_neg (by omega)]
set_option maxHeartbeats 400000 in
theorem k_X8_copy_31_32 {w : xW} {S : xS} {B : String → xS → Prop} {A : xS → Prop} (hq : A (cpA 31 0 32 0 527 S)) : Kv w mX8_copy yX8_copy 0 0 [xp 31 0, xi 0, xp 32 0, xi 0] S A B := by
  refine K.of rfl rfl rfl rfl (Nat.le_of_ble_eq_true rfl) rfl ?_
  have lp : ∀ i : Nat, i ≤ 527 →  X w mX8_copy (xTG w (fun v S' => v = none ∧ A S') B) 0 0 3 [xp 31 0, xi 0, xp 32 0, xi 0, xi (i : Int)] [] (cpA 31 0 32 0 i S) := by
    refine nloop (527) (fun i hi ih  => ?_)
    refine xs_iload_4 eX8_copy_3 ?_
    refine xa_sipush eX8_copy_5 (by decide) ?_
    refine xa_icmp_ge (tgt := 29) eX8_copy_8 (by decide) (by omega) (by omega) (fun c8 => ?_) (fun c8 => ?_)
    · exact xa_vret eX8_copy_29 rfl ⟨rfl, by rw [show i = 527 by omega]; exact hq⟩
    · refine xs_aload_2 eX8_copy_11 ?_
      refine xs_iload_3 eX8_copy_12 ?_
      refine xs_iload_4 eX8_copy_13 ?_
      refine xa_iadd eX8_copy_15 ?_
      refine xs_aload_0 eX8_copy_16 ?_
      refine xs_iload_1 eX8_copy_17 ?_
      refine xs_iload_4 eX8_copy_18 ?_
      refine xa_iadd eX8_copy_20 ?_
      refine gar_31 eX8_copy_21 (by omega) (fun r21 => ?_)
      refine pa_32 eX8_copy_22 (by omega) (by omega) ?_
      refine xs_iinc_4 eX8_copy_23 rfl ?_
      refine xa_goto (tgt := 3) eX8_copy_26 (by decide) ?_
      have h9 := ih (i + 1) (by omega) (by omega)
      rw [cpA_s (by decide)] at h9
      rw [show ((0 : Int) + (i : Int)).toNat = 0 + i by omega]
      exact h9
  refine xa_iconst eX8_copy_0 ?_
  refine xs_istore_4 eX8_copy_1 rfl ?_
  have h9 := lp 0 (by omega)
  rw [cpA_0] at h9
  exact h9
set_option maxHeartbeats 400000 in
theorem k_X8_copy_32_31 {w : xW} {S : xS} {B : String → xS → Prop} {A : xS → Prop} (hq : A (cpA 32 0 31 0 527 S)) : Kv w mX8_copy yX8_copy 0 0 [xp 32 0, xi 0, xp 31 0, xi 0] S A B := by
  refine K.of rfl rfl rfl rfl (Nat.le_of_ble_eq_true rfl) rfl ?_
  have lp : ∀ i : Nat, i ≤ 527 →  X w mX8_copy (xTG w (fun v S' => v = none ∧ A S') B) 0 0 3 [xp 32 0, xi 0, xp 31 0, xi 0, xi (i : Int)] [] (cpA 32 0 31 0 i S) := by
    refine nloop (527) (fun i hi ih  => ?_)
    refine xs_iload_4 eX8_copy_3 ?_
    refine xa_sipush eX8_copy_5 (by decide) ?_
    refine xa_icmp_ge (tgt := 29) eX8_copy_8 (by decide) (by omega) (by omega) (fun c8 => ?_) (fun c8 => ?_)
    · exact xa_vret eX8_copy_29 rfl ⟨rfl, by rw [show i = 527 by omega]; exact hq⟩
    · refine xs_aload_2 eX8_copy_11 ?_
      refine xs_iload_3 eX8_copy_12 ?_
      refine xs_iload_4 eX8_copy_13 ?_
      refine xa_iadd eX8_copy_15 ?_
      refine xs_aload_0 eX8_copy_16 ?_
      refine xs_iload_1 eX8_copy_17 ?_
      refine xs_iload_4 eX8_copy_18 ?_
      refine xa_iadd eX8_copy_20 ?_
      refine gar_32 eX8_copy_21 (by omega) (fun r21 => ?_)
      refine pa_31 eX8_copy_22 (by omega) (by omega) ?_
      refine xs_iinc_4 eX8_copy_23 rfl ?_
      refine xa_goto (tgt := 3) eX8_copy_26 (by decide) ?_
      have h9 := ih (i + 1) (by omega) (by omega)
      rw [cpA_s (by decide)] at h9
      rw [show ((0 : Int) + (i : Int)).toNat = 0 + i by omega]
      exact h9
  refine xa_iconst eX8_copy_0 ?_
  refine xs_istore_4 eX8_copy_1 rfl ?_
  have h9 := lp 0 (by omega)
  rw [cpA_0] at h9
  exact h9
set_option maxHeartbeats 400000 in
theorem k_X8_copy_31_33 {w : xW} {S : xS} {B : String → xS → Prop} {A : xS → Prop} {b : Nat} (hl : b ≤ 527) (hq : A (cpA 31 0 33 b 527 S)) : Kv w mX8_copy yX8_copy 0 0 [xp 31 0, xi 0, xp 33 0, xi (b : Int)] S A B := by
  refine K.of rfl rfl rfl rfl (Nat.le_of_ble_eq_true rfl) rfl ?_
  have lp : ∀ i : Nat, i ≤ 527 →  X w mX8_copy (xTG w (fun v S' => v = none ∧ A S') B) 0 0 3 [xp 31 0, xi 0, xp 33 0, xi (b : Int), xi (i : Int)] [] (cpA 31 0 33 b i S) := by
    refine nloop (527) (fun i hi ih  => ?_)
    refine xs_iload_4 eX8_copy_3 ?_
    refine xa_sipush eX8_copy_5 (by decide) ?_
    refine xa_icmp_ge (tgt := 29) eX8_copy_8 (by decide) (by omega) (by omega) (fun c8 => ?_) (fun c8 => ?_)
    · exact xa_vret eX8_copy_29 rfl ⟨rfl, by rw [show i = 527 by omega]; exact hq⟩
    · refine xs_aload_2 eX8_copy_11 ?_
      refine xs_iload_3 eX8_copy_12 ?_
      refine xs_iload_4 eX8_copy_13 ?_
      refine xa_iadd eX8_copy_15 ?_
      refine xs_aload_0 eX8_copy_16 ?_
      refine xs_iload_1 eX8_copy_17 ?_
      refine xs_iload_4 eX8_copy_18 ?_
      refine xa_iadd eX8_copy_20 ?_
      refine gar_31 eX8_copy_21 (by omega) (fun r21 => ?_)
      refine pa_33 eX8_copy_22 (by omega) (by omega) ?_
      refine xs_iinc_4 eX8_copy_23 rfl ?_
      refine xa_goto (tgt := 3) eX8_copy_26 (by decide) ?_
      have h9 := ih (i + 1) (by omega) (by omega)
      rw [cpA_s (by decide)] at h9
      rw [show ((0 : Int) + (i : Int)).toNat = 0 + i by omega, show ((b : Int) + (i : Int)).toNat = b + i by omega]
      exact h9
  refine xa_iconst eX8_copy_0 ?_
  refine xs_istore_4 eX8_copy_1 rfl ?_
  have h9 := lp 0 (by omega)
  rw [cpA_0] at h9
  exact h9
set_option maxHeartbeats 400000 in
theorem k_X8_copy_33_31 {w : xW} {S : xS} {B : String → xS → Prop} {A : xS → Prop} {a : Nat} (hl : a ≤ 527) (hq : A (cpA 33 a 31 0 527 S)) : Kv w mX8_copy yX8_copy 0 0 [xp 33 0, xi (a : Int), xp 31 0, xi 0] S A B := by
  refine K.of rfl rfl rfl rfl (Nat.le_of_ble_eq_true rfl) rfl ?_
  have lp : ∀ i : Nat, i ≤ 527 →  X w mX8_copy (xTG w (fun v S' => v = none ∧ A S') B) 0 0 3 [xp 33 0, xi (a : Int), xp 31 0, xi 0, xi (i : Int)] [] (cpA 33 a 31 0 i S) := by
    refine nloop (527) (fun i hi ih  => ?_)
    refine xs_iload_4 eX8_copy_3 ?_
    refine xa_sipush eX8_copy_5 (by decide) ?_
    refine xa_icmp_ge (tgt := 29) eX8_copy_8 (by decide) (by omega) (by omega) (fun c8 => ?_) (fun c8 => ?_)
    · exact xa_vret eX8_copy_29 rfl ⟨rfl, by rw [show i = 527 by omega]; exact hq⟩
    · refine xs_aload_2 eX8_copy_11 ?_
      refine xs_iload_3 eX8_copy_12 ?_
      refine xs_iload_4 eX8_copy_13 ?_
      refine xa_iadd eX8_copy_15 ?_
      refine xs_aload_0 eX8_copy_16 ?_
      refine xs_iload_1 eX8_copy_17 ?_
      refine xs_iload_4 eX8_copy_18 ?_
      refine xa_iadd eX8_copy_20 ?_
      refine gar_33 eX8_copy_21 (by omega) (fun r21 => ?_)
      refine pa_31 eX8_copy_22 (by omega) (by omega) ?_
      refine xs_iinc_4 eX8_copy_23 rfl ?_
      refine xa_goto (tgt := 3) eX8_copy_26 (by decide) ?_
      have h9 := ih (i + 1) (by omega) (by omega)
      rw [cpA_s (by decide)] at h9
      rw [show ((a : Int) + (i : Int)).toNat = a + i by omega, show ((0 : Int) + (i : Int)).toNat = 0 + i by omega]
      exact h9
  refine xa_iconst eX8_copy_0 ?_
  refine xs_istore_4 eX8_copy_1 rfl ?_
  have h9 := lp 0 (by omega)
  rw [cpA_0] at h9
  exact h9
def clrM (i : Nat) (S : xS) : xS := fun k j f => if k = 31 ∧ j = 0 ∧ f < i then 0 else S k j f
theorem clrM_0 (S : xS) : clrM 0 S = S := by funext k j f; unfold clrM; rw [if_neg (by omega)]
theorem clrM_s (i : Nat) (S : xS) : clrM (i + 1) S = up (clrM i S) 31 0 i 0 := by
  funext k j f
  rw [up_app]
  unfold clrM
  by_cases c : k = 31 ∧ j = 0 ∧ f = i
  · rw [if_pos c, if_pos (by omega)]
  · rw [if_neg c]
    by_cases c2 : k = 31 ∧ j = 0 ∧ f < i
    · rw [if_pos c2, if_pos (by omega)]
    · rw [if_neg c2, if_neg (by omega)]
set_option maxHeartbeats 400000 in
theorem k_X8_clear {w : xW} {S : xS} {B : String → xS → Prop} {A : xS → Prop} (hq : A (up (up (up (clrM 527 S) 31 0 3 5) 31 0 4 10) 31 0 5 (-1))) : Kv w mX8_clear yX8_clear 0 0 [xp 30 0] S A B := by
  refine K.of rfl rfl rfl rfl (Nat.le_of_ble_eq_true rfl) rfl ?_
  have lp : ∀ i : Nat, i ≤ 527 →  X w mX8_clear (xTG w (fun v S' => v = none ∧ A S') B) 0 0 2 [xp 30 0, xi (i : Int)] [] (clrM i S) := by
    refine nloop (527) (fun i hi ih  => ?_)
    refine xs_iload_1 eX8_clear_2 ?_
    refine xa_sipush eX8_clear_3 (by decide) ?_
    refine xa_icmp_ge (tgt := 22) eX8_clear_6 (by decide) (by omega) (by omega) (fun c6 => ?_) (fun c6 => ?_)
    · refine xs_aload_0 eX8_clear_22 ?_
      refine g_X8_0 eX8_clear_23 lRX8_7 ?_
      refine xa_iconst eX8_clear_26 ?_
      refine xa_ldc2 (a := 5) eX8_clear_27 lRX8_55 (by decide) ?_
      refine pa_31 eX8_clear_30 (by decide) (by decide) ?_
      refine xs_aload_0 eX8_clear_31 ?_
      refine g_X8_0 eX8_clear_32 lRX8_7 ?_
      refine xa_iconst eX8_clear_35 ?_
      refine xa_ldc2 (a := 10) eX8_clear_36 lRX8_57 (by decide) ?_
      refine pa_31 eX8_clear_39 (by decide) (by decide) ?_
      refine xs_aload_0 eX8_clear_40 ?_
      refine g_X8_0 eX8_clear_41 lRX8_7 ?_
      refine xa_iconst eX8_clear_44 ?_
      refine xa_ldc2 (a := (-1)) eX8_clear_45 lRX8_59 (by decide) ?_
      refine pa_31 eX8_clear_48 (by decide) (by decide) ?_
      exact xa_vret eX8_clear_49 rfl ⟨rfl, by rw [show i = 527 by omega]; exact hq⟩
    · refine xs_aload_0 eX8_clear_9 ?_
      refine g_X8_0 eX8_clear_10 lRX8_7 ?_
      refine xs_iload_1 eX8_clear_13 ?_
      refine xa_lconst0 eX8_clear_14 ?_
      refine pa_31 eX8_clear_15 (by omega) (by decide) ?_
      refine xs_iinc_1 eX8_clear_16 rfl ?_
      refine xa_goto (tgt := 2) eX8_clear_19 (by decide) ?_
      have h9 := ih (i + 1) (by omega) (by omega)
      rw [clrM_s] at h9
      exact h9
  refine xa_iconst eX8_clear_0 ?_
  refine xs_istore_1 eX8_clear_1 rfl ?_
  have h9 := lp 0 (by omega)
  rw [clrM_0] at h9
  exact h9
set_option maxHeartbeats 400000 in
theorem k_X8_appendProcess {w : xW} {S : xS} {B : String → xS → Prop} {A : Int → xS → Prop} {m b d : Int} {p : Nat} (h1 : S 31 0 1 = (p : Int)) (hp : p < 8) (hm : xr m) (hb : xr b) (hd : xr d) (hq : A (p : Int) (up (up (up (up S 31 0 (15 + 11 * p + 0) m) 31 0 (15 + 11 * p + 1) b) 31 0 (15 + 11 * p + 2) d) 31 0 1 ((p : Int) + 1))) : Ki w mX8_appendProcess yX8_appendProcess 0 0 [xp 30 0, xi m, xi b, xi d] S A B := by
  refine K.of rfl rfl rfl rfl (Nat.le_of_ble_eq_true rfl) rfl ?_
  have e0 : (1 = 15 + 11 * p + 0) = False := eq_false (by omega)
  have e1 : (1 = 15 + 11 * p + 1) = False := eq_false (by omega)
  have e2 : (1 = 15 + 11 * p + 2) = False := eq_false (by omega)
  refine xs_aload_0 eX8_appendProcess_0 ?_
  refine xa_iconst eX8_appendProcess_1 ?_
  refine xbi_V10 (mi' := mX8_number) (y := yX8_number) eX8_appendProcess_2 (xw_5 lRX8_65 wy_X8_number) rfl ⟨wd_X8_number, by decide, by decide⟩ (by decide) (fun _ => rfl) rfl (Nat.le_of_ble_eq_true rfl) rfl (k_X8_number (i := 1) rfl (by decide) ?_)
  rw [h1]
  refine xs_istore_4 eX8_appendProcess_5 rfl ?_
  refine xs_aload_0 eX8_appendProcess_7 ?_
  refine xs_iload_4 eX8_appendProcess_8 ?_
  refine xa_iconst eX8_appendProcess_10 ?_
  refine xs_iload_1 eX8_appendProcess_11 ?_
  refine xbv_V30 (mi' := mX8_put) (y := yX8_put) eX8_appendProcess_12 (xw_5 lRX8_79 wy_X8_put) rfl ⟨wd_X8_put, by decide, by decide⟩ (by decide) (fun _ => rfl) rfl (Nat.le_of_ble_eq_true rfl) rfl (k_X8_put (p := p) (g := 0) rfl rfl hp (by decide) hm ?_)
  refine xs_aload_0 eX8_appendProcess_15 ?_
  refine xs_iload_4 eX8_appendProcess_16 ?_
  refine xa_iconst eX8_appendProcess_18 ?_
  refine xs_iload_2 eX8_appendProcess_19 ?_
  refine xbv_V30 (mi' := mX8_put) (y := yX8_put) eX8_appendProcess_20 (xw_5 lRX8_79 wy_X8_put) rfl ⟨wd_X8_put, by decide, by decide⟩ (by decide) (fun _ => rfl) rfl (Nat.le_of_ble_eq_true rfl) rfl (k_X8_put (p := p) (g := 1) rfl rfl hp (by decide) hb ?_)
  refine xs_aload_0 eX8_appendProcess_23 ?_
  refine xs_iload_4 eX8_appendProcess_24 ?_
  refine xa_iconst eX8_appendProcess_26 ?_
  refine xs_iload_3 eX8_appendProcess_27 ?_
  refine xbv_V30 (mi' := mX8_put) (y := yX8_put) eX8_appendProcess_28 (xw_5 lRX8_79 wy_X8_put) rfl ⟨wd_X8_put, by decide, by decide⟩ (by decide) (fun _ => rfl) rfl (Nat.le_of_ble_eq_true rfl) rfl (k_X8_put (p := p) (g := 2) rfl rfl hp (by decide) hd ?_)
  refine xs_aload_0 eX8_appendProcess_31 ?_
  refine g_X8_0 eX8_appendProcess_32 lRX8_7 ?_
  refine xa_iconst eX8_appendProcess_35 ?_
  refine xa_dup2 eX8_appendProcess_36 rfl rfl ?_
  refine gar_31 eX8_appendProcess_37 (by decide) (fun r37 => ?_)
  refine xa_lconst1 eX8_appendProcess_38 ?_
  refine xa_ladd eX8_appendProcess_39 ?_
  refine pa_31 eX8_appendProcess_40 (by decide) (by simp (decide := true) only [up_app, h1, if_false, and_false, show (1 : Int).toNat = 1 from rfl, e0, e1, e2]; omega) ?_
  refine xs_iload_4 eX8_appendProcess_41 ?_
  exact xa_iret eX8_appendProcess_43 rfl ⟨_, rfl, by simp (decide := true) only [up_app, h1, if_false, and_false, show (1 : Int).toNat = 1 from rfl, e0, e1, e2]; exact hq⟩
