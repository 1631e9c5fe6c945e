/-! the class: reading, on -/
def bnd (r : Bool × xS) (f : xS → Bool × xS) : Bool × xS := if r.1 = true then f r.2 else (false, r.2)
def rdN (n : Nat) (lo hi : Int) (S : xS) : Bool × xS := if nx n S 3 0 6 = 2 then (if lo ≤ nx n S 3 0 9 ∧ nx n S 3 0 9 ≤ hi then (true, nx n S) else (false, flS 2 (nx n S))) else (false, flS 1 (nx n S))
theorem rdN_t {n : Nat} {lo hi : Int} {S : xS} (h : (rdN n lo hi S).1 = true) : (rdN n lo hi S).2 = nx n S ∧ nx n S 3 0 6 = 2 ∧ lo ≤ nx n S 3 0 9 ∧ nx n S 3 0 9 ≤ hi := by
  unfold rdN at h ⊢
  by_cases c : nx n S 3 0 6 = 2
  · rw [if_pos c] at h ⊢
    by_cases c2 : lo ≤ nx n S 3 0 9 ∧ nx n S 3 0 9 ≤ hi
    · rw [if_pos c2]; exact ⟨rfl, c, c2.1, c2.2⟩
    · rw [if_neg c2] at h; cases h
  · rw [if_neg c] at h; cases h
theorem rdN_P {n : Nat} {lo hi : Int} {S : xS} (hP : PT n S) (h : (rdN n lo hi S).1 = true) : PT n (rdN n lo hi S).2 ∧ (lo ≤ (rdN n lo hi S).2 3 0 9 ∧ (rdN n lo hi S).2 3 0 9 ≤ hi) ∧ ∀ a, a ≠ 3 → (rdN n lo hi S).2 a = S a := by
  have h9 := rdN_t h
  rw [h9.1]
  exact ⟨hP.nx, h9.2.2, fun a ha => nx_o ha⟩
def rdSem (n : Nat) (S : xS) : Bool × xS := if S 3 0 6 = 3 then (true, nx n S) else (false, flS 1 S)
def rdPen (n : Nat) (S : xS) : Bool × xS := bnd (rdN n 0 99 S) (fun S1 => (true, nx n (up S1 1 4 4 (S1 3 0 9))))
def rdFee (n : Nat) (S : xS) : Bool × xS := bnd (rdN n 0 50 S) (fun S1 => (true, nx n (up S1 1 4 5 (S1 3 0 9))))
def rdPri (n : Nat) (S : xS) : Bool × xS := bnd (rdN n 0 99999 S) (fun S1 => (true, nx n (up S1 10 (32 * 4 + (S1 2 4 1 - 1).toNat) 9 (S1 3 0 9))))
def rdPro (n : Nat) (S : xS) : Bool × xS := if S 1 4 3 < 8 then bnd (rdN n 0 1000000 S) (fun S1 => bnd (rdN n 0 9999 S1) (fun S2 => bnd (rdN n 0 99 S2) (fun S3 => (true, nx n (entS 4 (S3 1 4 3).toNat (S1 3 0 9) (S2 3 0 9) (S3 3 0 9) S3))))) else (false, flS 3 S)
def rdArr (n : Nat) (S : xS) : Bool × xS := bnd (rdN n 0 60 S) (fun S1 => bnd (rdN n 0 60 (up S1 4 (8 * 4 + (S 1 4 3 - 1).toNat) 3 (S1 3 0 9))) (fun S2 => (true, nx n (up S2 4 (8 * 4 + (S 1 4 3 - 1).toNat) 4 (S2 3 0 9)))))
theorem PT_up {n k j f : Nat} {v : Int} {S : xS} (h : PT n S) (hk : k ≠ 3) : PT n (up S k j f v) := by
  unfold PT at h ⊢
  have e : up S k j f v 3 = S 3 := by funext y g; unfold up; rw [if_neg (by omega)]
  rw [e]
  exact h
set_option maxHeartbeats 400000 in
theorem f_X3_readNumber {w : xW} {S : xS} {B : String → xS → Prop} {A : Int → xS → Prop} {n : Nat} {lo hi : Int} (hP : PT n S) (hlo : xr lo) (hhi : xr hi) (h1 : (rdN n lo hi S).1 = true → A 1 (rdN n lo hi S).2) (h0 : (rdN n lo hi S).1 = false → A 0 (rdN n lo hi S).2) : Ki w mX3_readNumber yX3_readNumber 0 0 [xp 3 0, xi lo, xi hi] S A B := by
  refine K.of rfl rfl rfl rfl (Nat.le_of_ble_eq_true rfl) rfl ?_
  refine xs_aload_0 eX3_readNumber_0 ?_
  refine xbv_V00 (mi' := mX3_nextToken) (y := yX3_nextToken) eX3_readNumber_1 (xw_5 lRX3_54 wy_X3_nextToken) rfl ⟨wd_X3_nextToken, by decide, by decide⟩ (by decide) (fun _ => rfl) rfl (Nat.le_of_ble_eq_true rfl) rfl (f_X3_nextToken hP ?_)
  have hP2 := hP.nx
  obtain ⟨b1, b2, b3, b4, b5, b6⟩ := hP2
  refine xs_aload_0 eX3_readNumber_4 ?_
  refine g_X3_6 eX3_readNumber_5 lRX3_39 ?_
  refine xa_tok (i := 2) eX3_readNumber_8 (by decide) lRX3_162 ?_
  refine xa_acmp_eq (tgt := 20) eX3_readNumber_11 (by decide) (by omega) (by decide) (fun c11 => ?_) (fun c11 => ?_)
  · refine xs_aload_0 eX3_readNumber_20 ?_
    refine gr_X3_9 eX3_readNumber_21 lRX3_106 (fun r21 => ?_)
    refine xs_iload_1 eX3_readNumber_24 ?_
    refine xs_iload_2 eX3_readNumber_25 ?_
    refine xbi_N3 (mi' := mX7_isWithin) (y := yX7_isWithin) eX3_readNumber_26 (List.mem_of_getElem? (i := 0) rfl) (xw_3 wy_X7_isWithin) rfl ⟨wd_X7_isWithin, by decide, by decide⟩ (Nat.le_of_ble_eq_true rfl) rfl (k_X7_isWithin (by omega) hlo hhi ?_)
    refine xa_ifb_ne (tgt := 40) eX3_readNumber_29 (by decide) (fun c29 => ?_) (fun c29 => ?_)
    · refine xa_iconst eX3_readNumber_40 ?_
      refine xa_goto (tgt := 45) eX3_readNumber_41 (by decide) ?_
      exact xa_zret eX3_readNumber_45 rfl (by decide) ⟨_, rfl, by have h9 := h1 (by unfold rdN; rw [if_pos (show nx n S 3 0 6 = 2 by omega), if_pos c29]); unfold rdN at h9; rw [if_pos (show nx n S 3 0 6 = 2 by omega), if_pos c29] at h9; exact h9⟩
    · refine xs_aload_0 eX3_readNumber_32 ?_
      refine xa_iconst eX3_readNumber_33 ?_
      refine xbi_V10 (mi' := mX3_fail) (y := yX3_fail) eX3_readNumber_34 (xw_5 lRX3_98 wy_X3_fail) rfl ⟨wd_X3_fail, by decide, by decide⟩ (by decide) (fun _ => rfl) rfl (Nat.le_of_ble_eq_true rfl) rfl (f_X3_fail (by decide) ?_)
      · refine xa_if_eq (tgt := 44) eX3_readNumber_37 (by decide) (by decide) (fun c37 => ?_) (fun c37 => ?_)
        · refine xa_iconst eX3_readNumber_44 ?_
          exact xa_zret eX3_readNumber_45 rfl (by decide) ⟨_, rfl, by have h9 := h0 (by unfold rdN; rw [if_pos (show nx n S 3 0 6 = 2 by omega), if_neg c29]); unfold rdN at h9; rw [if_pos (show nx n S 3 0 6 = 2 by omega), if_neg c29] at h9; exact h9⟩
        · exact absurd rfl c37
  · refine xs_aload_0 eX3_readNumber_14 ?_
    refine xa_iconst eX3_readNumber_15 ?_
    refine xbi_V10 (mi' := mX3_fail) (y := yX3_fail) eX3_readNumber_16 (xw_5 lRX3_98 wy_X3_fail) rfl ⟨wd_X3_fail, by decide, by decide⟩ (by decide) (fun _ => rfl) rfl (Nat.le_of_ble_eq_true rfl) rfl (f_X3_fail (by decide) ?_)
    exact xa_zret eX3_readNumber_19 rfl (by decide) ⟨_, rfl, by have h9 := h0 (by unfold rdN; rw [if_neg (show ¬ nx n S 3 0 6 = 2 by omega)]); unfold rdN at h9; rw [if_neg (show ¬ nx n S 3 0 6 = 2 by omega)] at h9; exact h9⟩
set_option maxHeartbeats 400000 in
theorem f_X3_readSemicolon {w : xW} {S : xS} {B : String → xS → Prop} {A : Int → xS → Prop} {n : Nat} (hP : PT n S) (hq : A (b2i ((rdSem n S).1 = true)) (rdSem n S).2) : Ki w mX3_readSemicolon yX3_readSemicolon 0 0 [xp 3 0] S A B := by
  refine K.of rfl rfl rfl rfl (Nat.le_of_ble_eq_true rfl) rfl ?_
  obtain ⟨b1, b2, b3, b4, b5, b6⟩ := id hP
  refine xs_aload_0 eX3_readSemicolon_0 ?_
  refine g_X3_6 eX3_readSemicolon_1 lRX3_39 ?_
  refine xa_tok (i := 3) eX3_readSemicolon_4 (by decide) lRX3_159 ?_
  refine xa_acmp_eq (tgt := 16) eX3_readSemicolon_7 (by decide) (by omega) (by decide) (fun c7 => ?_) (fun c7 => ?_)
  · refine xs_aload_0 eX3_readSemicolon_16 ?_
    refine xbv_V00 (mi' := mX3_nextToken) (y := yX3_nextToken) eX3_readSemicolon_17 (xw_5 lRX3_54 wy_X3_nextToken) rfl ⟨wd_X3_nextToken, by decide, by decide⟩ (by decide) (fun _ => rfl) rfl (Nat.le_of_ble_eq_true rfl) rfl (f_X3_nextToken hP ?_)
    refine xa_iconst eX3_readSemicolon_20 ?_
    exact xa_zret eX3_readSemicolon_21 rfl (by decide) ⟨_, rfl, by have h9 := hq; simp only [rdSem, if_pos (show S 3 0 6 = 3 by omega), bnd, if_true, if_false, Bool.false_eq_true, reduceIte] at h9; exact h9⟩
  · refine xs_aload_0 eX3_readSemicolon_10 ?_
    refine xa_iconst eX3_readSemicolon_11 ?_
    refine xbi_V10 (mi' := mX3_fail) (y := yX3_fail) eX3_readSemicolon_12 (xw_5 lRX3_98 wy_X3_fail) rfl ⟨wd_X3_fail, by decide, by decide⟩ (by decide) (fun _ => rfl) rfl (Nat.le_of_ble_eq_true rfl) rfl (f_X3_fail (by decide) ?_)
    exact xa_zret eX3_readSemicolon_15 rfl (by decide) ⟨_, rfl, by have h9 := hq; simp only [rdSem, if_neg (show ¬ S 3 0 6 = 3 by omega), bnd, if_true, if_false, Bool.false_eq_true, reduceIte] at h9; exact h9⟩
set_option maxHeartbeats 400000 in
theorem f_X3_readPenalty {w : xW} {S : xS} {B : String → xS → Prop} {A : Int → xS → Prop} {n : Nat} (hP : PT n S) (hq : A (b2i ((rdPen n S).1 = true)) (rdPen n S).2) : Ki w mX3_readPenalty yX3_readPenalty 0 0 [xp 3 0] S A B := by
  refine K.of rfl rfl rfl rfl (Nat.le_of_ble_eq_true rfl) rfl ?_
  refine xs_aload_0 eX3_readPenalty_0 ?_
  refine xa_iconst eX3_readPenalty_1 ?_
  refine xa_bipush eX3_readPenalty_2 (by decide) ?_
  refine xbi_V20 (mi' := mX3_readNumber) (y := yX3_readNumber) eX3_readPenalty_4 (xw_5 lRX3_102 wy_X3_readNumber) rfl ⟨wd_X3_readNumber, by decide, by decide⟩ (by decide) (fun _ => rfl) rfl (Nat.le_of_ble_eq_true rfl) rfl (f_X3_readNumber hP (by decide) (by decide) (fun e1 => ?_) (fun e1 => ?_))
  · have p1 := rdN_P hP e1
    refine xa_if_ne (tgt := 12) eX3_readPenalty_7 (by decide) (by decide) (fun c7 => ?_) (fun c7 => ?_)
    · refine xs_aload_0 eX3_readPenalty_12 ?_
      refine g_X3_2 eX3_readPenalty_13 lRX3_18 ?_
      refine xs_aload_0 eX3_readPenalty_16 ?_
      refine gr_X3_9 eX3_readPenalty_17 lRX3_106 (fun r17 => ?_)
      refine p_X4_4 eX3_readPenalty_20 lRX3_109 (by have z := p1.2.1; omega) ?_
      refine xs_aload_0 eX3_readPenalty_23 ?_
      refine xbv_V00 (mi' := mX3_nextToken) (y := yX3_nextToken) eX3_readPenalty_24 (xw_5 lRX3_54 wy_X3_nextToken) rfl ⟨wd_X3_nextToken, by decide, by decide⟩ (by decide) (fun _ => rfl) rfl (Nat.le_of_ble_eq_true rfl) rfl (f_X3_nextToken (PT_up p1.1 (by decide)) ?_)
      refine xa_iconst eX3_readPenalty_27 ?_
      exact xa_zret eX3_readPenalty_28 rfl (by decide) ⟨_, rfl, by have h9 := hq; simp only [rdPen, e1, bnd, if_true, if_false, Bool.false_eq_true, reduceIte] at h9; exact h9⟩
    · exact absurd c7 (by decide)
  · refine xa_if_ne (tgt := 12) eX3_readPenalty_7 (by decide) (by decide) (fun c7 => ?_) (fun c7 => ?_)
    · exact absurd rfl c7
    · refine xa_iconst eX3_readPenalty_10 ?_
      exact xa_zret eX3_readPenalty_11 rfl (by decide) ⟨_, rfl, by have h9 := hq; simp only [rdPen, e1, bnd, if_true, if_false, Bool.false_eq_true, reduceIte] at h9; exact h9⟩
set_option maxHeartbeats 400000 in
theorem f_X3_readFee {w : xW} {S : xS} {B : String → xS → Prop} {A : Int → xS → Prop} {n : Nat} (hP : PT n S) (hq : A (b2i ((rdFee n S).1 = true)) (rdFee n S).2) : Ki w mX3_readFee yX3_readFee 0 0 [xp 3 0] S A B := by
  refine K.of rfl rfl rfl rfl (Nat.le_of_ble_eq_true rfl) rfl ?_
  refine xs_aload_0 eX3_readFee_0 ?_
  refine xa_iconst eX3_readFee_1 ?_
  refine xa_bipush eX3_readFee_2 (by decide) ?_
  refine xbi_V20 (mi' := mX3_readNumber) (y := yX3_readNumber) eX3_readFee_4 (xw_5 lRX3_102 wy_X3_readNumber) rfl ⟨wd_X3_readNumber, by decide, by decide⟩ (by decide) (fun _ => rfl) rfl (Nat.le_of_ble_eq_true rfl) rfl (f_X3_readNumber hP (by decide) (by decide) (fun e1 => ?_) (fun e1 => ?_))
  · have p1 := rdN_P hP e1
    refine xa_if_ne (tgt := 12) eX3_readFee_7 (by decide) (by decide) (fun c7 => ?_) (fun c7 => ?_)
    · refine xs_aload_0 eX3_readFee_12 ?_
      refine g_X3_2 eX3_readFee_13 lRX3_18 ?_
      refine xs_aload_0 eX3_readFee_16 ?_
      refine gr_X3_9 eX3_readFee_17 lRX3_106 (fun r17 => ?_)
      refine p_X4_5 eX3_readFee_20 lRX3_111 (by have z := p1.2.1; omega) ?_
      refine xs_aload_0 eX3_readFee_23 ?_
      refine xbv_V00 (mi' := mX3_nextToken) (y := yX3_nextToken) eX3_readFee_24 (xw_5 lRX3_54 wy_X3_nextToken) rfl ⟨wd_X3_nextToken, by decide, by decide⟩ (by decide) (fun _ => rfl) rfl (Nat.le_of_ble_eq_true rfl) rfl (f_X3_nextToken (PT_up p1.1 (by decide)) ?_)
      refine xa_iconst eX3_readFee_27 ?_
      exact xa_zret eX3_readFee_28 rfl (by decide) ⟨_, rfl, by have h9 := hq; simp only [rdFee, e1, bnd, if_true, if_false, Bool.false_eq_true, reduceIte] at h9; exact h9⟩
    · exact absurd c7 (by decide)
  · refine xa_if_ne (tgt := 12) eX3_readFee_7 (by decide) (by decide) (fun c7 => ?_) (fun c7 => ?_)
    · exact absurd rfl c7
    · refine xa_iconst eX3_readFee_10 ?_
      exact xa_zret eX3_readFee_11 rfl (by decide) ⟨_, rfl, by have h9 := hq; simp only [rdFee, e1, bnd, if_true, if_false, Bool.false_eq_true, reduceIte] at h9; exact h9⟩
set_option maxHeartbeats 400000 in
theorem f_X3_readPrice {w : xW} {S : xS} {B : String → xS → Prop} {A : Int → xS → Prop} {n N : Nat} (hP : PT n S) (hN : S 2 4 1 = (N : Int)) (hN0 : 1 ≤ N ∧ N ≤ 20) (hq : A (b2i ((rdPri n S).1 = true)) (rdPri n S).2) : Ki w mX3_readPrice yX3_readPrice 0 0 [xp 3 0] S A B := by
  refine K.of rfl rfl rfl rfl (Nat.le_of_ble_eq_true rfl) rfl ?_
  refine xs_aload_0 eX3_readPrice_0 ?_
  refine xa_iconst eX3_readPrice_1 ?_
  refine xa_ldc (a := 99999) eX3_readPrice_2 lRX3_149 (by decide) ?_
  refine xbi_V20 (mi' := mX3_readNumber) (y := yX3_readNumber) eX3_readPrice_4 (xw_5 lRX3_102 wy_X3_readNumber) rfl ⟨wd_X3_readNumber, by decide, by decide⟩ (by decide) (fun _ => rfl) rfl (Nat.le_of_ble_eq_true rfl) rfl (f_X3_readNumber hP (by decide) (by decide) (fun e1 => ?_) (fun e1 => ?_))
  · have p1 := rdN_P hP e1
    have hN1 : (rdN n 0 99999 S).2 2 4 1 = (N : Int) := by rw [p1.2.2 2 (by decide)]; exact hN
    refine xa_if_ne (tgt := 12) eX3_readPrice_7 (by decide) (by decide) (fun c7 => ?_) (fun c7 => ?_)
    · refine xs_aload_0 eX3_readPrice_12 ?_
      refine g_X3_2 eX3_readPrice_13 lRX3_18 ?_
      refine g_X4_0 eX3_readPrice_16 lRX3_132 ?_
      refine xs_aload_0 eX3_readPrice_19 ?_
      refine g_X3_2 eX3_readPrice_20 lRX3_18 ?_
      refine g_X4_0 eX3_readPrice_23 lRX3_132 ?_
      refine gr_X5_1 eX3_readPrice_26 lRX3_135 (fun r26 => ?_)
      refine xa_iconst eX3_readPrice_29 ?_
      refine xa_isub eX3_readPrice_30 ?_
      refine xbo_V10 (mi' := mX5_knownPromise) (y := yX5_knownPromise) eX3_readPrice_31 (xw_5 lRX3_150 wy_X5_knownPromise) rfl ⟨wd_X5_knownPromise, by decide, by decide⟩ (by decide) (fun _ => rfl) rfl (Nat.le_of_ble_eq_true rfl) rfl (kI_X5_knownPromise (N := N) hN1 (by omega) (by omega) ?_)
      refine xs_aload_0 eX3_readPrice_34 ?_
      refine gr_X3_9 eX3_readPrice_35 lRX3_106 (fun r35 => ?_)
      refine p_X1_9 eX3_readPrice_38 lRX3_154 (by have z := p1.2.1; omega) ?_
      refine xs_aload_0 eX3_readPrice_41 ?_
      refine xbv_V00 (mi' := mX3_nextToken) (y := yX3_nextToken) eX3_readPrice_42 (xw_5 lRX3_54 wy_X3_nextToken) rfl ⟨wd_X3_nextToken, by decide, by decide⟩ (by decide) (fun _ => rfl) rfl (Nat.le_of_ble_eq_true rfl) rfl (f_X3_nextToken (PT_up p1.1 (by decide)) ?_)
      refine xa_iconst eX3_readPrice_45 ?_
      exact xa_zret eX3_readPrice_46 rfl (by decide) ⟨_, rfl, by have h9 := hq; simp only [rdPri, e1, bnd, if_true, if_false, Bool.false_eq_true, reduceIte] at h9; exact h9⟩
    · exact absurd c7 (by decide)
  · refine xa_if_ne (tgt := 12) eX3_readPrice_7 (by decide) (by decide) (fun c7 => ?_) (fun c7 => ?_)
    · exact absurd rfl c7
    · refine xa_iconst eX3_readPrice_10 ?_
      exact xa_zret eX3_readPrice_11 rfl (by decide) ⟨_, rfl, by have h9 := hq; simp only [rdPri, e1, bnd, if_true, if_false, Bool.false_eq_true, reduceIte] at h9; exact h9⟩
set_option maxHeartbeats 400000 in
theorem f_X3_readArrival {w : xW} {S : xS} {B : String → xS → Prop} {A : Int → xS → Prop} {n k : Nat} (hP : PT n S) (hn : S 1 4 3 = (k : Int)) (hk : 1 ≤ k ∧ k ≤ 8) (hq : A (b2i ((rdArr n S).1 = true)) (rdArr n S).2) : Ki w mX3_readArrival yX3_readArrival 0 0 [xp 3 0] S A B := by
  refine K.of rfl rfl rfl rfl (Nat.le_of_ble_eq_true rfl) rfl ?_
  refine xs_aload_0 eX3_readArrival_0 ?_
  refine g_X3_2 eX3_readArrival_1 lRX3_18 ?_
  refine xs_aload_0 eX3_readArrival_4 ?_
  refine g_X3_2 eX3_readArrival_5 lRX3_18 ?_
  refine gr_X4_3 eX3_readArrival_8 lRX3_113 (fun r8 => ?_)
  refine xa_iconst eX3_readArrival_11 ?_
  refine xa_isub eX3_readArrival_12 ?_
  refine xbo_V10 (mi' := mX4_knownProcess) (y := yX4_knownProcess) eX3_readArrival_13 (xw_5 lRX3_121 wy_X4_knownProcess) rfl ⟨wd_X4_knownProcess, by decide, by decide⟩ (by decide) (fun _ => rfl) rfl (Nat.le_of_ble_eq_true rfl) rfl (kI_X4_knownProcess (n := k) hn (by omega) (by omega) ?_)
  refine xs_astore_1 eX3_readArrival_16 rfl ?_
  refine xs_aload_0 eX3_readArrival_17 ?_
  refine xa_iconst eX3_readArrival_18 ?_
  refine xa_bipush eX3_readArrival_19 (by decide) ?_
  refine xbi_V20 (mi' := mX3_readNumber) (y := yX3_readNumber) eX3_readArrival_21 (xw_5 lRX3_102 wy_X3_readNumber) rfl ⟨wd_X3_readNumber, by decide, by decide⟩ (by decide) (fun _ => rfl) rfl (Nat.le_of_ble_eq_true rfl) rfl (f_X3_readNumber hP (by decide) (by decide) (fun e1 => ?_) (fun e1 => ?_))
  · have p1 := rdN_P hP e1
    have p1b : PT n (up (rdN n 0 60 S).2 4 (8 * 4 + (S 1 4 3 - 1).toNat) 3 ((rdN n 0 60 S).2 3 0 9)) := PT_up p1.1 (by decide)
    refine xa_if_ne (tgt := 29) eX3_readArrival_24 (by decide) (by decide) (fun c24 => ?_) (fun c24 => ?_)
    · refine xs_aload_1 eX3_readArrival_29 ?_
      refine xs_aload_0 eX3_readArrival_30 ?_
      refine gr_X3_9 eX3_readArrival_31 lRX3_106 (fun r31 => ?_)
      refine p_X0_3 eX3_readArrival_34 lRX3_125 (by have z := p1.2.1; omega) ?_
      refine xs_aload_0 eX3_readArrival_37 ?_
      refine xa_iconst eX3_readArrival_38 ?_
      refine xa_bipush eX3_readArrival_39 (by decide) ?_
      refine xbi_V20 (mi' := mX3_readNumber) (y := yX3_readNumber) eX3_readArrival_41 (xw_5 lRX3_102 wy_X3_readNumber) rfl ⟨wd_X3_readNumber, by decide, by decide⟩ (by decide) (fun _ => rfl) rfl (Nat.le_of_ble_eq_true rfl) rfl (f_X3_readNumber p1b (by decide) (by decide) (fun e2 => ?_) (fun e2 => ?_))
      · have p2 := rdN_P p1b e2
        refine xa_if_ne (tgt := 49) eX3_readArrival_44 (by decide) (by decide) (fun c44 => ?_) (fun c44 => ?_)
        · refine xs_aload_1 eX3_readArrival_49 ?_
          refine xs_aload_0 eX3_readArrival_50 ?_
          refine gr_X3_9 eX3_readArrival_51 lRX3_106 (fun r51 => ?_)
          refine p_X0_4 eX3_readArrival_54 lRX3_129 (by have z := p2.2.1; omega) ?_
          refine xs_aload_0 eX3_readArrival_57 ?_
          refine xbv_V00 (mi' := mX3_nextToken) (y := yX3_nextToken) eX3_readArrival_58 (xw_5 lRX3_54 wy_X3_nextToken) rfl ⟨wd_X3_nextToken, by decide, by decide⟩ (by decide) (fun _ => rfl) rfl (Nat.le_of_ble_eq_true rfl) rfl (f_X3_nextToken (PT_up p2.1 (by decide)) ?_)
          refine xa_iconst eX3_readArrival_61 ?_
          exact xa_zret eX3_readArrival_62 rfl (by decide) ⟨_, rfl, by have h9 := hq; simp only [rdArr, e1, e2, bnd, if_true, if_false, Bool.false_eq_true, reduceIte] at h9; exact h9⟩
        · exact absurd c44 (by decide)
      · refine xa_if_ne (tgt := 49) eX3_readArrival_44 (by decide) (by decide) (fun c44 => ?_) (fun c44 => ?_)
        · exact absurd rfl c44
        · refine xa_iconst eX3_readArrival_47 ?_
          exact xa_zret eX3_readArrival_48 rfl (by decide) ⟨_, rfl, by have h9 := hq; simp only [rdArr, e1, e2, bnd, if_true, if_false, Bool.false_eq_true, reduceIte] at h9; exact h9⟩
    · exact absurd c24 (by decide)
  · refine xa_if_ne (tgt := 29) eX3_readArrival_24 (by decide) (by decide) (fun c24 => ?_) (fun c24 => ?_)
    · exact absurd rfl c24
    · refine xa_iconst eX3_readArrival_27 ?_
      exact xa_zret eX3_readArrival_28 rfl (by decide) ⟨_, rfl, by have h9 := hq; simp only [rdArr, e1, bnd, if_true, if_false, Bool.false_eq_true, reduceIte] at h9; exact h9⟩
theorem PT_ent {n k : Nat} {m b d : Int} {S : xS} (h : PT n S) : PT n (entS 4 k m b d S) := by
  unfold PT at h ⊢
  have e : entS 4 k m b d S 3 = S 3 := by
    funext y g
    unfold entS
    show up _ 1 4 3 _ 3 y g = _
    rw [up_oth (by omega), rwS_oth (by omega)]
  rw [e]
  exact h
set_option maxHeartbeats 400000 in
theorem f_X3_readProcess {w : xW} {S : xS} {B : String → xS → Prop} {A : Int → xS → Prop} {n k : Nat} (hP : PT n S) (hn : S 1 4 3 = (k : Int)) (hk : k ≤ 8) (hq : A (b2i ((rdPro n S).1 = true)) (rdPro n S).2) : Ki w mX3_readProcess yX3_readProcess 0 0 [xp 3 0] S A B := by
  refine K.of rfl rfl rfl rfl (Nat.le_of_ble_eq_true rfl) rfl ?_
  refine xs_aload_0 eX3_readProcess_0 ?_
  refine g_X3_2 eX3_readProcess_1 lRX3_18 ?_
  refine gr_X4_3 eX3_readProcess_4 lRX3_113 (fun r4 => ?_)
  refine xa_bipush eX3_readProcess_7 (by decide) ?_
  refine xa_icmp_lt (tgt := 18) eX3_readProcess_9 (by decide) (by omega) (by decide) (fun c9 => ?_) (fun c9 => ?_)
  · refine xs_aload_0 eX3_readProcess_18 ?_
    refine xa_iconst eX3_readProcess_19 ?_
    refine xa_ldc (a := 1000000) eX3_readProcess_20 lRX3_116 (by decide) ?_
    refine xbi_V20 (mi' := mX3_readNumber) (y := yX3_readNumber) eX3_readProcess_22 (xw_5 lRX3_102 wy_X3_readNumber) rfl ⟨wd_X3_readNumber, by decide, by decide⟩ (by decide) (fun _ => rfl) rfl (Nat.le_of_ble_eq_true rfl) rfl (f_X3_readNumber hP (by decide) (by decide) (fun e1 => ?_) (fun e1 => ?_))
    · have p1 := rdN_P hP e1
      refine xa_if_ne (tgt := 30) eX3_readProcess_25 (by decide) (by decide) (fun c25 => ?_) (fun c25 => ?_)
      · refine xs_aload_0 eX3_readProcess_30 ?_
        refine gr_X3_9 eX3_readProcess_31 lRX3_106 (fun r31 => ?_)
        refine xs_istore_1 eX3_readProcess_34 rfl ?_
        refine xs_aload_0 eX3_readProcess_35 ?_
        refine xa_iconst eX3_readProcess_36 ?_
        refine xa_sipush eX3_readProcess_37 (by decide) ?_
        refine xbi_V20 (mi' := mX3_readNumber) (y := yX3_readNumber) eX3_readProcess_40 (xw_5 lRX3_102 wy_X3_readNumber) rfl ⟨wd_X3_readNumber, by decide, by decide⟩ (by decide) (fun _ => rfl) rfl (Nat.le_of_ble_eq_true rfl) rfl (f_X3_readNumber p1.1 (by decide) (by decide) (fun e2 => ?_) (fun e2 => ?_))
        · have p2 := rdN_P p1.1 e2
          refine xa_if_ne (tgt := 48) eX3_readProcess_43 (by decide) (by decide) (fun c43 => ?_) (fun c43 => ?_)
          · refine xs_aload_0 eX3_readProcess_48 ?_
            refine gr_X3_9 eX3_readProcess_49 lRX3_106 (fun r49 => ?_)
            refine xs_istore_2 eX3_readProcess_52 rfl ?_
            refine xs_aload_0 eX3_readProcess_53 ?_
            refine xa_iconst eX3_readProcess_54 ?_
            refine xa_bipush eX3_readProcess_55 (by decide) ?_
            refine xbi_V20 (mi' := mX3_readNumber) (y := yX3_readNumber) eX3_readProcess_57 (xw_5 lRX3_102 wy_X3_readNumber) rfl ⟨wd_X3_readNumber, by decide, by decide⟩ (by decide) (fun _ => rfl) rfl (Nat.le_of_ble_eq_true rfl) rfl (f_X3_readNumber p2.1 (by decide) (by decide) (fun e3 => ?_) (fun e3 => ?_))
            · have p3 := rdN_P p2.1 e3
              have hn3 : (rdN n 0 99 (rdN n 0 9999 (rdN n 0 1000000 S).2).2).2 1 4 3 = (k : Int) := by rw [p3.2.2 1 (by decide), p2.2.2 1 (by decide), p1.2.2 1 (by decide)]; exact hn
              refine xa_if_ne (tgt := 65) eX3_readProcess_60 (by decide) (by decide) (fun c60 => ?_) (fun c60 => ?_)
              · refine xs_aload_0 eX3_readProcess_65 ?_
                refine g_X3_2 eX3_readProcess_66 lRX3_18 ?_
                refine xs_iload_1 eX3_readProcess_69 ?_
                refine xs_iload_2 eX3_readProcess_70 ?_
                refine xs_aload_0 eX3_readProcess_71 ?_
                refine gr_X3_9 eX3_readProcess_72 lRX3_106 (fun r72 => ?_)
                refine xbv_V30 (mi' := mX4_enter) (y := yX4_enter) eX3_readProcess_75 (xw_5 lRX3_117 wy_X4_enter) rfl ⟨wd_X4_enter, by decide, by decide⟩ (by decide) (fun _ => rfl) rfl (Nat.le_of_ble_eq_true rfl) rfl (f_X4_enter (s := 4) hn3 (by omega) (by have z := p1.2.1; omega) (by have z := p2.2.1; omega) (by have z := p3.2.1; omega) ?_)
                have hP4 : PT n (entS 4 k ((rdN n 0 1000000 S).2 3 0 9) ((rdN n 0 9999 (rdN n 0 1000000 S).2).2 3 0 9) ((rdN n 0 99 (rdN n 0 9999 (rdN n 0 1000000 S).2).2).2 3 0 9) (rdN n 0 99 (rdN n 0 9999 (rdN n 0 1000000 S).2).2).2) := PT_ent p3.1
                refine xs_aload_0 eX3_readProcess_78 ?_
                refine xbv_V00 (mi' := mX3_nextToken) (y := yX3_nextToken) eX3_readProcess_79 (xw_5 lRX3_54 wy_X3_nextToken) rfl ⟨wd_X3_nextToken, by decide, by decide⟩ (by decide) (fun _ => rfl) rfl (Nat.le_of_ble_eq_true rfl) rfl (f_X3_nextToken hP4 ?_)
                refine xa_iconst eX3_readProcess_82 ?_
                exact xa_zret eX3_readProcess_83 rfl (by decide) ⟨_, rfl, by have h9 := hq; simp only [rdPro, if_pos (show S 1 4 3 < 8 by omega), e1, e2, e3, hn3, Int.toNat_natCast, bnd, if_true, if_false, Bool.false_eq_true, reduceIte] at h9; exact h9⟩
              · exact absurd c60 (by decide)
            · refine xa_if_ne (tgt := 65) eX3_readProcess_60 (by decide) (by decide) (fun c60 => ?_) (fun c60 => ?_)
              · exact absurd rfl c60
              · refine xa_iconst eX3_readProcess_63 ?_
                exact xa_zret eX3_readProcess_64 rfl (by decide) ⟨_, rfl, by have h9 := hq; simp only [rdPro, if_pos (show S 1 4 3 < 8 by omega), e1, e2, e3, bnd, if_true, if_false, Bool.false_eq_true, reduceIte] at h9; exact h9⟩
          · exact absurd c43 (by decide)
        · refine xa_if_ne (tgt := 48) eX3_readProcess_43 (by decide) (by decide) (fun c43 => ?_) (fun c43 => ?_)
          · exact absurd rfl c43
          · refine xa_iconst eX3_readProcess_46 ?_
            exact xa_zret eX3_readProcess_47 rfl (by decide) ⟨_, rfl, by have h9 := hq; simp only [rdPro, if_pos (show S 1 4 3 < 8 by omega), e1, e2, bnd, if_true, if_false, Bool.false_eq_true, reduceIte] at h9; exact h9⟩
      · exact absurd c25 (by decide)
    · refine xa_if_ne (tgt := 30) eX3_readProcess_25 (by decide) (by decide) (fun c25 => ?_) (fun c25 => ?_)
      · exact absurd rfl c25
      · refine xa_iconst eX3_readProcess_28 ?_
        exact xa_zret eX3_readProcess_29 rfl (by decide) ⟨_, rfl, by have h9 := hq; simp only [rdPro, if_pos (show S 1 4 3 < 8 by omega), e1, bnd, if_true, if_false, Bool.false_eq_true, reduceIte] at h9; exact h9⟩
  · refine xs_aload_0 eX3_readProcess_12 ?_
    refine xa_iconst eX3_readProcess_13 ?_
    refine xbi_V10 (mi' := mX3_fail) (y := yX3_fail) eX3_readProcess_14 (xw_5 lRX3_98 wy_X3_fail) rfl ⟨wd_X3_fail, by decide, by decide⟩ (by decide) (fun _ => rfl) rfl (Nat.le_of_ble_eq_true rfl) rfl (f_X3_fail (by decide) ?_)
    exact xa_zret eX3_readProcess_17 rfl (by decide) ⟨_, rfl, by have h9 := hq; simp only [rdPro, if_neg (show ¬ S 1 4 3 < 8 by omega), bnd, if_true, if_false, Bool.false_eq_true, reduceIte] at h9; exact h9⟩
