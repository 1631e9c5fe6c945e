/-! PromiseMarket$State: ticks -/
def itr (g : xS → xS) : Nat → xS → xS
  | 0, S => S
  | k + 1, S => g (itr g k S)
theorem VS.itr {s n N : Nat} {T : Int} {S : xS} (h : VS s n N T S) : ∀ i : Nat, VS s n N (T + 3 * (i : Int)) (itr (tckS s n N) i S)
  | 0 => by rw [show T + 3 * ((0 : Nat) : Int) = T by omega]; exact h
  | i + 1 => by
    have h9 := (h.itr i).tck
    rw [show T + 3 * (i : Int) + 3 = T + 3 * ((i + 1 : Nat) : Int) by omega] at h9
    exact h9
theorem itr_fr {s n N : Nat} {T : Int} {S : xS} (h : VS s n N T S) : ∀ i : Nat, xts s (itr (tckS s n N) i S) S
  | 0 => xts.rf
  | i + 1 => (tckS_fr (h.itr i)).tr (itr_fr h i)
theorem arrS_0 (s : Nat) (S : xS) : arrS s 0 S = S := by funext k j f; unfold arrS; rw [if_neg (by omega)]
theorem arrS_o {s i : Nat} {S : xS} {k : Nat} (hk : k ≠ 4) : arrS s i S k = S k := by funext j f; unfold arrS; rw [if_neg (by omega)]
theorem arrS_4 {s i : Nat} {S : xS} (f : Nat) : arrS s i S 4 (8 * s + i) f = S 4 (8 * s + i) f := by unfold arrS; rw [if_neg (by omega)]
theorem arrS_s {s i : Nat} {S : xS} : up (arrS s i S) 4 (8 * s + i) 1 (xarr (S 2 s 2) (S 4 (8 * s + i) 3) (S 4 (8 * s + i) 4) (S 4 (8 * s + i) 1)) = arrS s (i + 1) S := by
  funext k j f
  rw [up_app]
  unfold arrS
  by_cases c : k = 4 ∧ j = 8 * s + i ∧ f = 1
  · rw [if_pos c, if_pos (by omega)]
    obtain ⟨rfl, rfl, rfl⟩ := c
    rfl
  · rw [if_neg c]
    by_cases c2 : k = 4 ∧ 8 * s ≤ j ∧ j < 8 * s + i ∧ f = 1
    · rw [if_pos c2, if_pos (by omega)]
    · rw [if_neg c2, if_neg (by omega)]
set_option maxHeartbeats 4000000 in
theorem k_X4_knownProcess {w : xW} {S : xS} {B : String → xS → Prop} {A : xV → xS → Prop} {s n : Nat} {a : Int} (hn : S 1 s 3 = (n : Int)) (h8 : n ≤ 8) (ha : xr a) (hA : 0 ≤ a → a < n → A (xp 4 (8 * s + a.toNat)) S) (hB : a < 0 ∨ (n : Int) ≤ a → B "java/lang/IndexOutOfBoundsException" S) : Ko w mX4_knownProcess yX4_knownProcess 1 6 [xp 1 s, xi a] S A B := by
  refine K.of rfl rfl rfl rfl (Nat.le_of_ble_eq_true rfl) rfl ?_
  refine xs_iload_1 eX4_knownProcess_0 ?_
  refine xa_if_lt (tgt := 12) eX4_knownProcess_1 (by decide) (by omega) (fun c1 => ?_) (fun c1 => ?_)
  · exact xa_throwS (names := ["java/lang/RuntimeException", "java/lang/Exception"]) (text := "there is no such process") (sn := 6) eX4_knownProcess_12 eX4_knownProcess_15 eX4_knownProcess_16 eX4_knownProcess_18 eX4_knownProcess_21 (by decide) (by decide) ac_RX4_85 ai_RX4_85 (List.mem_of_getElem? (i := 0) rfl) at1_RX4_85 at2_RX4_85 at3_RX4_85 rfl (Nat.le_of_ble_eq_true rfl) (Nat.le_of_ble_eq_true rfl) (by omega) (by omega) (hB (by omega))
  · refine xs_iload_1 eX4_knownProcess_4 ?_
    refine xs_aload_0 eX4_knownProcess_5 ?_
    refine gr_X4_3 eX4_knownProcess_6 lRX4_46 (fun r6 => ?_)
    refine xa_icmp_lt (tgt := 22) eX4_knownProcess_9 (by decide) (by omega) (by omega) (fun c9 => ?_) (fun c9 => ?_)
    · refine xs_aload_0 eX4_knownProcess_22 ?_
      refine g_X4_1 eX4_knownProcess_23 lRX4_20 ?_
      refine xs_iload_1 eX4_knownProcess_26 ?_
      refine ga_22 eX4_knownProcess_27 (by omega) ?_
      exact xa_aret eX4_knownProcess_28 rfl ⟨_, rfl, hA (by omega) (by omega)⟩
    · exact xa_throwS (names := ["java/lang/RuntimeException", "java/lang/Exception"]) (text := "there is no such process") (sn := 6) eX4_knownProcess_12 eX4_knownProcess_15 eX4_knownProcess_16 eX4_knownProcess_18 eX4_knownProcess_21 (by decide) (by decide) ac_RX4_85 ai_RX4_85 (List.mem_of_getElem? (i := 0) rfl) at1_RX4_85 at2_RX4_85 at3_RX4_85 rfl (Nat.le_of_ble_eq_true rfl) (Nat.le_of_ble_eq_true rfl) (by omega) (by omega) (hB (by omega))
set_option maxHeartbeats 4000000 in
theorem kI_X4_knownProcess {w : xW} {S : xS} {B : String → xS → Prop} {A : xV → xS → Prop} {s n : Nat} {a : Int} (hn : S 1 s 3 = (n : Int)) (h8 : n ≤ 8) (h1 : 0 ≤ a ∧ a < n) (hA : A (xp 4 (8 * s + a.toNat)) S) : Ko w mX4_knownProcess yX4_knownProcess 0 0 [xp 1 s, xi a] S A B := by
  refine K.of rfl rfl rfl rfl (Nat.le_of_ble_eq_true rfl) rfl ?_
  refine xs_iload_1 eX4_knownProcess_0 ?_
  refine xa_if_lt (tgt := 12) eX4_knownProcess_1 (by decide) (by omega) (fun c1 => ?_) (fun c1 => ?_)
  · exact absurd h1 (by omega)
  · refine xs_iload_1 eX4_knownProcess_4 ?_
    refine xs_aload_0 eX4_knownProcess_5 ?_
    refine gr_X4_3 eX4_knownProcess_6 lRX4_46 (fun r6 => ?_)
    refine xa_icmp_lt (tgt := 22) eX4_knownProcess_9 (by decide) (by omega) (by omega) (fun c9 => ?_) (fun c9 => ?_)
    · refine xs_aload_0 eX4_knownProcess_22 ?_
      refine g_X4_1 eX4_knownProcess_23 lRX4_20 ?_
      refine xs_iload_1 eX4_knownProcess_26 ?_
      refine ga_22 eX4_knownProcess_27 (by omega) ?_
      exact xa_aret eX4_knownProcess_28 rfl ⟨_, rfl, hA⟩
    · exact absurd h1 (by omega)
set_option maxHeartbeats 4000000 in
theorem k_X4_isCheaper {w : xW} {S : xS} {B : String → xS → Prop} {A : Int → xS → Prop} {i j : Nat} (hq : A (b2i (S 10 i 9 < S 10 j 9 ∨ S 10 i 9 = S 10 j 9 ∧ S 10 j 3 < S 10 i 3)) S) : Ki w mX4_isCheaper yX4_isCheaper 0 0 [xp 10 i, xp 10 j] S A B := by
  refine K.of rfl rfl rfl rfl (Nat.le_of_ble_eq_true rfl) rfl ?_
  refine xs_aload_0 eX4_isCheaper_0 ?_
  refine gr_X1_9 eX4_isCheaper_1 lRX4_105 (fun r1 => ?_)
  refine xs_aload_1 eX4_isCheaper_4 ?_
  refine gr_X1_9 eX4_isCheaper_5 lRX4_105 (fun r5 => ?_)
  refine xa_icmp_lt (tgt := 33) eX4_isCheaper_8 (by decide) (by omega) (by omega) (fun c8 => ?_) (fun c8 => ?_)
  · refine xa_iconst eX4_isCheaper_33 ?_
    refine xa_goto (tgt := 38) eX4_isCheaper_34 (by decide) ?_
    exact xa_zret eX4_isCheaper_38 rfl (by omega) ⟨_, rfl, by first | (rw [b2i, if_pos (by omega)] at hq; exact hq) | (rw [b2i, if_neg (by omega)] at hq; exact hq)⟩
  · refine xs_aload_0 eX4_isCheaper_11 ?_
    refine gr_X1_9 eX4_isCheaper_12 lRX4_105 (fun r12 => ?_)
    refine xs_aload_1 eX4_isCheaper_15 ?_
    refine gr_X1_9 eX4_isCheaper_16 lRX4_105 (fun r16 => ?_)
    refine xa_icmp_ne (tgt := 37) eX4_isCheaper_19 (by decide) (by omega) (by omega) (fun c19 => ?_) (fun c19 => ?_)
    · refine xa_iconst eX4_isCheaper_37 ?_
      exact xa_zret eX4_isCheaper_38 rfl (by omega) ⟨_, rfl, by first | (rw [b2i, if_pos (by omega)] at hq; exact hq) | (rw [b2i, if_neg (by omega)] at hq; exact hq)⟩
    · refine xs_aload_0 eX4_isCheaper_22 ?_
      refine gr_X1_3 eX4_isCheaper_23 lRX4_139 (fun r23 => ?_)
      refine xs_aload_1 eX4_isCheaper_26 ?_
      refine gr_X1_3 eX4_isCheaper_27 lRX4_139 (fun r27 => ?_)
      refine xa_icmp_le (tgt := 37) eX4_isCheaper_30 (by decide) (by omega) (by omega) (fun c30 => ?_) (fun c30 => ?_)
      · refine xa_iconst eX4_isCheaper_37 ?_
        exact xa_zret eX4_isCheaper_38 rfl (by omega) ⟨_, rfl, by first | (rw [b2i, if_pos (by omega)] at hq; exact hq) | (rw [b2i, if_neg (by omega)] at hq; exact hq)⟩
      · refine xa_iconst eX4_isCheaper_33 ?_
        refine xa_goto (tgt := 38) eX4_isCheaper_34 (by decide) ?_
        exact xa_zret eX4_isCheaper_38 rfl (by omega) ⟨_, rfl, by first | (rw [b2i, if_pos (by omega)] at hq; exact hq) | (rw [b2i, if_neg (by omega)] at hq; exact hq)⟩
set_option maxHeartbeats 4000000 in
theorem k_X4_canBuy {w : xW} {S : xS} {B : String → xS → Prop} {A : Int → xS → Prop} {s n j q : Nat} (hn : S 1 s 3 = (n : Int)) (h8 : n ≤ 8) (hqn : q < n) (hq : A (b2i (S 10 j 9 ≠ -1 ∧ S 10 j 1 ≠ (q : Int) ∧ S 10 j 9 ≤ S 4 (8 * s + q) 0)) S) : Ki w mX4_canBuy yX4_canBuy 0 0 [xp 1 s, xp 10 j, xi (q : Int)] S A B := by
  refine K.of rfl rfl rfl rfl (Nat.le_of_ble_eq_true rfl) rfl ?_
  refine xs_aload_1 eX4_canBuy_0 ?_
  refine gr_X1_9 eX4_canBuy_1 lRX4_105 (fun r1 => ?_)
  try simp (decide := true) only [up_app, if_true, if_false, and_true, true_and, and_false, false_and, Int.toNat_natCast, Nat.add_left_cancel_iff] at r1 ⊢
  refine xa_iconst eX4_canBuy_4 ?_
  refine xa_icmp_eq (tgt := 35) eX4_canBuy_5 (by decide) (by omega) (by omega) (fun c5 => ?_) (fun c5 => ?_)
  · refine xa_iconst eX4_canBuy_35 ?_
    exact xa_zret eX4_canBuy_36 rfl (by omega) ⟨_, rfl, by first | (rw [b2i, if_pos (by omega)] at hq; exact hq) | (rw [b2i, if_neg (by omega)] at hq; exact hq)⟩
  · refine xs_aload_1 eX4_canBuy_8 ?_
    refine gr_X1_1 eX4_canBuy_9 lRX4_110 (fun r9 => ?_)
    try simp (decide := true) only [up_app, if_true, if_false, and_true, true_and, and_false, false_and, Int.toNat_natCast, Nat.add_left_cancel_iff] at r9 ⊢
    refine xs_iload_2 eX4_canBuy_12 ?_
    refine xa_icmp_eq (tgt := 35) eX4_canBuy_13 (by decide) (by omega) (by omega) (fun c13 => ?_) (fun c13 => ?_)
    · refine xa_iconst eX4_canBuy_35 ?_
      exact xa_zret eX4_canBuy_36 rfl (by omega) ⟨_, rfl, by first | (rw [b2i, if_pos (by omega)] at hq; exact hq) | (rw [b2i, if_neg (by omega)] at hq; exact hq)⟩
    · refine xs_aload_0 eX4_canBuy_16 ?_
      refine xs_iload_2 eX4_canBuy_17 ?_
      refine xbo_V10 (mi' := mX4_knownProcess) (y := yX4_knownProcess) eX4_canBuy_18 (xw_5 lRX4_113 wy_X4_knownProcess) rfl ⟨wd_X4_knownProcess, by decide, by decide⟩ (by decide) (fun _ => rfl) rfl (Nat.le_of_ble_eq_true rfl) rfl (kI_X4_knownProcess hn h8 (by omega) ?_)
      refine gr_X0_0 eX4_canBuy_21 lRX4_117 (fun r21 => ?_)
      try simp (decide := true) only [up_app, if_true, if_false, and_true, true_and, and_false, false_and, Int.toNat_natCast, Nat.add_left_cancel_iff] at r21 ⊢
      refine xs_aload_1 eX4_canBuy_24 ?_
      refine gr_X1_9 eX4_canBuy_25 lRX4_105 (fun r25 => ?_)
      try simp (decide := true) only [up_app, if_true, if_false, and_true, true_and, and_false, false_and, Int.toNat_natCast, Nat.add_left_cancel_iff] at r25 ⊢
      refine xa_icmp_lt (tgt := 35) eX4_canBuy_28 (by decide) (by omega) (by omega) (fun c28 => ?_) (fun c28 => ?_)
      · refine xa_iconst eX4_canBuy_35 ?_
        exact xa_zret eX4_canBuy_36 rfl (by omega) ⟨_, rfl, by first | (rw [b2i, if_pos (by omega)] at hq; exact hq) | (rw [b2i, if_neg (by omega)] at hq; exact hq)⟩
      · refine xa_iconst eX4_canBuy_31 ?_
        refine xa_goto (tgt := 36) eX4_canBuy_32 (by decide) ?_
        exact xa_zret eX4_canBuy_36 rfl (by omega) ⟨_, rfl, by first | (rw [b2i, if_pos (by omega)] at hq; exact hq) | (rw [b2i, if_neg (by omega)] at hq; exact hq)⟩
set_option maxHeartbeats 4000000 in
theorem f_X4_highestBidder {w : xW} {S : xS} {B : String → xS → Prop} {A : xV → xS → Prop} {s n : Nat} (hn : S 1 s 3 = (n : Int)) (h8 : n ≤ 8) (hq0 : hbdS s S n = none → A (xv .null) S) (hq1 : ∀ b, hbdS s S n = some b → A (xp 4 (8 * s + b)) S) : Ko w mX4_highestBidder yX4_highestBidder 0 0 [xp 1 s] S A B := by
  refine K.of rfl rfl rfl rfl (Nat.le_of_ble_eq_true rfl) rfl ?_
  have lp : ∀ i : Nat, i ≤ n → ∀ a3 : xV, X w mX4_highestBidder (xTG w (fun v S' => ∃ a, v = some a ∧ A a S') B) 0 0 4 [xp 1 s, (match hbdS s S i with | none => xv .null | some b => xp 4 (8 * s + b)), xi (i : Int), a3] [] S := by
    refine nloop (n) (fun i hi ih a3 => ?_)
    cases hI : hbdS s S i with
    | none =>
      refine xs_iload_2 eX4_highestBidder_4 ?_
      refine xs_aload_0 eX4_highestBidder_5 ?_
      refine gr_X4_3 eX4_highestBidder_6 lRX4_46 (fun r6 => ?_)
      try simp (decide := true) only [up_app, if_true, if_false, and_true, true_and, and_false, false_and, Int.toNat_natCast, Nat.add_left_cancel_iff] at r6 ⊢
      refine xa_icmp_ge (tgt := 49) eX4_highestBidder_9 (by decide) (by omega) (by omega) (fun c9 => ?_) (fun c9 => ?_)
      · refine xs_aloadn_1 eX4_highestBidder_49 ?_
        exact xa_aretN eX4_highestBidder_50 rfl ⟨_, rfl, hq0 (by rw [show n = i by omega]; exact hI)⟩
      · refine xs_aload_0 eX4_highestBidder_12 ?_
        refine g_X4_1 eX4_highestBidder_13 lRX4_20 ?_
        refine xs_iload_2 eX4_highestBidder_16 ?_
        refine ga_22 eX4_highestBidder_17 (by omega) ?_
        try simp (decide := true) only [up_app, if_true, if_false, and_true, true_and, and_false, false_and, Int.toNat_natCast, Nat.add_left_cancel_iff]
        refine xs_astore_3 eX4_highestBidder_18 rfl ?_
        refine xs_aload_3 eX4_highestBidder_19 ?_
        refine xbi_V00 (mi' := mX0_canBuyTick) (y := yX0_canBuyTick) eX4_highestBidder_20 (xw_5 lRX4_186 wy_X0_canBuyTick) rfl ⟨wd_X0_canBuyTick, by decide, by decide⟩ (by decide) (fun _ => rfl) rfl (Nat.le_of_ble_eq_true rfl) rfl (k_X0_canBuyTick ?_)
        refine xa_ifb_eq (tgt := 43) eX4_highestBidder_23 (by decide) (fun c23 => ?_) (fun c23 => ?_)
        · refine xs_iinc_2 eX4_highestBidder_43 rfl ?_
          refine xa_goto (tgt := 4) eX4_highestBidder_46 (by decide) ?_
          have e : hbdS s S (i + 1) = none := by rw [hbdS, if_neg c23]; exact hI
          have h9 := ih (i + 1) (by omega) (by omega) (xp 4 (8 * s + i))
          rw [e] at h9
          exact h9
        · refine xs_aloadn_1 eX4_highestBidder_26 ?_
          refine xa_ifnullN (tgt := 41) eX4_highestBidder_27 (by decide) ?_
          refine xs_aload_3 eX4_highestBidder_41 ?_
          refine xs_astore_1 eX4_highestBidder_42 rfl ?_
          refine xs_iinc_2 eX4_highestBidder_43 rfl ?_
          refine xa_goto (tgt := 4) eX4_highestBidder_46 (by decide) ?_
          have e : hbdS s S (i + 1) = some i := by rw [hbdS, if_pos c23, hI]
          have h9 := ih (i + 1) (by omega) (by omega) (xp 4 (8 * s + i))
          rw [e] at h9
          exact h9
    | some b =>
      refine xs_iload_2 eX4_highestBidder_4 ?_
      refine xs_aload_0 eX4_highestBidder_5 ?_
      refine gr_X4_3 eX4_highestBidder_6 lRX4_46 (fun r6 => ?_)
      try simp (decide := true) only [up_app, if_true, if_false, and_true, true_and, and_false, false_and, Int.toNat_natCast, Nat.add_left_cancel_iff] at r6 ⊢
      refine xa_icmp_ge (tgt := 49) eX4_highestBidder_9 (by decide) (by omega) (by omega) (fun c9 => ?_) (fun c9 => ?_)
      · refine xs_aload_1 eX4_highestBidder_49 ?_
        exact xa_aret eX4_highestBidder_50 rfl ⟨_, rfl, hq1 b (by rw [show n = i by omega]; exact hI)⟩
      · refine xs_aload_0 eX4_highestBidder_12 ?_
        refine g_X4_1 eX4_highestBidder_13 lRX4_20 ?_
        refine xs_iload_2 eX4_highestBidder_16 ?_
        refine ga_22 eX4_highestBidder_17 (by omega) ?_
        try simp (decide := true) only [up_app, if_true, if_false, and_true, true_and, and_false, false_and, Int.toNat_natCast, Nat.add_left_cancel_iff]
        refine xs_astore_3 eX4_highestBidder_18 rfl ?_
        refine xs_aload_3 eX4_highestBidder_19 ?_
        refine xbi_V00 (mi' := mX0_canBuyTick) (y := yX0_canBuyTick) eX4_highestBidder_20 (xw_5 lRX4_186 wy_X0_canBuyTick) rfl ⟨wd_X0_canBuyTick, by decide, by decide⟩ (by decide) (fun _ => rfl) rfl (Nat.le_of_ble_eq_true rfl) rfl (k_X0_canBuyTick ?_)
        refine xa_ifb_eq (tgt := 43) eX4_highestBidder_23 (by decide) (fun c23 => ?_) (fun c23 => ?_)
        · refine xs_iinc_2 eX4_highestBidder_43 rfl ?_
          refine xa_goto (tgt := 4) eX4_highestBidder_46 (by decide) ?_
          have e : hbdS s S (i + 1) = some b := by rw [hbdS, if_neg c23]; exact hI
          have h9 := ih (i + 1) (by omega) (by omega) (xp 4 (8 * s + i))
          rw [e] at h9
          exact h9
        · refine xs_aload_1 eX4_highestBidder_26 ?_
          refine xa_ifnullP eX4_highestBidder_27 ?_
          refine xs_aload_3 eX4_highestBidder_30 ?_
          refine gr_X0_2 eX4_highestBidder_31 lRX4_190 (fun r31 => ?_)
          try simp (decide := true) only [up_app, if_true, if_false, and_true, true_and, and_false, false_and, Int.toNat_natCast, Nat.add_left_cancel_iff] at r31 ⊢
          refine xs_aload_1 eX4_highestBidder_34 ?_
          refine gr_X0_2 eX4_highestBidder_35 lRX4_190 (fun r35 => ?_)
          try simp (decide := true) only [up_app, if_true, if_false, and_true, true_and, and_false, false_and, Int.toNat_natCast, Nat.add_left_cancel_iff] at r35 ⊢
          refine xa_icmp_le (tgt := 43) eX4_highestBidder_38 (by decide) (by omega) (by omega) (fun c38 => ?_) (fun c38 => ?_)
          · refine xs_iinc_2 eX4_highestBidder_43 rfl ?_
            refine xa_goto (tgt := 4) eX4_highestBidder_46 (by decide) ?_
            have e : hbdS s S (i + 1) = some b := by rw [hbdS, if_pos c23, hI]; show (if _ then _ else _) = _; rw [if_neg (by omega)]
            have h9 := ih (i + 1) (by omega) (by omega) (xp 4 (8 * s + i))
            rw [e] at h9
            exact h9
          · refine xs_aload_3 eX4_highestBidder_41 ?_
            refine xs_astore_1 eX4_highestBidder_42 rfl ?_
            refine xs_iinc_2 eX4_highestBidder_43 rfl ?_
            refine xa_goto (tgt := 4) eX4_highestBidder_46 (by decide) ?_
            have e : hbdS s S (i + 1) = some i := by rw [hbdS, if_pos c23, hI]; show (if _ then _ else _) = _; rw [if_pos (by omega)]
            have h9 := ih (i + 1) (by omega) (by omega) (xp 4 (8 * s + i))
            rw [e] at h9
            exact h9
  refine xa_null eX4_highestBidder_0 ?_
  refine xs_astoren_1 eX4_highestBidder_1 rfl ?_
  refine xa_iconst eX4_highestBidder_2 ?_
  refine xs_istore_2 eX4_highestBidder_3 rfl ?_
  exact lp 0 (by omega) xj
set_option maxHeartbeats 4000000 in
theorem k_X4_sellTick {w : xW} {S : xS} {B : String → xS → Prop} {A : xS → Prop} {h q : Nat} {T : Int} (hne : h ≠ q) (hT : T ≤ 1000000) (hh : PQ T (S 4 h)) (hp : PQ T (S 4 q)) (hq : A (slcS h q S)) : Kv w mX4_sellTick yX4_sellTick 0 0 [xp 4 h, xp 4 q] S A B := by
  refine K.of rfl rfl rfl rfl (Nat.le_of_ble_eq_true rfl) rfl ?_
  have hne1 : (h = q) = False := eq_false hne
  have hne2 : (q = h) = False := eq_false (Ne.symm hne)
  have hx := xmin_or 1000000 (S 4 h 0 + S 4 q 2)
  unfold PQ at hp hh
  refine xs_aload_1 eX4_sellTick_0 ?_
  refine xa_dup eX4_sellTick_1 rfl ?_
  refine gr_X0_0 eX4_sellTick_2 lRX4_117 (fun r2 => ?_)
  try simp (decide := true) only [up_app, hne1, hne2, if_true, if_false, and_true, true_and, and_false, false_and, Int.toNat_natCast, Nat.add_left_cancel_iff] at r2 ⊢
  refine xs_aload_1 eX4_sellTick_5 ?_
  refine gr_X0_2 eX4_sellTick_6 lRX4_190 (fun r6 => ?_)
  try simp (decide := true) only [up_app, hne1, hne2, if_true, if_false, and_true, true_and, and_false, false_and, Int.toNat_natCast, Nat.add_left_cancel_iff] at r6 ⊢
  refine xa_isub eX4_sellTick_9 ?_
  refine p_X0_0 eX4_sellTick_10 lRX4_117 (by omega) ?_
  refine xs_aload_1 eX4_sellTick_13 ?_
  refine xa_dup eX4_sellTick_14 rfl ?_
  refine gr_X0_1 eX4_sellTick_15 lRX4_168 (fun r15 => ?_)
  try simp (decide := true) only [up_app, hne1, hne2, if_true, if_false, and_true, true_and, and_false, false_and, Int.toNat_natCast, Nat.add_left_cancel_iff] at r15 ⊢
  refine xa_iconst eX4_sellTick_18 ?_
  refine xa_isub eX4_sellTick_19 ?_
  refine p_X0_1 eX4_sellTick_20 lRX4_168 (by omega) ?_
  refine xs_aload_1 eX4_sellTick_23 ?_
  refine xa_dup eX4_sellTick_24 rfl ?_
  refine gr_X0_6 eX4_sellTick_25 lRX4_193 (fun r25 => ?_)
  try simp (decide := true) only [up_app, hne1, hne2, if_true, if_false, and_true, true_and, and_false, false_and, Int.toNat_natCast, Nat.add_left_cancel_iff] at r25 ⊢
  refine xa_iconst eX4_sellTick_28 ?_
  refine xa_iadd eX4_sellTick_29 ?_
  refine p_X0_6 eX4_sellTick_30 lRX4_193 (by omega) ?_
  refine xs_aload_1 eX4_sellTick_33 ?_
  refine xa_dup eX4_sellTick_34 rfl ?_
  refine gr_X0_9 eX4_sellTick_35 lRX4_196 (fun r35 => ?_)
  try simp (decide := true) only [up_app, hne1, hne2, if_true, if_false, and_true, true_and, and_false, false_and, Int.toNat_natCast, Nat.add_left_cancel_iff] at r35 ⊢
  refine xs_aload_1 eX4_sellTick_38 ?_
  refine gr_X0_2 eX4_sellTick_39 lRX4_190 (fun r39 => ?_)
  try simp (decide := true) only [up_app, hne1, hne2, if_true, if_false, and_true, true_and, and_false, false_and, Int.toNat_natCast, Nat.add_left_cancel_iff] at r39 ⊢
  refine xa_iadd eX4_sellTick_42 ?_
  refine p_X0_9 eX4_sellTick_43 lRX4_196 (by omega) ?_
  refine xs_aload_0 eX4_sellTick_46 ?_
  refine xs_aload_1 eX4_sellTick_47 ?_
  refine gr_X0_2 eX4_sellTick_48 lRX4_190 (fun r48 => ?_)
  try simp (decide := true) only [up_app, hne1, hne2, if_true, if_false, and_true, true_and, and_false, false_and, Int.toNat_natCast, Nat.add_left_cancel_iff] at r48 ⊢
  refine xbv_V10 (mi' := mX0_earn) (y := yX0_earn) eX4_sellTick_51 (xw_5 lRX4_120 wy_X0_earn) rfl ⟨wd_X0_earn, by decide, by decide⟩ (by decide) (fun _ => rfl) rfl (Nat.le_of_ble_eq_true rfl) rfl (k_X0_earn (by simp (decide := true) only [up_app, hne1, hne2, if_true, if_false, and_true, true_and, and_false, false_and, Int.toNat_natCast, Nat.add_left_cancel_iff]; omega) ?_)
  refine xs_aload_0 eX4_sellTick_54 ?_
  refine xa_dup eX4_sellTick_55 rfl ?_
  refine gr_X0_8 eX4_sellTick_56 lRX4_199 (fun r56 => ?_)
  try simp (decide := true) only [up_app, hne1, hne2, if_true, if_false, and_true, true_and, and_false, false_and, Int.toNat_natCast, Nat.add_left_cancel_iff] at r56 ⊢
  refine xs_aload_1 eX4_sellTick_59 ?_
  refine gr_X0_2 eX4_sellTick_60 lRX4_190 (fun r60 => ?_)
  try simp (decide := true) only [up_app, hne1, hne2, if_true, if_false, and_true, true_and, and_false, false_and, Int.toNat_natCast, Nat.add_left_cancel_iff] at r60 ⊢
  refine xa_iadd eX4_sellTick_63 ?_
  refine p_X0_8 eX4_sellTick_64 lRX4_199 (by omega) ?_
  exact xa_vret eX4_sellTick_67 rfl ⟨rfl, by unfold slcS at hq; exact hq⟩
set_option maxHeartbeats 4000000 in
theorem k_X4_payPenalty {w : xW} {S : xS} {B : String → xS → Prop} {A : xS → Prop} {s h : Nat} {T : Int} (hT : T ≤ 1000000) (hh : PQ T (S 4 h)) (hg : 0 ≤ S 1 s 4 ∧ S 1 s 4 ≤ 99) (hb : 0 ≤ S 1 s 6 ∧ S 1 s 6 ≤ 1000000 * T) (hq : A (pnlS s h S)) : Kv w mX4_payPenalty yX4_payPenalty 0 0 [xp 1 s, xp 4 h] S A B := by
  refine K.of rfl rfl rfl rfl (Nat.le_of_ble_eq_true rfl) rfl ?_
  have hx := xmin_or (S 1 s 4) (S 4 h 0)
  unfold PQ at hh
  refine xs_aload_0 eX4_payPenalty_0 ?_
  refine gr_X4_4 eX4_payPenalty_1 lRX4_31 (fun r1 => ?_)
  try simp (decide := true) only [up_app, if_true, if_false, and_true, true_and, and_false, false_and, Int.toNat_natCast, Nat.add_left_cancel_iff] at r1 ⊢
  refine xs_aload_1 eX4_payPenalty_4 ?_
  refine gr_X0_0 eX4_payPenalty_5 lRX4_117 (fun r5 => ?_)
  try simp (decide := true) only [up_app, if_true, if_false, and_true, true_and, and_false, false_and, Int.toNat_natCast, Nat.add_left_cancel_iff] at r5 ⊢
  refine xa_min eX4_payPenalty_8 lRX4_202 lm_min1 li_Math lm_min2 (by decide) (Nat.le_of_ble_eq_true rfl) rfl (by omega) (by omega) ?_
  refine xs_istore_2 eX4_payPenalty_11 rfl ?_
  refine xs_aload_1 eX4_payPenalty_12 ?_
  refine xa_dup eX4_payPenalty_13 rfl ?_
  refine gr_X0_0 eX4_payPenalty_14 lRX4_117 (fun r14 => ?_)
  try simp (decide := true) only [up_app, if_true, if_false, and_true, true_and, and_false, false_and, Int.toNat_natCast, Nat.add_left_cancel_iff] at r14 ⊢
  refine xs_iload_2 eX4_payPenalty_17 ?_
  refine xa_isub eX4_payPenalty_18 ?_
  refine p_X0_0 eX4_payPenalty_19 lRX4_117 (by omega) ?_
  refine xs_aload_1 eX4_payPenalty_22 ?_
  refine xa_dup eX4_payPenalty_23 rfl ?_
  refine gr_X0_10 eX4_payPenalty_24 lRX4_208 (fun r24 => ?_)
  try simp (decide := true) only [up_app, if_true, if_false, and_true, true_and, and_false, false_and, Int.toNat_natCast, Nat.add_left_cancel_iff] at r24 ⊢
  refine xs_iload_2 eX4_payPenalty_27 ?_
  refine xa_iadd eX4_payPenalty_28 ?_
  refine p_X0_10 eX4_payPenalty_29 lRX4_208 (by omega) ?_
  refine xs_aload_0 eX4_payPenalty_32 ?_
  refine xa_dup eX4_payPenalty_33 rfl ?_
  refine gr_X4_6 eX4_payPenalty_34 lRX4_49 (fun r34 => ?_)
  try simp (decide := true) only [up_app, if_true, if_false, and_true, true_and, and_false, false_and, Int.toNat_natCast, Nat.add_left_cancel_iff] at r34 ⊢
  refine xs_iload_2 eX4_payPenalty_37 ?_
  refine xa_i2l eX4_payPenalty_38 (by omega) ?_
  refine xa_ladd eX4_payPenalty_39 ?_
  refine p_X4_6 eX4_payPenalty_40 lRX4_49 (by omega) ?_
  exact xa_vret eX4_payPenalty_43 rfl ⟨rfl, hq⟩
set_option maxHeartbeats 4000000 in
theorem f_X4_giveTickOf {w : xW} {S : xS} {B : String → xS → Prop} {A : xS → Prop} {s n N b : Nat} {T : Int} (hV : VS s n N T S) (hT : T ≤ 1000000) (hb : b < N) (hh : 0 ≤ S 10 (32 * s + b) 8 ∧ S 10 (32 * s + b) 8 < n) (hq : A (useS s n (32 * s + b) S)) : Kv w mX4_giveTickOf yX4_giveTickOf 0 0 [xp 1 s, xp 10 (32 * s + b)] S A B := by
  refine K.of rfl rfl rfl rfl (Nat.le_of_ble_eq_true rfl) rfl ?_
  obtain ⟨hVT, h2, h3, h4, h5, h6, h7⟩ := id hV
  obtain ⟨g, hg⟩ : ∃ g : Nat, S 10 (32 * s + b) 8 = (g : Int) := ⟨(S 10 (32 * s + b) 8).toNat, by omega⟩
  have hgn : g < n := by omega
  have hgP := h5 g hgn
  have hO := h6 b hb
  have hn := h4.1
  have hG := id h4
  unfold GQ at hG
  unfold OQ at hO
  have hgQ := id hgP
  unfold PQ at hgQ
  unfold useS at hq
  rw [hg, Int.toNat_natCast] at hq
  refine xs_aload_0 eX4_giveTickOf_0 ?_
  refine xs_aload_1 eX4_giveTickOf_1 ?_
  refine gr_X1_8 eX4_giveTickOf_2 lRX4_165 (fun r2 => ?_)
  try simp (decide := true) only [up_app, hg, if_true, if_false, and_true, true_and, and_false, false_and, Int.toNat_natCast, Nat.add_left_cancel_iff] at r2 ⊢
  refine xbo_V10 (mi' := mX4_knownProcess) (y := yX4_knownProcess) eX4_giveTickOf_5 (xw_5 lRX4_113 wy_X4_knownProcess) rfl ⟨wd_X4_knownProcess, by decide, by decide⟩ (by decide) (fun _ => rfl) rfl (Nat.le_of_ble_eq_true rfl) rfl (kI_X4_knownProcess hn h3 (by omega) ?_)
  refine xs_astore_2 eX4_giveTickOf_8 rfl ?_
  refine xs_aload_2 eX4_giveTickOf_9 ?_
  refine gr_X0_1 eX4_giveTickOf_10 lRX4_168 (fun r10 => ?_)
  try simp (decide := true) only [up_app, hg, if_true, if_false, and_true, true_and, and_false, false_and, Int.toNat_natCast, Nat.add_left_cancel_iff] at r10 ⊢
  refine xa_if_le (tgt := 57) eX4_giveTickOf_13 (by decide) (by omega) (fun c13 => ?_) (fun c13 => ?_)
  · refine xs_aload_0 eX4_giveTickOf_57 ?_
    refine xbo_V00 (mi' := mX4_highestBidder) (y := yX4_highestBidder) eX4_giveTickOf_58 (xw_5 lRX4_173 wy_X4_highestBidder) rfl ⟨wd_X4_highestBidder, by decide, by decide⟩ (by decide) (fun _ => rfl) rfl (Nat.le_of_ble_eq_true rfl) rfl (f_X4_highestBidder hn h3 (fun eb => ?_) (fun q eb => ?_))
    · refine xs_astoren_3 eX4_giveTickOf_61 rfl ?_
      refine xs_aloadn_3 eX4_giveTickOf_62 ?_
      refine xa_ifnullN (tgt := 94) eX4_giveTickOf_63 (by decide) ?_
      refine xs_aload_0 eX4_giveTickOf_94 ?_
      refine xs_aload_2 eX4_giveTickOf_95 ?_
      refine xbv_V10 (mi' := mX4_payPenalty) (y := yX4_payPenalty) eX4_giveTickOf_96 (xw_5 lRX4_182 wy_X4_payPenalty) rfl ⟨wd_X4_payPenalty, by decide, by decide⟩ (by decide) (fun _ => rfl) rfl (Nat.le_of_ble_eq_true rfl) rfl (k_X4_payPenalty hT hgP (by omega) (by omega) ?_)
      simp only [pnlS]
      refine xs_aload_1 eX4_giveTickOf_99 ?_
      refine xa_dup eX4_giveTickOf_100 rfl ?_
      refine gr_X1_14 eX4_giveTickOf_101 lRX4_185 (fun r101 => ?_)
      try simp (decide := true) only [up_app, if_true, if_false, and_true, true_and, and_false, false_and, Int.toNat_natCast, Nat.add_left_cancel_iff] at r101 ⊢
      refine xa_iconst eX4_giveTickOf_104 ?_
      refine xa_iadd eX4_giveTickOf_105 ?_
      refine p_X1_14 eX4_giveTickOf_106 lRX4_185 (by omega) ?_
      refine xs_aload_0 eX4_giveTickOf_109 ?_
      refine xa_dup eX4_giveTickOf_110 rfl ?_
      refine gr_X4_10 eX4_giveTickOf_111 lRX4_59 (fun r111 => ?_)
      try simp (decide := true) only [up_app, if_true, if_false, and_true, true_and, and_false, false_and, Int.toNat_natCast, Nat.add_left_cancel_iff] at r111 ⊢
      refine xa_iconst eX4_giveTickOf_114 ?_
      refine xa_iadd eX4_giveTickOf_115 ?_
      refine p_X4_10 eX4_giveTickOf_116 lRX4_59 (by omega) ?_
      exact xa_vret eX4_giveTickOf_119 rfl ⟨rfl, by rw [if_neg (by omega), eb] at hq; exact hq⟩
    · have hl := hbdS_lt eb
      have hqQ := h5 q hl.1
      unfold PQ at hqQ
      have hqg : q ≠ g := fun e => by rw [e] at hl; omega
      refine xs_astore_3 eX4_giveTickOf_61 rfl ?_
      refine xs_aload_3 eX4_giveTickOf_62 ?_
      refine xa_ifnullP eX4_giveTickOf_63 ?_
      refine xs_aload_2 eX4_giveTickOf_66 ?_
      refine xs_aload_3 eX4_giveTickOf_67 ?_
      refine xbv_S20 (mi' := mX4_sellTick) (y := yX4_sellTick) eX4_giveTickOf_68 (xw_4 lRX4_177 wy_X4_sellTick) rfl rfl ⟨wd_X4_sellTick, by decide, by decide⟩ (Nat.le_of_ble_eq_true rfl) rfl (k_X4_sellTick (by omega) hT hgP (h5 q hl.1) ?_)
      simp only [slcS]
      refine xs_aload_1 eX4_giveTickOf_71 ?_
      refine xa_dup eX4_giveTickOf_72 rfl ?_
      refine gr_X1_13 eX4_giveTickOf_73 lRX4_181 (fun r73 => ?_)
      try simp (decide := true) only [up_app, if_true, if_false, and_true, true_and, and_false, false_and, Int.toNat_natCast, Nat.add_left_cancel_iff] at r73 ⊢
      refine xa_iconst eX4_giveTickOf_76 ?_
      refine xa_iadd eX4_giveTickOf_77 ?_
      refine p_X1_13 eX4_giveTickOf_78 lRX4_181 (by omega) ?_
      refine xs_aload_0 eX4_giveTickOf_81 ?_
      refine xa_dup eX4_giveTickOf_82 rfl ?_
      refine gr_X4_9 eX4_giveTickOf_83 lRX4_56 (fun r83 => ?_)
      try simp (decide := true) only [up_app, if_true, if_false, and_true, true_and, and_false, false_and, Int.toNat_natCast, Nat.add_left_cancel_iff] at r83 ⊢
      refine xa_iconst eX4_giveTickOf_86 ?_
      refine xa_iadd eX4_giveTickOf_87 ?_
      refine p_X4_9 eX4_giveTickOf_88 lRX4_56 (by omega) ?_
      refine xa_goto (tgt := 119) eX4_giveTickOf_91 (by decide) ?_
      exact xa_vret eX4_giveTickOf_119 rfl ⟨rfl, by rw [if_neg (by omega), eb] at hq; exact hq⟩
  · refine xs_aload_2 eX4_giveTickOf_16 ?_
    refine xa_dup eX4_giveTickOf_17 rfl ?_
    refine gr_X0_1 eX4_giveTickOf_18 lRX4_168 (fun r18 => ?_)
    try simp (decide := true) only [up_app, hg, if_true, if_false, and_true, true_and, and_false, false_and, Int.toNat_natCast, Nat.add_left_cancel_iff] at r18 ⊢
    refine xa_iconst eX4_giveTickOf_21 ?_
    refine xa_isub eX4_giveTickOf_22 ?_
    refine p_X0_1 eX4_giveTickOf_23 lRX4_168 (by omega) ?_
    refine xs_aload_2 eX4_giveTickOf_26 ?_
    refine xa_dup eX4_giveTickOf_27 rfl ?_
    refine gr_X0_5 eX4_giveTickOf_28 lRX4_171 (fun r28 => ?_)
    try simp (decide := true) only [up_app, hg, if_true, if_false, and_true, true_and, and_false, false_and, Int.toNat_natCast, Nat.add_left_cancel_iff] at r28 ⊢
    refine xa_iconst eX4_giveTickOf_31 ?_
    refine xa_iadd eX4_giveTickOf_32 ?_
    refine p_X0_5 eX4_giveTickOf_33 lRX4_171 (by omega) ?_
    refine xs_aload_1 eX4_giveTickOf_36 ?_
    refine xa_dup eX4_giveTickOf_37 rfl ?_
    refine gr_X1_12 eX4_giveTickOf_38 lRX4_172 (fun r38 => ?_)
    try simp (decide := true) only [up_app, hg, if_true, if_false, and_true, true_and, and_false, false_and, Int.toNat_natCast, Nat.add_left_cancel_iff] at r38 ⊢
    refine xa_iconst eX4_giveTickOf_41 ?_
    refine xa_iadd eX4_giveTickOf_42 ?_
    refine p_X1_12 eX4_giveTickOf_43 lRX4_172 (by omega) ?_
    refine xs_aload_0 eX4_giveTickOf_46 ?_
    refine xa_dup eX4_giveTickOf_47 rfl ?_
    refine gr_X4_8 eX4_giveTickOf_48 lRX4_53 (fun r48 => ?_)
    try simp (decide := true) only [up_app, hg, if_true, if_false, and_true, true_and, and_false, false_and, Int.toNat_natCast, Nat.add_left_cancel_iff] at r48 ⊢
    refine xa_iconst eX4_giveTickOf_51 ?_
    refine xa_iadd eX4_giveTickOf_52 ?_
    refine p_X4_8 eX4_giveTickOf_53 lRX4_53 (by omega) ?_
    exact xa_vret eX4_giveTickOf_56 rfl ⟨rfl, by rw [if_pos (by omega)] at hq; exact hq⟩
set_option maxHeartbeats 4000000 in
theorem f_X4_nextWithBacklog {w : xW} {S : xS} {B : String → xS → Prop} {A : Int → xS → Prop} {s n N : Nat} {T : Int} (hV : VS s n N T S) (hq : ∀ c, c = nxtS s n S n (S 1 s 7) → -1 ≤ c → c < 8 → A c S) : Ki w mX4_nextWithBacklog yX4_nextWithBacklog 0 0 [xp 1 s] S A B := by
  refine K.of rfl rfl rfl rfl (Nat.le_of_ble_eq_true rfl) rfl ?_
  obtain ⟨hVT, h2, h3, h4, h5, h6, h7⟩ := id hV
  have hn := h4.1
  have hG := id h4
  unfold GQ at hG
  have lp : ∀ i : Nat, i ≤ n → ∀ (c : Int) (_ : (-1 ≤ c ∧ c < n) ∧ nxtS s n S (n - i) c = nxtS s n S n (S 1 s 7)), X w mX4_nextWithBacklog (xTG w (fun v S' => ∃ a, v = some (xi a) ∧ A a S') B) 0 0 7 [xp 1 s, xi c, xi (i : Int)] [] S := by
    refine nloop (n) (fun i hi ih c hI => ?_)
    refine xs_iload_2 eX4_nextWithBacklog_7 ?_
    refine xs_aload_0 eX4_nextWithBacklog_8 ?_
    refine gr_X4_3 eX4_nextWithBacklog_9 lRX4_46 (fun r9 => ?_)
    refine xa_icmp_ge (tgt := 52) eX4_nextWithBacklog_12 (by decide) (by omega) (by omega) (fun c12 => ?_) (fun c12 => ?_)
    · refine xa_iconst eX4_nextWithBacklog_52 ?_
      exact xa_iret eX4_nextWithBacklog_53 rfl ⟨_, rfl, hq _ (by rw [← hI.2, show n - i = 0 by omega, nxtS]) (by omega) (by omega)⟩
    · have e : nxtS s n S (n - i) c = (if 0 < S 4 (8 * s + (if c + 1 < n then c + 1 else 0).toNat) 1 then (if c + 1 < n then c + 1 else 0) else nxtS s n S (n - (i + 1)) (if c + 1 < n then c + 1 else 0)) := by rw [show n - i = (n - (i + 1)) + 1 by omega, nxtS]
      refine xs_iload_1 eX4_nextWithBacklog_15 ?_
      refine xa_iconst eX4_nextWithBacklog_16 ?_
      refine xa_iadd eX4_nextWithBacklog_17 ?_
      refine xs_aload_0 eX4_nextWithBacklog_18 ?_
      refine gr_X4_3 eX4_nextWithBacklog_19 lRX4_46 (fun r19 => ?_)
      refine xa_icmp_ge (tgt := 31) eX4_nextWithBacklog_22 (by decide) (by omega) (by omega) (fun c22 => ?_) (fun c22 => ?_)
      · refine xa_iconst eX4_nextWithBacklog_31 ?_
        refine xs_istore_1 eX4_nextWithBacklog_32 rfl ?_
        refine xs_aload_0 eX4_nextWithBacklog_33 ?_
        refine xs_iload_1 eX4_nextWithBacklog_34 ?_
        refine xbo_V10 (mi' := mX4_knownProcess) (y := yX4_knownProcess) eX4_nextWithBacklog_35 (xw_5 lRX4_113 wy_X4_knownProcess) rfl ⟨wd_X4_knownProcess, by decide, by decide⟩ (by decide) (fun _ => rfl) rfl (Nat.le_of_ble_eq_true rfl) rfl (kI_X4_knownProcess hn h3 (by omega) ?_)
        refine gr_X0_1 eX4_nextWithBacklog_38 lRX4_168 (fun r38 => ?_)
        refine xa_if_le (tgt := 46) eX4_nextWithBacklog_41 (by decide) (by omega) (fun c41 => ?_) (fun c41 => ?_)
        · refine xs_iinc_2 eX4_nextWithBacklog_46 rfl ?_
          refine xa_goto (tgt := 7) eX4_nextWithBacklog_49 (by decide) ?_
          exact ih (i + 1) (by omega) (by omega) 0 ⟨by omega, by rw [← hI.2, e, if_neg (show ¬ c + 1 < (n : Int) by omega)]; rw [if_neg (by omega)]⟩
        · refine xs_iload_1 eX4_nextWithBacklog_44 ?_
          exact xa_iret eX4_nextWithBacklog_45 rfl ⟨_, rfl, hq _ (by rw [← hI.2, e, if_neg (show ¬ c + 1 < (n : Int) by omega)]; rw [if_pos (by omega)]) (by omega) (by omega)⟩
      · refine xs_iload_1 eX4_nextWithBacklog_25 ?_
        refine xa_iconst eX4_nextWithBacklog_26 ?_
        refine xa_iadd eX4_nextWithBacklog_27 ?_
        refine xa_goto (tgt := 32) eX4_nextWithBacklog_28 (by decide) ?_
        refine xs_istore_1 eX4_nextWithBacklog_32 rfl ?_
        refine xs_aload_0 eX4_nextWithBacklog_33 ?_
        refine xs_iload_1 eX4_nextWithBacklog_34 ?_
        refine xbo_V10 (mi' := mX4_knownProcess) (y := yX4_knownProcess) eX4_nextWithBacklog_35 (xw_5 lRX4_113 wy_X4_knownProcess) rfl ⟨wd_X4_knownProcess, by decide, by decide⟩ (by decide) (fun _ => rfl) rfl (Nat.le_of_ble_eq_true rfl) rfl (kI_X4_knownProcess hn h3 (by omega) ?_)
        refine gr_X0_1 eX4_nextWithBacklog_38 lRX4_168 (fun r38 => ?_)
        refine xa_if_le (tgt := 46) eX4_nextWithBacklog_41 (by decide) (by omega) (fun c41 => ?_) (fun c41 => ?_)
        · refine xs_iinc_2 eX4_nextWithBacklog_46 rfl ?_
          refine xa_goto (tgt := 7) eX4_nextWithBacklog_49 (by decide) ?_
          exact ih (i + 1) (by omega) (by omega) (c + 1) ⟨by omega, by rw [← hI.2, e, if_pos (show c + 1 < (n : Int) by omega)]; rw [if_neg (by omega)]⟩
        · refine xs_iload_1 eX4_nextWithBacklog_44 ?_
          exact xa_iret eX4_nextWithBacklog_45 rfl ⟨_, rfl, hq _ (by rw [← hI.2, e, if_pos (show c + 1 < (n : Int) by omega)]; rw [if_pos (by omega)]) (by omega) (by omega)⟩
  refine xs_aload_0 eX4_nextWithBacklog_0 ?_
  refine gr_X4_7 eX4_nextWithBacklog_1 lRX4_38 (fun r1 => ?_)
  refine xs_istore_1 eX4_nextWithBacklog_4 rfl ?_
  refine xa_iconst eX4_nextWithBacklog_5 ?_
  refine xs_istore_2 eX4_nextWithBacklog_6 rfl ?_
  exact lp 0 (by omega) _ ⟨by omega, by rw [Nat.sub_zero]⟩
set_option maxHeartbeats 4000000 in
theorem f_X4_giveFreeTick {w : xW} {S : xS} {B : String → xS → Prop} {A : xS → Prop} {s n N : Nat} {T : Int} (hV : VS s n N T S) (hT : T ≤ 1000000) (hq : A (freS s n S)) : Kv w mX4_giveFreeTick yX4_giveFreeTick 0 0 [xp 1 s] S A B := by
  refine K.of rfl rfl rfl rfl (Nat.le_of_ble_eq_true rfl) rfl ?_
  obtain ⟨hVT, h2, h3, h4, h5, h6, h7⟩ := id hV
  have hn := h4.1
  have hG := id h4
  unfold GQ at hG
  unfold freS at hq
  refine xs_aload_0 eX4_giveFreeTick_0 ?_
  refine xbi_V00 (mi' := mX4_nextWithBacklog) (y := yX4_nextWithBacklog) eX4_giveFreeTick_1 (xw_5 lRX4_211 wy_X4_nextWithBacklog) rfl ⟨wd_X4_nextWithBacklog, by decide, by decide⟩ (by decide) (fun _ => rfl) rfl (Nat.le_of_ble_eq_true rfl) rfl (f_X4_nextWithBacklog hV (fun c hc hc1 hc8 => ?_))
  refine xs_istore_1 eX4_giveFreeTick_4 rfl ?_
  refine xs_iload_1 eX4_giveFreeTick_5 ?_
  refine xa_iconst eX4_giveFreeTick_6 ?_
  refine xa_icmp_ne (tgt := 21) eX4_giveFreeTick_7 (by decide) (by omega) (by omega) (fun c7 => ?_) (fun c7 => ?_)
  · have h0 : 0 < n := Nat.pos_of_ne_zero (fun z => c7 (by rw [hc, z]; rfl))
    have hr := nxtS_r (s := s) (S := S) h0 n (S 1 s 7) (by omega)
    rw [← hc] at hr
    obtain ⟨q, rfl⟩ : ∃ q : Nat, c = (q : Int) := ⟨c.toNat, by omega⟩
    have hqQ := h5 q (by omega)
    unfold PQ at hqQ
    refine xs_aload_0 eX4_giveFreeTick_21 ?_
    refine xs_iload_1 eX4_giveFreeTick_22 ?_
    refine xbo_V10 (mi' := mX4_knownProcess) (y := yX4_knownProcess) eX4_giveFreeTick_23 (xw_5 lRX4_113 wy_X4_knownProcess) rfl ⟨wd_X4_knownProcess, by decide, by decide⟩ (by decide) (fun _ => rfl) rfl (Nat.le_of_ble_eq_true rfl) rfl (kI_X4_knownProcess hn h3 (by omega) ?_)
    refine xs_astore_2 eX4_giveFreeTick_26 rfl ?_
    refine xs_aload_2 eX4_giveFreeTick_27 ?_
    refine xa_dup eX4_giveFreeTick_28 rfl ?_
    refine gr_X0_1 eX4_giveFreeTick_29 lRX4_168 (fun r29 => ?_)
    try simp (decide := true) only [up_app, if_true, if_false, and_true, true_and, and_false, false_and, Int.toNat_natCast, Nat.add_left_cancel_iff] at r29 ⊢
    refine xa_iconst eX4_giveFreeTick_32 ?_
    refine xa_isub eX4_giveFreeTick_33 ?_
    refine p_X0_1 eX4_giveFreeTick_34 lRX4_168 (by omega) ?_
    refine xs_aload_2 eX4_giveFreeTick_37 ?_
    refine xa_dup eX4_giveFreeTick_38 rfl ?_
    refine gr_X0_7 eX4_giveFreeTick_39 lRX4_214 (fun r39 => ?_)
    try simp (decide := true) only [up_app, if_true, if_false, and_true, true_and, and_false, false_and, Int.toNat_natCast, Nat.add_left_cancel_iff] at r39 ⊢
    refine xa_iconst eX4_giveFreeTick_42 ?_
    refine xa_iadd eX4_giveFreeTick_43 ?_
    refine p_X0_7 eX4_giveFreeTick_44 lRX4_214 (by omega) ?_
    refine xs_aload_0 eX4_giveFreeTick_47 ?_
    refine xa_dup eX4_giveFreeTick_48 rfl ?_
    refine gr_X4_11 eX4_giveFreeTick_49 lRX4_62 (fun r49 => ?_)
    try simp (decide := true) only [up_app, if_true, if_false, and_true, true_and, and_false, false_and, Int.toNat_natCast, Nat.add_left_cancel_iff] at r49 ⊢
    refine xa_iconst eX4_giveFreeTick_52 ?_
    refine xa_iadd eX4_giveFreeTick_53 ?_
    refine p_X4_11 eX4_giveFreeTick_54 lRX4_62 (by omega) ?_
    refine xs_aload_0 eX4_giveFreeTick_57 ?_
    refine xs_iload_1 eX4_giveFreeTick_58 ?_
    refine p_X4_7 eX4_giveFreeTick_59 lRX4_38 (by omega) ?_
    exact xa_vret eX4_giveFreeTick_62 rfl ⟨rfl, by rw [if_neg (by omega), ← hc, Int.toNat_natCast] at hq; exact hq⟩
  · refine xs_aload_0 eX4_giveFreeTick_10 ?_
    refine xa_dup eX4_giveFreeTick_11 rfl ?_
    refine gr_X4_12 eX4_giveFreeTick_12 lRX4_65 (fun r12 => ?_)
    try simp (decide := true) only [up_app, if_true, if_false, and_true, true_and, and_false, false_and, Int.toNat_natCast, Nat.add_left_cancel_iff] at r12 ⊢
    refine xa_iconst eX4_giveFreeTick_15 ?_
    refine xa_iadd eX4_giveFreeTick_16 ?_
    refine p_X4_12 eX4_giveFreeTick_17 lRX4_65 (by omega) ?_
    exact xa_vret eX4_giveFreeTick_20 rfl ⟨rfl, by rw [if_pos (by omega)] at hq; exact hq⟩
set_option maxHeartbeats 4000000 in
theorem f_X4_passTick {w : xW} {S : xS} {B : String → xS → Prop} {A : xS → Prop} {s n N : Nat} {T : Int} (hV : VS s n N T S) (hT : T ≤ 900000) (hq : A (tckS s n N S)) : Kv w mX4_passTick yX4_passTick 0 0 [xp 1 s] S A B := by
  refine K.of rfl rfl rfl rfl (Nat.le_of_ble_eq_true rfl) rfl ?_
  obtain ⟨hVT, h2, h3, h4, h5, h6, h7⟩ := id hV
  have hn := h4.1
  have hG := id h4
  unfold GQ at hG
  have hV2 := (hV.arr (i := n)).rel
  have hta := hVT.2.2.1
  have lp : ∀ i : Nat, i ≤ n → ∀ a1 : Int,  X w mX4_passTick (xTG w (fun v S' => v = none ∧ A S') B) 0 0 2 [xp 1 s, xi (i : Int)] [] (arrS s i S) := by
    refine nloop (n) (fun i hi ih a1 => ?_)
    have hPi : i < n → PQ T (S 4 (8 * s + i)) := fun z => h5 i z
    unfold PQ at hPi
    refine xs_iload_1 eX4_passTick_2 ?_
    refine xs_aload_0 eX4_passTick_3 ?_
    refine gr_X4_3 eX4_passTick_4 lRX4_46 (fun r4 => ?_)
    try simp (decide := true) only [hn, arrS_o (k := 1) (by decide), arrS_o (k := 2) (by decide), arrS_4, Int.toNat_natCast] at r4 ⊢
    refine xa_icmp_ge (tgt := 32) eX4_passTick_7 (by decide) (by omega) (by omega) (fun c7 => ?_) (fun c7 => ?_)
    · rw [show i = n by omega]
      refine xs_aload_0 eX4_passTick_32 ?_
      refine g_X4_0 eX4_passTick_33 lRX4_12 ?_
      refine xbv_V00 (mi' := mX5_releaseJobs) (y := yX5_releaseJobs) eX4_passTick_36 (xw_5 lRX4_148 wy_X5_releaseJobs) rfl ⟨wd_X5_releaseJobs, by decide, by decide⟩ (by decide) (fun _ => rfl) rfl (Nat.le_of_ble_eq_true rfl) rfl (f_X5_releaseJobs (hV.arr (i := n)).vt (by omega) ?_)
      refine xs_aload_0 eX4_passTick_39 ?_
      refine g_X4_0 eX4_passTick_40 lRX4_12 ?_
      refine xbo_V00 (mi' := mX5_chooseJob) (y := yX5_chooseJob) eX4_passTick_43 (xw_5 lRX4_151 wy_X5_chooseJob) rfl ⟨wd_X5_chooseJob, by decide, by decide⟩ (by decide) (fun _ => rfl) rfl (Nat.le_of_ble_eq_true rfl) rfl (f_X5_chooseJob hV2.vt (fun e5 => ?_) (fun b hb e5 => ?_))
      · have hV3 := hV2.fre
        refine xs_astoren_1 eX4_passTick_46 rfl ?_
        refine xs_aloadn_1 eX4_passTick_47 ?_
        refine xa_ifnonnullN eX4_passTick_48 ?_
        refine xs_aload_0 eX4_passTick_51 ?_
        refine xbv_V00 (mi' := mX4_giveFreeTick) (y := yX4_giveFreeTick) eX4_passTick_52 (xw_5 lRX4_155 wy_X4_giveFreeTick) rfl ⟨wd_X4_giveFreeTick, by decide, by decide⟩ (by decide) (fun _ => rfl) rfl (Nat.le_of_ble_eq_true rfl) rfl (f_X4_giveFreeTick hV2 (by omega) ?_)
        refine xa_goto (tgt := 63) eX4_passTick_55 (by decide) ?_
        refine xs_aload_0 eX4_passTick_63 ?_
        refine xa_dup eX4_passTick_64 rfl ?_
        refine gr_X4_13 eX4_passTick_65 lRX4_68 (fun r65 => ?_)
        refine xs_aload_0 eX4_passTick_68 ?_
        refine g_X4_0 eX4_passTick_69 lRX4_12 ?_
        refine xbi_V00 (mi' := mX5_growTime) (y := yX5_growTime) eX4_passTick_72 (xw_5 lRX4_162 wy_X5_growTime) rfl ⟨wd_X5_growTime, by decide, by decide⟩ (by decide) (fun _ => rfl) rfl (Nat.le_of_ble_eq_true rfl) rfl (f_X5_growTime hV3.vt (by omega) ?_)
        refine xa_iadd eX4_passTick_75 ?_
        refine p_X4_13 eX4_passTick_76 lRX4_68 (by have h9 := misT_r (t := s) (N := N) (S := freS s n (relT s N (arrS s n S))) (by omega); have h10 := hV3.2.2.2.1; unfold GQ at h10; omega) ?_
        exact xa_vret eX4_passTick_79 rfl ⟨rfl, by unfold tckS actS at hq; rw [e5] at hq; exact hq⟩
      · have hh9 : 0 ≤ decT s (some b) (relT s N (arrS s n S)) 10 (32 * s + b) 8 ∧ decT s (some b) (relT s N (arrS s n S)) 10 (32 * s + b) 8 < n := by
          have h9 := hV2.2.2.2.2.2.1 b hb
          unfold OQ at h9
          unfold decT
          show 0 ≤ up _ 10 _ 6 _ 10 _ 8 ∧ up _ 10 _ 6 _ 10 _ 8 < _
          rw [up_f (by decide)]
          exact h9.2.1 (bstT_lt e5).2
        have hV3 := (hV2.dec e5).use hb hh9
        rw [show choT s N (relT s N (arrS s n S)) = decT s (some b) (relT s N (arrS s n S)) by unfold choT; rw [e5]]
        refine xs_astore_1 eX4_passTick_46 rfl ?_
        refine xs_aload_1 eX4_passTick_47 ?_
        refine xa_ifnonnullP (tgt := 58) eX4_passTick_48 (by decide) ?_
        refine xs_aload_0 eX4_passTick_58 ?_
        refine xs_aload_1 eX4_passTick_59 ?_
        refine xbv_V10 (mi' := mX4_giveTickOf) (y := yX4_giveTickOf) eX4_passTick_60 (xw_5 lRX4_158 wy_X4_giveTickOf) rfl ⟨wd_X4_giveTickOf, by decide, by decide⟩ (by decide) (fun _ => rfl) rfl (Nat.le_of_ble_eq_true rfl) rfl (f_X4_giveTickOf (hV2.dec e5) (by omega) hb hh9 ?_)
        refine xs_aload_0 eX4_passTick_63 ?_
        refine xa_dup eX4_passTick_64 rfl ?_
        refine gr_X4_13 eX4_passTick_65 lRX4_68 (fun r65 => ?_)
        refine xs_aload_0 eX4_passTick_68 ?_
        refine g_X4_0 eX4_passTick_69 lRX4_12 ?_
        refine xbi_V00 (mi' := mX5_growTime) (y := yX5_growTime) eX4_passTick_72 (xw_5 lRX4_162 wy_X5_growTime) rfl ⟨wd_X5_growTime, by decide, by decide⟩ (by decide) (fun _ => rfl) rfl (Nat.le_of_ble_eq_true rfl) rfl (f_X5_growTime hV3.vt (by omega) ?_)
        refine xa_iadd eX4_passTick_75 ?_
        refine p_X4_13 eX4_passTick_76 lRX4_68 (by have h9 := misT_r (t := s) (N := N) (S := useS s n (32 * s + b) (decT s (some b) (relT s N (arrS s n S)))) (by omega); have h10 := hV3.2.2.2.1; unfold GQ at h10; omega) ?_
        exact xa_vret eX4_passTick_79 rfl ⟨rfl, by unfold tckS actS at hq; rw [e5] at hq; exact hq⟩
    · refine xs_aload_0 eX4_passTick_10 ?_
      refine g_X4_1 eX4_passTick_11 lRX4_20 ?_
      refine xs_iload_1 eX4_passTick_14 ?_
      refine ga_22 eX4_passTick_15 (by omega) ?_
      try simp (decide := true) only [hn, arrS_o (k := 1) (by decide), arrS_o (k := 2) (by decide), arrS_4, Int.toNat_natCast]
      refine xs_aload_0 eX4_passTick_16 ?_
      refine g_X4_0 eX4_passTick_17 lRX4_12 ?_
      refine gr_X5_2 eX4_passTick_20 lRX4_92 (fun r20 => ?_)
      try simp (decide := true) only [hn, arrS_o (k := 1) (by decide), arrS_o (k := 2) (by decide), arrS_4, Int.toNat_natCast] at r20 ⊢
      refine xbv_V10 (mi' := mX0_arrive) (y := yX0_arrive) eX4_passTick_23 (xw_5 lRX4_145 wy_X0_arrive) rfl ⟨wd_X0_arrive, by decide, by decide⟩ (by decide) (fun _ => rfl) rfl (Nat.le_of_ble_eq_true rfl) rfl (k_X0_arrive (by omega) (by rw [arrS_4]; omega) (by rw [arrS_4, arrS_4]; omega) ?_)
      simp only [arrS_4]
      refine xs_iinc_1 eX4_passTick_26 rfl ?_
      refine xa_goto (tgt := 2) eX4_passTick_29 (by decide) ?_
      refine X_cast arrS_s.symm ?_
      exact ih (i + 1) (by omega) (by omega) a1
  refine xa_iconst eX4_passTick_0 ?_
  refine xs_istore_1 eX4_passTick_1 rfl ?_
  have h9 := lp 0 (by omega) 0
  rw [arrS_0] at h9
  exact h9
set_option maxHeartbeats 4000000 in
theorem f_X4_pass {w : xW} {S : xS} {B : String → xS → Prop} {A : xS → Prop} {s n N m : Nat} {T : Int} (hV : VS s n N T S) (hT : T + 3 * (m : Int) ≤ 900000) (hm : m ≤ 1000) (hq : A (itr (tckS s n N) m S)) : Kv w mX4_pass yX4_pass 0 0 [xp 1 s, xi (m : Int)] S A B := by
  refine K.of rfl rfl rfl rfl (Nat.le_of_ble_eq_true rfl) rfl ?_
  have lp : ∀ i : Nat, i ≤ m →  X w mX4_pass (xTG w (fun v S' => v = none ∧ A S') B) 0 0 2 [xp 1 s, xi (m : Int), xi (i : Int)] [] (itr (tckS s n N) i S) := by
    refine nloop (m) (fun i hi ih  => ?_)
    refine xs_iload_2 eX4_pass_2 ?_
    refine xs_iload_1 eX4_pass_3 ?_
    refine xa_icmp_ge (tgt := 17) eX4_pass_4 (by decide) (by omega) (by omega) (fun c4 => ?_) (fun c4 => ?_)
    · exact xa_vret eX4_pass_17 rfl ⟨rfl, by rw [show m = i by omega] at hq; exact hq⟩
    · refine xs_aload_0 eX4_pass_7 ?_
      refine xbv_V00 (mi' := mX4_passTick) (y := yX4_passTick) eX4_pass_8 (xw_5 lRX4_142 wy_X4_passTick) rfl ⟨wd_X4_passTick, by decide, by decide⟩ (by decide) (fun _ => rfl) rfl (Nat.le_of_ble_eq_true rfl) rfl (f_X4_passTick (hV.itr i) (by omega) ?_)
      refine xs_iinc_2 eX4_pass_11 rfl ?_
      refine xa_goto (tgt := 2) eX4_pass_14 (by decide) ?_
      exact ih (i + 1) (by omega) (by omega)
  refine xa_iconst eX4_pass_0 ?_
  refine xs_istore_2 eX4_pass_1 rfl ?_
  exact lp 0 (by omega)

