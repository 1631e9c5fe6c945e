/-! PromiseMarket$Timeline: sums and the splitting of a promise -/
theorem k_X5_countOwnedBy {w : xW} {S : xS} {B : String → xS → Prop} {A : Int → xS → Prop} {t N : Nat} {a : Int} (ha : xr a) (hN : S 2 t 1 = (N : Int)) (h21 : N ≤ 21) (hq : A (sm (fun j => if S 10 (32 * t + j) 0 = 0 ∧ S 10 (32 * t + j) 1 = a then 1 else 0) N) S) : Ki w mX5_countOwnedBy yX5_countOwnedBy 0 0 [xp 2 t, xi a] S A B := by
  refine K.of rfl rfl rfl rfl (Nat.le_of_ble_eq_true rfl) rfl ?_
  have lp : ∀ i : Nat, i ≤ N → X w mX5_countOwnedBy (xTG w (fun v S' => ∃ a, v = some (xi a) ∧ A a S') B) 0 0 4 [xp 2 t, xi a, xi (sm (fun j => if S 10 (32 * t + j) 0 = 0 ∧ S 10 (32 * t + j) 1 = a then 1 else 0) i), xi (i : Int)] [] S := by
    refine nloop (N) (fun i hi ih => ?_)
    refine xs_iload_3 eX5_countOwnedBy_4 ?_
    refine xs_aload_0 eX5_countOwnedBy_5 ?_
    refine gr_X5_1 eX5_countOwnedBy_6 lRX5_18 (fun r6 => ?_)
    try simp (decide := true) only [up_app, if_true, if_false, and_true, true_and, and_false, false_and, Int.toNat_natCast, Nat.add_left_cancel_iff] at r6 ⊢
    refine xa_icmp_ge (tgt := 46) eX5_countOwnedBy_9 (by decide) (by omega) (by omega) (fun c9 => ?_) (fun c9 => ?_)
    · refine xs_iload_2 eX5_countOwnedBy_46 ?_
      exact xa_iret eX5_countOwnedBy_47 rfl ⟨_, rfl, by have e : N = i := (by omega); rw [e] at hq; exact hq⟩
    · refine xs_aload_0 eX5_countOwnedBy_12 ?_
      refine g_X5_0 eX5_countOwnedBy_13 lRX5_13 ?_
      refine xs_iload_3 eX5_countOwnedBy_16 ?_
      refine ga_23 eX5_countOwnedBy_17 (by omega) ?_
      try simp (decide := true) only [up_app, if_true, if_false, and_true, true_and, and_false, false_and, Int.toNat_natCast, Nat.add_left_cancel_iff]
      refine gr_X1_0 eX5_countOwnedBy_18 lRX5_56 (fun r18 => ?_)
      try simp (decide := true) only [up_app, if_true, if_false, and_true, true_and, and_false, false_and, Int.toNat_natCast, Nat.add_left_cancel_iff] at r18 ⊢
      refine xa_if_ne (tgt := 40) eX5_countOwnedBy_21 (by decide) (by omega) (fun c21 => ?_) (fun c21 => ?_)
      · refine xs_iinc_3 eX5_countOwnedBy_40 rfl ?_
        refine xa_goto (tgt := 4) eX5_countOwnedBy_43 (by decide) ?_
        have h9 := ih (i + 1) (by omega) (by omega)
        rw [sm_s] at h9
        (first | rw [if_pos (by omega)] at h9 | rw [if_neg (by omega), Int.add_zero] at h9)
        exact h9
      · refine xs_aload_0 eX5_countOwnedBy_24 ?_
        refine g_X5_0 eX5_countOwnedBy_25 lRX5_13 ?_
        refine xs_iload_3 eX5_countOwnedBy_28 ?_
        refine ga_23 eX5_countOwnedBy_29 (by omega) ?_
        try simp (decide := true) only [up_app, if_true, if_false, and_true, true_and, and_false, false_and, Int.toNat_natCast, Nat.add_left_cancel_iff]
        refine gr_X1_1 eX5_countOwnedBy_30 lRX5_40 (fun r30 => ?_)
        try simp (decide := true) only [up_app, if_true, if_false, and_true, true_and, and_false, false_and, Int.toNat_natCast, Nat.add_left_cancel_iff] at r30 ⊢
        refine xs_iload_1 eX5_countOwnedBy_33 ?_
        refine xa_icmp_ne (tgt := 40) eX5_countOwnedBy_34 (by decide) (by omega) (by omega) (fun c34 => ?_) (fun c34 => ?_)
        · refine xs_iinc_3 eX5_countOwnedBy_40 rfl ?_
          refine xa_goto (tgt := 4) eX5_countOwnedBy_43 (by decide) ?_
          have h9 := ih (i + 1) (by omega) (by omega)
          rw [sm_s] at h9
          (first | rw [if_pos (by omega)] at h9 | rw [if_neg (by omega), Int.add_zero] at h9)
          exact h9
        · refine xs_iinc_2 eX5_countOwnedBy_37 rfl ?_
          refine xs_iinc_3 eX5_countOwnedBy_40 rfl ?_
          refine xa_goto (tgt := 4) eX5_countOwnedBy_43 (by decide) ?_
          have h9 := ih (i + 1) (by omega) (by omega)
          rw [sm_s] at h9
          (first | rw [if_pos (by omega)] at h9 | rw [if_neg (by omega), Int.add_zero] at h9)
          exact h9
  refine xa_iconst eX5_countOwnedBy_0 ?_
  refine xs_istore_2 eX5_countOwnedBy_1 rfl ?_
  refine xa_iconst eX5_countOwnedBy_2 ?_
  refine xs_istore_3 eX5_countOwnedBy_3 rfl ?_
  exact lp 0 (by omega)
theorem k_X5_countNotEnded {w : xW} {S : xS} {B : String → xS → Prop} {A : Int → xS → Prop} {t N : Nat} (hN : S 2 t 1 = (N : Int)) (h21 : N ≤ 21) (hq : A (sm (fun j => if S 10 (32 * t + j) 0 = 0 then 1 else 0) N) S) : Ki w mX5_countNotEnded yX5_countNotEnded 0 0 [xp 2 t] S A B := by
  refine K.of rfl rfl rfl rfl (Nat.le_of_ble_eq_true rfl) rfl ?_
  have lp : ∀ i : Nat, i ≤ N → X w mX5_countNotEnded (xTG w (fun v S' => ∃ a, v = some (xi a) ∧ A a S') B) 0 0 4 [xp 2 t, xi (sm (fun j => if S 10 (32 * t + j) 0 = 0 then 1 else 0) i), xi (i : Int)] [] S := by
    refine nloop (N) (fun i hi ih => ?_)
    refine xs_iload_2 eX5_countNotEnded_4 ?_
    refine xs_aload_0 eX5_countNotEnded_5 ?_
    refine gr_X5_1 eX5_countNotEnded_6 lRX5_18 (fun r6 => ?_)
    try simp (decide := true) only [up_app, if_true, if_false, and_true, true_and, and_false, false_and, Int.toNat_natCast, Nat.add_left_cancel_iff] at r6 ⊢
    refine xa_icmp_ge (tgt := 33) eX5_countNotEnded_9 (by decide) (by omega) (by omega) (fun c9 => ?_) (fun c9 => ?_)
    · refine xs_iload_1 eX5_countNotEnded_33 ?_
      exact xa_iret eX5_countNotEnded_34 rfl ⟨_, rfl, by have e : N = i := (by omega); rw [e] at hq; exact hq⟩
    · refine xs_aload_0 eX5_countNotEnded_12 ?_
      refine g_X5_0 eX5_countNotEnded_13 lRX5_13 ?_
      refine xs_iload_2 eX5_countNotEnded_16 ?_
      refine ga_23 eX5_countNotEnded_17 (by omega) ?_
      try simp (decide := true) only [up_app, if_true, if_false, and_true, true_and, and_false, false_and, Int.toNat_natCast, Nat.add_left_cancel_iff]
      refine gr_X1_0 eX5_countNotEnded_18 lRX5_56 (fun r18 => ?_)
      try simp (decide := true) only [up_app, if_true, if_false, and_true, true_and, and_false, false_and, Int.toNat_natCast, Nat.add_left_cancel_iff] at r18 ⊢
      refine xa_if_ne (tgt := 27) eX5_countNotEnded_21 (by decide) (by omega) (fun c21 => ?_) (fun c21 => ?_)
      · refine xs_iinc_2 eX5_countNotEnded_27 rfl ?_
        refine xa_goto (tgt := 4) eX5_countNotEnded_30 (by decide) ?_
        have h9 := ih (i + 1) (by omega) (by omega)
        rw [sm_s] at h9
        (first | rw [if_pos (by omega)] at h9 | rw [if_neg (by omega), Int.add_zero] at h9)
        exact h9
      · refine xs_iinc_1 eX5_countNotEnded_24 rfl ?_
        refine xs_iinc_2 eX5_countNotEnded_27 rfl ?_
        refine xa_goto (tgt := 4) eX5_countNotEnded_30 (by decide) ?_
        have h9 := ih (i + 1) (by omega) (by omega)
        rw [sm_s] at h9
        (first | rw [if_pos (by omega)] at h9 | rw [if_neg (by omega), Int.add_zero] at h9)
        exact h9
  refine xa_iconst eX5_countNotEnded_0 ?_
  refine xs_istore_1 eX5_countNotEnded_1 rfl ?_
  refine xa_iconst eX5_countNotEnded_2 ?_
  refine xs_istore_2 eX5_countNotEnded_3 rfl ?_
  exact lp 0 (by omega)
theorem k_X5_ticksInCycle {w : xW} {S : xS} {B : String → xS → Prop} {A : Int → xS → Prop} {t N : Nat} (hN : S 2 t 1 = (N : Int)) (h21 : N ≤ 21) (hq : A (sm (fun j => if S 10 (32 * t + j) 0 = 0 then xtic (S 10 (32 * t + j)) else 0) N) S) : Ki w mX5_ticksInCycle yX5_ticksInCycle 0 0 [xp 2 t] S A B := by
  refine K.of rfl rfl rfl rfl (Nat.le_of_ble_eq_true rfl) rfl ?_
  have lp : ∀ i : Nat, i ≤ N → X w mX5_ticksInCycle (xTG w (fun v S' => ∃ a, v = some (xi a) ∧ A a S') B) 0 0 4 [xp 2 t, xi (sm (fun j => if S 10 (32 * t + j) 0 = 0 then xtic (S 10 (32 * t + j)) else 0) i), xi (i : Int)] [] S := by
    refine nloop (N) (fun i hi ih => ?_)
    refine xs_iload_2 eX5_ticksInCycle_4 ?_
    refine xs_aload_0 eX5_ticksInCycle_5 ?_
    refine gr_X5_1 eX5_ticksInCycle_6 lRX5_18 (fun r6 => ?_)
    try simp (decide := true) only [up_app, if_true, if_false, and_true, true_and, and_false, false_and, Int.toNat_natCast, Nat.add_left_cancel_iff] at r6 ⊢
    refine xa_icmp_ge (tgt := 42) eX5_ticksInCycle_9 (by decide) (by omega) (by omega) (fun c9 => ?_) (fun c9 => ?_)
    · refine xs_iload_1 eX5_ticksInCycle_42 ?_
      exact xa_iret eX5_ticksInCycle_43 rfl ⟨_, rfl, by have e : N = i := (by omega); rw [e] at hq; exact hq⟩
    · refine xs_aload_0 eX5_ticksInCycle_12 ?_
      refine g_X5_0 eX5_ticksInCycle_13 lRX5_13 ?_
      refine xs_iload_2 eX5_ticksInCycle_16 ?_
      refine ga_23 eX5_ticksInCycle_17 (by omega) ?_
      try simp (decide := true) only [up_app, if_true, if_false, and_true, true_and, and_false, false_and, Int.toNat_natCast, Nat.add_left_cancel_iff]
      refine gr_X1_0 eX5_ticksInCycle_18 lRX5_56 (fun r18 => ?_)
      try simp (decide := true) only [up_app, if_true, if_false, and_true, true_and, and_false, false_and, Int.toNat_natCast, Nat.add_left_cancel_iff] at r18 ⊢
      refine xa_if_ne (tgt := 36) eX5_ticksInCycle_21 (by decide) (by omega) (fun c21 => ?_) (fun c21 => ?_)
      · refine xs_iinc_2 eX5_ticksInCycle_36 rfl ?_
        refine xa_goto (tgt := 4) eX5_ticksInCycle_39 (by decide) ?_
        have h9 := ih (i + 1) (by omega) (by omega)
        rw [sm_s] at h9
        (first | rw [if_pos (by omega)] at h9 | rw [if_neg (by omega), Int.add_zero] at h9)
        exact h9
      · refine xs_iload_1 eX5_ticksInCycle_24 ?_
        refine xs_aload_0 eX5_ticksInCycle_25 ?_
        refine g_X5_0 eX5_ticksInCycle_26 lRX5_13 ?_
        refine xs_iload_2 eX5_ticksInCycle_29 ?_
        refine ga_23 eX5_ticksInCycle_30 (by omega) ?_
        try simp (decide := true) only [up_app, if_true, if_false, and_true, true_and, and_false, false_and, Int.toNat_natCast, Nat.add_left_cancel_iff]
        refine xbi_V00 (mi' := mX1_ticksInCycle) (y := yX1_ticksInCycle) eX5_ticksInCycle_31 (xw_5 lRX5_97 wy_X1_ticksInCycle) rfl ⟨wd_X1_ticksInCycle, by decide, by decide⟩ (by decide) (fun _ => rfl) rfl (Nat.le_of_ble_eq_true rfl) rfl (k_X1_ticksInCycle ?_)
        refine xa_iadd eX5_ticksInCycle_34 ?_
        refine xs_istore_1 eX5_ticksInCycle_35 rfl ?_
        refine xs_iinc_2 eX5_ticksInCycle_36 rfl ?_
        refine xa_goto (tgt := 4) eX5_ticksInCycle_39 (by decide) ?_
        have h9 := ih (i + 1) (by omega) (by omega)
        rw [sm_s] at h9
        (first | rw [if_pos (by omega)] at h9 | rw [if_neg (by omega), Int.add_zero] at h9)
        exact h9
  refine xa_iconst eX5_ticksInCycle_0 ?_
  refine xs_istore_1 eX5_ticksInCycle_1 rfl ?_
  refine xa_iconst eX5_ticksInCycle_2 ?_
  refine xs_istore_2 eX5_ticksInCycle_3 rfl ?_
  exact lp 0 (by omega)
theorem k_X5_demandIn {w : xW} {S : xS} {B : String → xS → Prop} {A : Int → xS → Prop} {t N : Nat} {a : Int} (ha : xr a) (hN : S 2 t 1 = (N : Int)) (h21 : N ≤ 21) (hr : ∀ j, j < N → xr (a - S 10 (32 * t + j) 4)) (hq : A (sm (fun j => if S 10 (32 * t + j) 0 = 0 then xdem a (S 10 (32 * t + j)) else 0) N) S) : Ki w mX5_demandIn yX5_demandIn 0 0 [xp 2 t, xi a] S A B := by
  refine K.of rfl rfl rfl rfl (Nat.le_of_ble_eq_true rfl) rfl ?_
  have lp : ∀ i : Nat, i ≤ N → X w mX5_demandIn (xTG w (fun v S' => ∃ a, v = some (xi a) ∧ A a S') B) 0 0 4 [xp 2 t, xi a, xi (sm (fun j => if S 10 (32 * t + j) 0 = 0 then xdem a (S 10 (32 * t + j)) else 0) i), xi (i : Int)] [] S := by
    refine nloop (N) (fun i hi ih => ?_)
    refine xs_iload_3 eX5_demandIn_4 ?_
    refine xs_aload_0 eX5_demandIn_5 ?_
    refine gr_X5_1 eX5_demandIn_6 lRX5_18 (fun r6 => ?_)
    try simp (decide := true) only [up_app, if_true, if_false, and_true, true_and, and_false, false_and, Int.toNat_natCast, Nat.add_left_cancel_iff] at r6 ⊢
    refine xa_icmp_ge (tgt := 43) eX5_demandIn_9 (by decide) (by omega) (by omega) (fun c9 => ?_) (fun c9 => ?_)
    · refine xs_iload_2 eX5_demandIn_43 ?_
      exact xa_iret eX5_demandIn_44 rfl ⟨_, rfl, by have e : N = i := (by omega); rw [e] at hq; exact hq⟩
    · refine xs_aload_0 eX5_demandIn_12 ?_
      refine g_X5_0 eX5_demandIn_13 lRX5_13 ?_
      refine xs_iload_3 eX5_demandIn_16 ?_
      refine ga_23 eX5_demandIn_17 (by omega) ?_
      try simp (decide := true) only [up_app, if_true, if_false, and_true, true_and, and_false, false_and, Int.toNat_natCast, Nat.add_left_cancel_iff]
      refine gr_X1_0 eX5_demandIn_18 lRX5_56 (fun r18 => ?_)
      try simp (decide := true) only [up_app, if_true, if_false, and_true, true_and, and_false, false_and, Int.toNat_natCast, Nat.add_left_cancel_iff] at r18 ⊢
      refine xa_if_ne (tgt := 37) eX5_demandIn_21 (by decide) (by omega) (fun c21 => ?_) (fun c21 => ?_)
      · refine xs_iinc_3 eX5_demandIn_37 rfl ?_
        refine xa_goto (tgt := 4) eX5_demandIn_40 (by decide) ?_
        have h9 := ih (i + 1) (by omega) (by omega)
        rw [sm_s] at h9
        (first | rw [if_pos (by omega)] at h9 | rw [if_neg (by omega), Int.add_zero] at h9)
        exact h9
      · refine xs_iload_2 eX5_demandIn_24 ?_
        refine xs_aload_0 eX5_demandIn_25 ?_
        refine g_X5_0 eX5_demandIn_26 lRX5_13 ?_
        refine xs_iload_3 eX5_demandIn_29 ?_
        refine ga_23 eX5_demandIn_30 (by omega) ?_
        try simp (decide := true) only [up_app, if_true, if_false, and_true, true_and, and_false, false_and, Int.toNat_natCast, Nat.add_left_cancel_iff]
        refine xs_iload_1 eX5_demandIn_31 ?_
        refine xbi_V10 (mi' := mX1_demandIn) (y := yX1_demandIn) eX5_demandIn_32 (xw_5 lRX5_98 wy_X1_demandIn) rfl ⟨wd_X1_demandIn, by decide, by decide⟩ (by decide) (fun _ => rfl) rfl (Nat.le_of_ble_eq_true rfl) rfl (k_X1_demandIn ha (hr i (by omega)) ?_)
        refine xa_iadd eX5_demandIn_35 ?_
        refine xs_istore_2 eX5_demandIn_36 rfl ?_
        refine xs_iinc_3 eX5_demandIn_37 rfl ?_
        refine xa_goto (tgt := 4) eX5_demandIn_40 (by decide) ?_
        have h9 := ih (i + 1) (by omega) (by omega)
        rw [sm_s] at h9
        (first | rw [if_pos (by omega)] at h9 | rw [if_neg (by omega), Int.add_zero] at h9)
        exact h9
  refine xa_iconst eX5_demandIn_0 ?_
  refine xs_istore_2 eX5_demandIn_1 rfl ?_
  refine xa_iconst eX5_demandIn_2 ?_
  refine xs_istore_3 eX5_demandIn_3 rfl ?_
  exact lp 0 (by omega)
def dsm (g : Nat → UInt64) (c : Nat → Prop) : Nat → UInt64 → Prop
  | 0, r => r = 0
  | i + 1, r => ∃ q, dsm g c i q ∧ ((c i ∧ r = FP.dadd q (g i)) ∨ (¬ c i ∧ r = q))
theorem dsm.fn {g : Nat → UInt64} {c : Nat → Prop} : ∀ {i : Nat} {r q : UInt64}, dsm g c i r → dsm g c i q → r = q
  | 0, _, _, h1, h2 => h1.trans h2.symm
  | i + 1, r, q, ⟨a, ha, h1⟩, ⟨b, hb, h2⟩ => by
    have e := dsm.fn ha hb
    subst e
    rcases h1 with ⟨p1, e1⟩ | ⟨p1, e1⟩ <;> rcases h2 with ⟨q1, e2⟩ | ⟨q1, e2⟩
    · rw [e1, e2]
    · exact absurd p1 q1
    · exact absurd q1 p1
    · rw [e1, e2]
theorem k_X5_sumOfShares {w : xW} {S : xS} {B : String → xS → Prop} {A : UInt64 → xS → Prop} {t N : Nat} (hN : S 2 t 1 = (N : Int)) (h21 : N ≤ 21) (hv : ∀ j, j < N → S 10 (32 * t + j) 0 = 0 → 1 ≤ S 10 (32 * t + j) 2 → vf_n64 (FP.ddiv (FP.i2d (Int32.ofInt (S 10 (32 * t + j) 3))) (FP.i2d (Int32.ofInt (S 10 (32 * t + j) 2))))) (hv2 : ∀ j, j < N → S 10 (32 * t + j) 0 = 0 → ∀ D, dsm (fun j => xshr (S 10 (32 * t + j))) (fun j => S 10 (32 * t + j) 0 = 0) j D → vf_n64 (FP.dadd D (xshr (S 10 (32 * t + j))))) (hq : ∀ D, dsm (fun j => xshr (S 10 (32 * t + j))) (fun j => S 10 (32 * t + j) 0 = 0) N D → A D S) : Kd w mX5_sumOfShares yX5_sumOfShares 0 0 [xp 2 t] S A B := by
  refine K.of rfl rfl rfl rfl (Nat.le_of_ble_eq_true rfl) rfl ?_
  have lp : ∀ i : Nat, i ≤ N → ∀ D, dsm (fun j => xshr (S 10 (32 * t + j))) (fun j => S 10 (32 * t + j) 0 = 0) i D → X w mX5_sumOfShares (xTG w (fun v S' => ∃ a, v = some (xv (.double a)) ∧ A a S') B) 0 0 4 [xp 2 t, xv (.double D), xj, xi (i : Int)] [] S := by
    refine nloop N (fun i hi ih D hI => ?_)
    refine xs_iload_3 eX5_sumOfShares_4 ?_
    refine xs_aload_0 eX5_sumOfShares_5 ?_
    refine gr_X5_1 eX5_sumOfShares_6 lRX5_18 (fun r6 => ?_)
    try simp (decide := true) only [up_app, if_true, if_false, and_true, true_and, and_false, false_and, Int.toNat_natCast, Nat.add_left_cancel_iff] at r6 ⊢
    refine xa_icmp_ge (tgt := 42) eX5_sumOfShares_9 (by decide) (by omega) (by omega) (fun c9 => ?_) (fun c9 => ?_)
    · refine xs_dload_1 eX5_sumOfShares_42 ?_
      exact xa_dret eX5_sumOfShares_43 rfl ⟨_, rfl, by have e : N = i := (by omega); exact hq D (by rw [e]; exact hI)⟩
    · refine xs_aload_0 eX5_sumOfShares_12 ?_
      refine g_X5_0 eX5_sumOfShares_13 lRX5_13 ?_
      refine xs_iload_3 eX5_sumOfShares_16 ?_
      refine ga_23 eX5_sumOfShares_17 (by omega) ?_
      try simp (decide := true) only [up_app, if_true, if_false, and_true, true_and, and_false, false_and, Int.toNat_natCast, Nat.add_left_cancel_iff]
      refine gr_X1_0 eX5_sumOfShares_18 lRX5_56 (fun r18 => ?_)
      try simp (decide := true) only [up_app, if_true, if_false, and_true, true_and, and_false, false_and, Int.toNat_natCast, Nat.add_left_cancel_iff] at r18 ⊢
      refine xa_if_ne (tgt := 36) eX5_sumOfShares_21 (by decide) (by omega) (fun c21 => ?_) (fun c21 => ?_)
      · refine xs_iinc_3 eX5_sumOfShares_36 rfl ?_
        refine xa_goto (tgt := 4) eX5_sumOfShares_39 (by decide) ?_
        exact ih (i + 1) (by omega) (by omega) _ ⟨D, hI, Or.inr ⟨c21, rfl⟩⟩
      · refine xs_dload_1 eX5_sumOfShares_24 ?_
        refine xs_aload_0 eX5_sumOfShares_25 ?_
        refine g_X5_0 eX5_sumOfShares_26 lRX5_13 ?_
        refine xs_iload_3 eX5_sumOfShares_29 ?_
        refine ga_23 eX5_sumOfShares_30 (by omega) ?_
        try simp (decide := true) only [up_app, if_true, if_false, and_true, true_and, and_false, false_and, Int.toNat_natCast, Nat.add_left_cancel_iff]
        refine xbd_V00 (mi' := mX1_share) (y := yX1_share) eX5_sumOfShares_31 (xw_5 lRX5_103 wy_X1_share) rfl ⟨wd_X1_share, by decide, by decide⟩ (by decide) (fun _ => rfl) rfl (Nat.le_of_ble_eq_true rfl) rfl (k_X1_share (hv i (by omega) c21) ?_)
        refine xa_dadd eX5_sumOfShares_34 (hv2 i (by omega) c21 D hI) ?_
        refine xs_dstore_1 eX5_sumOfShares_35 rfl ?_
        refine xs_iinc_3 eX5_sumOfShares_36 rfl ?_
        refine xa_goto (tgt := 4) eX5_sumOfShares_39 (by decide) ?_
        exact ih (i + 1) (by omega) (by omega) _ ⟨D, hI, Or.inl ⟨c21, rfl⟩⟩
  refine xa_dconst0 eX5_sumOfShares_0 ?_
  refine xs_dstore_1 eX5_sumOfShares_1 rfl ?_
  refine xa_iconst eX5_sumOfShares_2 ?_
  refine xs_istore_3 eX5_sumOfShares_3 rfl ?_
  exact lp 0 (by omega) _ rfl
def tgt (D : Nat → Int) : Nat → Nat
  | 0 => 1
  | i + 1 => if ((i + 2 : Nat) : Int) - D (i + 2) < (tgt D i : Int) - D (tgt D i) then i + 2 else tgt D i
theorem tgt_in (D : Nat → Int) : ∀ i, 1 ≤ tgt D i ∧ tgt D i ≤ i + 1
  | 0 => ⟨Nat.le_refl _, Nat.le_refl _⟩
  | i + 1 => by
    have h := tgt_in D i
    unfold tgt
    split <;> omega
theorem k_X5_tightestTicks {w : xW} {S : xS} {B : String → xS → Prop} {A : Int → xS → Prop} {t N : Nat} (hN : S 2 t 1 = (N : Int)) (h21 : N ≤ 21) {D : Nat → Int} (hD : D = (fun k : Nat => sm (fun j => if S 10 (32 * t + j) 0 = 0 then xdem (k : Int) (S 10 (32 * t + j)) else 0) N)) (hr : ∀ (k : Nat), 1 ≤ k → k ≤ 240 → (∀ j, j < N → xr ((k : Int) - S 10 (32 * t + j) 4)) ∧ xr ((k : Int) - D k)) (hq : A (tgt D 239 : Nat) S) : Ki w mX5_tightestTicks yX5_tightestTicks 0 0 [xp 2 t] S A B := by
  refine K.of rfl rfl rfl rfl (Nat.le_of_ble_eq_true rfl) rfl ?_
  have lp : ∀ i : Nat, i ≤ 239 → ∀ a4 : xV, X w mX5_tightestTicks (xTG w (fun v S' => ∃ a, v = some (xi a) ∧ A a S') B) 0 0 12 [xp 2 t, xi (tgt D i : Nat), xi ((tgt D i : Nat) - D (tgt D i)), xi ((i + 2 : Nat) : Int), a4] [] S := by
    refine nloop 239 (fun i hi ih a4 => ?_)
    refine xs_iload_3 eX5_tightestTicks_12 ?_
    refine xa_sipush eX5_tightestTicks_13 (by decide) ?_
    refine xa_icmp_gt (tgt := 45) eX5_tightestTicks_16 (by decide) (by omega) (by omega) (fun c16 => ?_) (fun c16 => ?_)
    · refine xs_iload_1 eX5_tightestTicks_45 ?_
      exact xa_iret eX5_tightestTicks_46 rfl ⟨_, rfl, by have e : 239 = i := (by omega); rw [e] at hq; exact hq⟩
    · refine xs_iload_3 eX5_tightestTicks_19 ?_
      refine xs_aload_0 eX5_tightestTicks_20 ?_
      refine xs_iload_3 eX5_tightestTicks_21 ?_
      refine xbi_V10 (mi' := mX5_demandIn) (y := yX5_demandIn) eX5_tightestTicks_22 (xw_5 lRX5_102 wy_X5_demandIn) rfl ⟨wd_X5_demandIn, by decide, by decide⟩ (by decide) (fun _ => rfl) rfl (Nat.le_of_ble_eq_true rfl) rfl (k_X5_demandIn (a := ((i + 2 : Nat) : Int)) (by omega) hN h21 (hr (i + 2) (by omega) (by omega)).1 (show _ from ?_))
      rw [show sm (fun j => if S 10 (32 * t + j) 0 = 0 then xdem ((i + 2 : Nat) : Int) (S 10 (32 * t + j)) else 0) N = D (i + 2) from by rw [hD]]
      refine xa_isub eX5_tightestTicks_25 ?_
      refine xs_istore_4 eX5_tightestTicks_26 rfl ?_
      refine xs_iload_4 eX5_tightestTicks_28 ?_
      refine xs_iload_2 eX5_tightestTicks_30 ?_
      refine xa_icmp_ge (tgt := 39) eX5_tightestTicks_31 (by decide) (by have := (hr (i + 2) (by omega) (by omega)).2; omega) (by have h7 := tgt_in D i; have := (hr (tgt D i) (by omega) (by omega)).2; omega) (fun c31 => ?_) (fun c31 => ?_)
      · refine xs_iinc_3 eX5_tightestTicks_39 rfl ?_
        refine xa_goto (tgt := 12) eX5_tightestTicks_42 (by decide) ?_
        have h9 := ih (i + 1) (by omega) (by omega) (xi (((i + 2 : Nat) : Int) - D (i + 2)))
        rw [tgt, if_neg (Int.not_lt.mpr c31)] at h9
        exact h9
      · refine xs_iload_3 eX5_tightestTicks_34 ?_
        refine xs_istore_1 eX5_tightestTicks_35 rfl ?_
        refine xs_iload_4 eX5_tightestTicks_36 ?_
        refine xs_istore_2 eX5_tightestTicks_38 rfl ?_
        refine xs_iinc_3 eX5_tightestTicks_39 rfl ?_
        refine xa_goto (tgt := 12) eX5_tightestTicks_42 (by decide) ?_
        have h9 := ih (i + 1) (by omega) (by omega) (xi (((i + 2 : Nat) : Int) - D (i + 2)))
        rw [tgt, if_pos c31] at h9
        exact h9
  refine xa_iconst eX5_tightestTicks_0 ?_
  refine xs_istore_1 eX5_tightestTicks_1 rfl ?_
  refine xa_iconst eX5_tightestTicks_2 ?_
  refine xs_aload_0 eX5_tightestTicks_3 ?_
  refine xa_iconst eX5_tightestTicks_4 ?_
  refine xbi_V10 (mi' := mX5_demandIn) (y := yX5_demandIn) eX5_tightestTicks_5 (xw_5 lRX5_102 wy_X5_demandIn) rfl ⟨wd_X5_demandIn, by decide, by decide⟩ (by decide) (fun _ => rfl) rfl (Nat.le_of_ble_eq_true rfl) rfl (k_X5_demandIn (a := ((1 : Nat) : Int)) (by decide) hN h21 (hr 1 (by omega) (by omega)).1 (show _ from ?_))
  rw [show sm (fun j => if S 10 (32 * t + j) 0 = 0 then xdem ((1 : Nat) : Int) (S 10 (32 * t + j)) else 0) N = D 1 from by rw [hD]]
  refine xa_isub eX5_tightestTicks_8 ?_
  refine xs_istore_2 eX5_tightestTicks_9 rfl ?_
  refine xa_iconst eX5_tightestTicks_10 ?_
  refine xs_istore_3 eX5_tightestTicks_11 rfl ?_
  exact lp 0 (by omega) xj
theorem k_X5_divide {w : xW} {S : xS} {B : String → xS → Prop} {A : xS → Prop} {t N i : Nat} {a : Int} (ha : xr a) (hN : S 2 t 1 = (N : Int)) (h21 : N < 21) (hi : i < N) (h1 : xr (S 10 (32 * t + i) 3 - a)) (h2 : xr (S 10 (32 * t + i) 6 - a)) (hq : ∀ S', (∀ f, f < 17 → S' 10 (32 * t + i) f = xgr1 a (S 10 (32 * t + i)) f) → (∀ f, f < 17 → S' 10 (32 * t + N) f = xgr2 a (S 10 (32 * t + i)) (xbeg (S 10 (32 * t + i) 1) (S 10 (32 * t + i) 2) (S 10 (32 * t + i) 3 - a) (S 10 (32 * t + i) 4) (S 2 t 2)) f) → (∀ x y, ¬ (x = 10 ∧ y = 32 * t + i) → ¬ (x = 10 ∧ y = 32 * t + N) → S' x y = up S 2 t 1 (N + 1) x y) → A S') : Kv w mX5_divide yX5_divide 0 0 [xp 2 t, xp 10 (32 * t + i), xi a] S A B := by
  refine K.of rfl rfl rfl rfl (Nat.le_of_ble_eq_true rfl) rfl ?_
  refine xs_aload_0 eX5_divide_0 ?_
  refine gr_X5_1 eX5_divide_1 lRX5_18 (fun r1 => ?_)
  rw [hN] at r1 ⊢
  refine xa_bipush eX5_divide_4 (by decide) ?_
  refine xa_icmp_ge (tgt := 61) eX5_divide_6 (by decide) (by omega) (by omega) (fun c6 => ?_) (fun c6 => ?_)
  · exact absurd c6 (by omega)
  · refine xs_aload_0 eX5_divide_9 ?_
    refine g_X5_0 eX5_divide_10 lRX5_13 ?_
    refine xs_aload_0 eX5_divide_13 ?_
    refine gr_X5_1 eX5_divide_14 lRX5_18 (fun r14 => ?_)
    rw [hN] at r14 ⊢
    refine ga_23 eX5_divide_17 (by omega) ?_
    simp only [Int.toNat_natCast]
    refine xs_astore_3 eX5_divide_18 rfl ?_
    refine xs_aload_3 eX5_divide_19 ?_
    refine xs_aload_1 eX5_divide_20 ?_
    refine gr_X1_1 eX5_divide_21 lRX5_40 (fun r21 => ?_)
    refine xs_aload_1 eX5_divide_24 ?_
    refine gr_X1_2 eX5_divide_25 lRX5_43 (fun r25 => ?_)
    refine xs_aload_1 eX5_divide_28 ?_
    refine gr_X1_3 eX5_divide_29 lRX5_46 (fun r29 => ?_)
    refine xs_iload_2 eX5_divide_32 ?_
    refine xa_isub eX5_divide_33 ?_
    refine xs_aload_1 eX5_divide_34 ?_
    refine gr_X1_4 eX5_divide_35 lRX5_49 (fun r35 => ?_)
    refine xs_aload_0 eX5_divide_38 ?_
    refine gr_X5_2 eX5_divide_39 lRX5_22 (fun r39 => ?_)
    refine xbv_V50 (mi' := mX1_begin) (y := yX1_begin) eX5_divide_42 (xw_5 lRX5_36 wy_X1_begin) rfl ⟨wd_X1_begin, by decide, by decide⟩ (by decide) (fun _ => rfl) rfl (Nat.le_of_ble_eq_true rfl) rfl (k_X1_begin (by omega) (by omega) (by omega) (by omega) (by omega) (fun S2 h2 => ?_))
    have e1 : S2 10 (32 * t + i) = S 10 (32 * t + i) := h2.2 10 (32 * t + i) (by omega)
    refine xs_aload_1 eX5_divide_45 ?_
    refine xs_iload_2 eX5_divide_46 ?_
    refine xs_aload_3 eX5_divide_47 ?_
    refine xbv_V20 (mi' := mX1_giveRest) (y := yX1_giveRest) eX5_divide_48 (xw_5 lRX5_52 wy_X1_giveRest) rfl ⟨wd_X1_giveRest, by decide, by decide⟩ (by decide) (fun _ => rfl) rfl (Nat.le_of_ble_eq_true rfl) rfl (k_X1_giveRest (by omega) (by omega) (by rw [e1]; omega) (fun S3 h3 => ?_))
    refine xs_aload_0 eX5_divide_51 ?_
    refine xa_dup eX5_divide_52 rfl ?_
    refine gr_X5_1 eX5_divide_53 lRX5_18 (fun r53 => ?_)
    have eN : S3 2 t 1 = (N : Int) := by rw [h3.2.2 2 t (by omega) (by omega), h2.2 2 t (by omega)]; exact hN
    rw [eN] at r53 ⊢
    refine xa_iconst eX5_divide_56 ?_
    refine xa_iadd eX5_divide_57 ?_
    refine p_X5_1 eX5_divide_58 lRX5_18 (by omega) ?_
    refine xa_vret eX5_divide_61 rfl ⟨rfl, hq _ (fun f hf => ?_) (fun f hf => ?_) (fun x y h7 h8 => ?_)⟩
    · rw [up_k (by decide), h3.1 f hf, e1]
    · rw [up_k (by decide), h3.2.1 f hf, e1]; simp only [xgr2, h2.1 f hf]
    · funext z; simp only [up_app]; rw [h3.2.2 x y h7 h8, h2.2 x y h8]

