/-! PromiseMarket$Timeline -/
theorem k_X5_copyFrom {w : xW} {S : xS} {B : String → xS → Prop} {A : xS → Prop} {t u N : Nat} (htu : t ≠ u) (hN : S 2 u 1 = (N : Int)) (h21 : N ≤ 21) (h0 : ∀ j, j < N → S 10 (32 * u + j) 0 = 0 ∨ S 10 (32 * u + j) 0 = 1) (hq : ∀ S', xmp 10 (32 * t) N 17 (fun j => S 10 (32 * u + j)) S' (up (up S 2 t 1 (S 2 u 1)) 2 t 2 (S 2 u 2)) → A S') : Kv w mX5_copyFrom yX5_copyFrom 0 0 [xp 2 t, xp 2 u] S A B := by
  refine K.of rfl rfl rfl rfl (Nat.le_of_ble_eq_true rfl) rfl ?_
  have lp : ∀ i : Nat, i ≤ N → ∀ (S1 : xS), xmp 10 (32 * t) i 17 (fun j => S 10 (32 * u + j)) S1 (up (up S 2 t 1 (S 2 u 1)) 2 t 2 (S 2 u 2)) → X w mX5_copyFrom (xTG w (fun v S' => v = none ∧ A S') B) 0 0 18 [xp 2 t, xp 2 u, xi (i : Int)] [] S1 := by
    refine nloop (N) (fun i hi ih S1 hI => ?_)
    have e2 : S1 2 t 1 = (N : Int) := by rw [hI.oth (x := 2) (y := t) (by omega), up_f (by decide), up_same]; exact hN
    have e10 : i < N → S1 10 (32 * u + i) = S 10 (32 * u + i) := fun hi2 => by rw [hI.oth (x := 10) (y := 32 * u + i) (by omega), up_oth (by omega), up_oth (by omega)]
    refine xs_iload_2 eX5_copyFrom_18 ?_
    refine xs_aload_0 eX5_copyFrom_19 ?_
    refine gr_X5_1 eX5_copyFrom_20 lRX5_18 (fun r20 => ?_)
    try simp (decide := true) only [e2, up_app, if_true, if_false, and_true, true_and, and_false, false_and, Int.toNat_natCast, Nat.add_left_cancel_iff] at r20 ⊢
    refine xa_icmp_ge (tgt := 47) eX5_copyFrom_23 (by decide) (by omega) (by omega) (fun c23 => ?_) (fun c23 => ?_)
    · exact xa_vret eX5_copyFrom_47 rfl ⟨rfl, by have e : N = i := (by omega); rw [e] at hq; exact hq S1 hI⟩
    · refine xs_aload_0 eX5_copyFrom_26 ?_
      refine g_X5_0 eX5_copyFrom_27 lRX5_13 ?_
      refine xs_iload_2 eX5_copyFrom_30 ?_
      refine ga_23 eX5_copyFrom_31 (by omega) ?_
      try simp (decide := true) only [e2, up_app, if_true, if_false, and_true, true_and, and_false, false_and, Int.toNat_natCast, Nat.add_left_cancel_iff]
      refine xs_aload_1 eX5_copyFrom_32 ?_
      refine g_X5_0 eX5_copyFrom_33 lRX5_13 ?_
      refine xs_iload_2 eX5_copyFrom_36 ?_
      refine ga_23 eX5_copyFrom_37 (by omega) ?_
      try simp (decide := true) only [e2, up_app, if_true, if_false, and_true, true_and, and_false, false_and, Int.toNat_natCast, Nat.add_left_cancel_iff]
      refine xbv_V10 (mi' := mX1_copyFrom) (y := yX1_copyFrom) eX5_copyFrom_38 (xw_5 lRX5_25 wy_X1_copyFrom) rfl ⟨wd_X1_copyFrom, by decide, by decide⟩ (by decide) (fun _ => rfl) rfl (Nat.le_of_ble_eq_true rfl) rfl (k_X1_copyFrom (by rw [e10 (by omega)]; exact h0 i (by omega)) (fun S2 h2 => ?_))
      refine xs_iinc_2 eX5_copyFrom_41 rfl ?_
      refine xa_goto (tgt := 18) eX5_copyFrom_44 (by decide) ?_
      exact ih (i + 1) (by omega) (by omega) S2 (hI.step h2 (fun f _ => by rw [e10 (by omega)]))
  refine xs_aload_0 eX5_copyFrom_0 ?_
  refine xs_aload_1 eX5_copyFrom_1 ?_
  refine gr_X5_1 eX5_copyFrom_2 lRX5_18 (fun r2 => ?_)
  try simp (decide := true) only [up_app, if_true, if_false, and_true, true_and, and_false, false_and, Int.toNat_natCast, Nat.add_left_cancel_iff] at r2 ⊢
  refine p_X5_1 eX5_copyFrom_5 lRX5_18 (by omega) ?_
  refine xs_aload_0 eX5_copyFrom_8 ?_
  refine xs_aload_1 eX5_copyFrom_9 ?_
  refine gr_X5_2 eX5_copyFrom_10 lRX5_22 (fun r10 => ?_)
  try simp (decide := true) only [up_app, if_true, if_false, and_true, true_and, and_false, false_and, Int.toNat_natCast, Nat.add_left_cancel_iff] at r10 ⊢
  refine p_X5_2 eX5_copyFrom_13 lRX5_22 (by omega) ?_
  refine xa_iconst eX5_copyFrom_16 ?_
  refine xs_istore_2 eX5_copyFrom_17 rfl ?_
  exact lp 0 (by omega) _ xmp.zero
theorem k_X5_knownPromise {w : xW} {S : xS} {B : String → xS → Prop} {A : xV → xS → Prop} {t : Nat} {a : Int} (ha : xr a) (h21 : S 2 t 1 ≤ 21) (hA : 0 ≤ a → a < S 2 t 1 → A (xp 10 (32 * t + a.toNat)) S) (hB : a < 0 ∨ S 2 t 1 ≤ a → B "java/lang/IndexOutOfBoundsException" S) : Ko w mX5_knownPromise yX5_knownPromise 1 6 [xp 2 t, xi a] S A B := by
  refine K.of rfl rfl rfl rfl (Nat.le_of_ble_eq_true rfl) rfl ?_
  refine xs_iload_1 eX5_knownPromise_0 ?_
  refine xa_if_lt (tgt := 12) eX5_knownPromise_1 (by decide) (by omega) (fun c1 => ?_) (fun c1 => ?_)
  · exact xa_throwS (names := ["java/lang/RuntimeException", "java/lang/Exception"]) (text := "there is no such promise") (sn := 7) eX5_knownPromise_12 eX5_knownPromise_15 eX5_knownPromise_16 eX5_knownPromise_18 eX5_knownPromise_21 (by decide) (by decide) ac_RX5_33 ai_RX5_33 (List.mem_of_getElem? (i := 1) rfl) at1_RX5_33 at2_RX5_33 at3_RX5_33 rfl (Nat.le_of_ble_eq_true rfl) (Nat.le_of_ble_eq_true rfl) (by omega) (by omega) (hB (by omega))
  · refine xs_iload_1 eX5_knownPromise_4 ?_
    refine xs_aload_0 eX5_knownPromise_5 ?_
    refine gr_X5_1 eX5_knownPromise_6 lRX5_18 (fun r6 => ?_)
    refine xa_icmp_lt (tgt := 22) eX5_knownPromise_9 (by decide) (by omega) (by omega) (fun c9 => ?_) (fun c9 => ?_)
    · refine xs_aload_0 eX5_knownPromise_22 ?_
      refine g_X5_0 eX5_knownPromise_23 lRX5_13 ?_
      refine xs_iload_1 eX5_knownPromise_26 ?_
      refine ga_23 eX5_knownPromise_27 (by omega) ?_
      exact xa_aret eX5_knownPromise_28 rfl ⟨_, rfl, hA (by omega) (by omega)⟩
    · exact xa_throwS (names := ["java/lang/RuntimeException", "java/lang/Exception"]) (text := "there is no such promise") (sn := 7) eX5_knownPromise_12 eX5_knownPromise_15 eX5_knownPromise_16 eX5_knownPromise_18 eX5_knownPromise_21 (by decide) (by decide) ac_RX5_33 ai_RX5_33 (List.mem_of_getElem? (i := 1) rfl) at1_RX5_33 at2_RX5_33 at3_RX5_33 rfl (Nat.le_of_ble_eq_true rfl) (Nat.le_of_ble_eq_true rfl) (by omega) (by omega) (hB (by omega))
theorem kk_X5_knownPromise {w : xW} {S : xS} {B : String → xS → Prop} {A : xV → xS → Prop} {t : Nat} {a : Int} (h1 : 0 ≤ a ∧ a < S 2 t 1) (h21 : S 2 t 1 ≤ 21) (hA : A (xp 10 (32 * t + a.toNat)) S) : Ko w mX5_knownPromise yX5_knownPromise 0 0 [xp 2 t, xi a] S A B := by
  refine K.of rfl rfl rfl rfl (Nat.le_of_ble_eq_true rfl) rfl ?_
  refine xs_iload_1 eX5_knownPromise_0 ?_
  refine xa_if_lt (tgt := 12) eX5_knownPromise_1 (by decide) (by omega) (fun c1 => ?_) (fun c1 => ?_)
  · exact absurd h1 (by omega)
  · refine xs_iload_1 eX5_knownPromise_4 ?_
    refine xs_aload_0 eX5_knownPromise_5 ?_
    refine gr_X5_1 eX5_knownPromise_6 lRX5_18 (fun r6 => ?_)
    refine xa_icmp_lt (tgt := 22) eX5_knownPromise_9 (by decide) (by omega) (by omega) (fun c9 => ?_) (fun c9 => ?_)
    · refine xs_aload_0 eX5_knownPromise_22 ?_
      refine g_X5_0 eX5_knownPromise_23 lRX5_13 ?_
      refine xs_iload_1 eX5_knownPromise_26 ?_
      refine ga_23 eX5_knownPromise_27 (by omega) ?_
      exact xa_aret eX5_knownPromise_28 rfl ⟨_, rfl, hA⟩
    · exact absurd h1 (by omega)
theorem k_X5_add {w : xW} {S : xS} {B : String → xS → Prop} {A : xS → Prop} {t N : Nat} {o p b d : Int} (h1 : xr o) (h2 : xr p) (h3 : xr b) (h4 : xr d) (hN : S 2 t 1 = (N : Int)) (h21 : N < 21) (hq : ∀ S1, xrow 10 (32 * t + N) 17 (xbeg o p b d (S 2 t 2)) S1 S → A (up S1 2 t 1 (N + 1))) : Kv w mX5_add yX5_add 0 0 [xp 2 t, xi o, xi p, xi b, xi d] S A B := by
  refine K.of rfl rfl rfl rfl (Nat.le_of_ble_eq_true rfl) rfl ?_
  refine xs_aload_0 eX5_add_0 ?_
  refine gr_X5_1 eX5_add_1 lRX5_18 (fun r1 => ?_)
  rw [hN] at r1 ⊢
  try simp (decide := true) only [up_app, if_true, if_false, and_true, true_and, and_false, false_and, Int.toNat_natCast, Nat.add_left_cancel_iff] at r1 ⊢
  refine xa_bipush eX5_add_4 (by decide) ?_
  refine xa_icmp_ge (tgt := 40) eX5_add_6 (by decide) (by omega) (by omega) (fun c6 => ?_) (fun c6 => ?_)
  · exact absurd c6 (by omega)
  · refine xs_aload_0 eX5_add_9 ?_
    refine g_X5_0 eX5_add_10 lRX5_13 ?_
    refine xs_aload_0 eX5_add_13 ?_
    refine gr_X5_1 eX5_add_14 lRX5_18 (fun r14 => ?_)
    rw [hN] at r14 ⊢
    try simp (decide := true) only [up_app, if_true, if_false, and_true, true_and, and_false, false_and, Int.toNat_natCast, Nat.add_left_cancel_iff] at r14 ⊢
    refine ga_23 eX5_add_17 (by omega) ?_
    try simp (decide := true) only [up_app, if_true, if_false, and_true, true_and, and_false, false_and, Int.toNat_natCast, Nat.add_left_cancel_iff]
    refine xs_iload_1 eX5_add_18 ?_
    refine xs_iload_2 eX5_add_19 ?_
    refine xs_iload_3 eX5_add_20 ?_
    refine xs_iload_4 eX5_add_21 ?_
    refine xs_aload_0 eX5_add_23 ?_
    refine gr_X5_2 eX5_add_24 lRX5_22 (fun r24 => ?_)
    try simp (decide := true) only [up_app, if_true, if_false, and_true, true_and, and_false, false_and, Int.toNat_natCast, Nat.add_left_cancel_iff] at r24 ⊢
    refine xbv_V50 (mi' := mX1_begin) (y := yX1_begin) eX5_add_27 (xw_5 lRX5_36 wy_X1_begin) rfl ⟨wd_X1_begin, by decide, by decide⟩ (by decide) (fun _ => rfl) rfl (Nat.le_of_ble_eq_true rfl) rfl (k_X1_begin (by omega) (by omega) (by omega) (by omega) (by omega) (fun S2 h2 => ?_))
    refine xs_aload_0 eX5_add_30 ?_
    refine xa_dup eX5_add_31 rfl ?_
    refine gr_X5_1 eX5_add_32 lRX5_18 (fun r32 => ?_)
    rw [show S2 2 t 1 = (N : Int) from by rw [h2.2 2 t (by omega)]; exact hN] at r32 ⊢
    try simp (decide := true) only [up_app, if_true, if_false, and_true, true_and, and_false, false_and, Int.toNat_natCast, Nat.add_left_cancel_iff] at r32 ⊢
    refine xa_iconst eX5_add_35 ?_
    refine xa_iadd eX5_add_36 ?_
    refine p_X5_1 eX5_add_37 lRX5_18 (by omega) ?_
    exact xa_vret eX5_add_40 rfl ⟨rfl, (hq S2 h2)⟩
theorem k_X5_releaseJobs {w : xW} {S : xS} {B : String → xS → Prop} {A : xS → Prop} {t N : Nat} (hN : S 2 t 1 = (N : Int)) (h21 : N ≤ 21) (hr : ∀ j, j < N → S 10 (32 * t + j) 0 = 0 → xr (S 10 (32 * t + j) 5 + S 10 (32 * t + j) 4) ∧ xr (S 10 (32 * t + j) 5 + S 10 (32 * t + j) 2) ∧ xr (S 10 (32 * t + j) 15 + 1)) (hq : ∀ S', xmp 10 (32 * t) N 17 (fun j => if S 10 (32 * t + j) 0 = 0 ∧ S 10 (32 * t + j) 5 = S 2 t 2 then xrel (S 10 (32 * t + j)) else S 10 (32 * t + j)) S' S → A S') : Kv w mX5_releaseJobs yX5_releaseJobs 0 0 [xp 2 t] S A B := by
  refine K.of rfl rfl rfl rfl (Nat.le_of_ble_eq_true rfl) rfl ?_
  have lp : ∀ i : Nat, i ≤ N → ∀ (S1 : xS), xmp 10 (32 * t) i 17 (fun j => if S 10 (32 * t + j) 0 = 0 ∧ S 10 (32 * t + j) 5 = S 2 t 2 then xrel (S 10 (32 * t + j)) else S 10 (32 * t + j)) S1 S → X w mX5_releaseJobs (xTG w (fun v S' => v = none ∧ A S') B) 0 0 2 [xp 2 t, xi (i : Int)] [] S1 := by
    refine nloop (N) (fun i hi ih S1 hI => ?_)
    have e2 := hI.oth (x := 2) (y := t) (by omega)
    have e10 := hI.row
    refine xs_iload_1 eX5_releaseJobs_2 ?_
    refine xs_aload_0 eX5_releaseJobs_3 ?_
    refine gr_X5_1 eX5_releaseJobs_4 lRX5_18 (fun r4 => ?_)
    try simp (decide := true) only [e2, e10, up_app, if_true, if_false, and_true, true_and, and_false, false_and, Int.toNat_natCast, Nat.add_left_cancel_iff] at r4 ⊢
    refine xa_icmp_ge (tgt := 53) eX5_releaseJobs_7 (by decide) (by omega) (by omega) (fun c7 => ?_) (fun c7 => ?_)
    · exact xa_vret eX5_releaseJobs_53 rfl ⟨rfl, (by have e : N = i := (by omega); rw [e] at hq; exact hq S1 hI)⟩
    · refine xs_aload_0 eX5_releaseJobs_10 ?_
      refine g_X5_0 eX5_releaseJobs_11 lRX5_13 ?_
      refine xs_iload_1 eX5_releaseJobs_14 ?_
      refine ga_23 eX5_releaseJobs_15 (by omega) ?_
      try simp (decide := true) only [e2, e10, up_app, if_true, if_false, and_true, true_and, and_false, false_and, Int.toNat_natCast, Nat.add_left_cancel_iff]
      refine gr_X1_0 eX5_releaseJobs_16 lRX5_56 (fun r16 => ?_)
      try simp (decide := true) only [e2, e10, up_app, if_true, if_false, and_true, true_and, and_false, false_and, Int.toNat_natCast, Nat.add_left_cancel_iff] at r16 ⊢
      refine xa_if_ne (tgt := 47) eX5_releaseJobs_19 (by decide) (by omega) (fun c19 => ?_) (fun c19 => ?_)
      · refine xs_iinc_1 eX5_releaseJobs_47 rfl ?_
        refine xa_goto (tgt := 2) eX5_releaseJobs_50 (by decide) ?_
        exact ih (i + 1) (by omega) (by omega) S1 (hI.skip (fun f _ => by rw [if_neg (by omega)]))
      · refine xs_aload_0 eX5_releaseJobs_22 ?_
        refine g_X5_0 eX5_releaseJobs_23 lRX5_13 ?_
        refine xs_iload_1 eX5_releaseJobs_26 ?_
        refine ga_23 eX5_releaseJobs_27 (by omega) ?_
        try simp (decide := true) only [e2, e10, up_app, if_true, if_false, and_true, true_and, and_false, false_and, Int.toNat_natCast, Nat.add_left_cancel_iff]
        refine gr_X1_5 eX5_releaseJobs_28 lRX5_60 (fun r28 => ?_)
        try simp (decide := true) only [e2, e10, up_app, if_true, if_false, and_true, true_and, and_false, false_and, Int.toNat_natCast, Nat.add_left_cancel_iff] at r28 ⊢
        refine xs_aload_0 eX5_releaseJobs_31 ?_
        refine gr_X5_2 eX5_releaseJobs_32 lRX5_22 (fun r32 => ?_)
        try simp (decide := true) only [e2, e10, up_app, if_true, if_false, and_true, true_and, and_false, false_and, Int.toNat_natCast, Nat.add_left_cancel_iff] at r32 ⊢
        refine xa_icmp_ne (tgt := 47) eX5_releaseJobs_35 (by decide) (by omega) (by omega) (fun c35 => ?_) (fun c35 => ?_)
        · refine xs_iinc_1 eX5_releaseJobs_47 rfl ?_
          refine xa_goto (tgt := 2) eX5_releaseJobs_50 (by decide) ?_
          exact ih (i + 1) (by omega) (by omega) S1 (hI.skip (fun f _ => by rw [if_neg (by omega)]))
        · refine xs_aload_0 eX5_releaseJobs_38 ?_
          refine g_X5_0 eX5_releaseJobs_39 lRX5_13 ?_
          refine xs_iload_1 eX5_releaseJobs_42 ?_
          refine ga_23 eX5_releaseJobs_43 (by omega) ?_
          try simp (decide := true) only [e2, e10, up_app, if_true, if_false, and_true, true_and, and_false, false_and, Int.toNat_natCast, Nat.add_left_cancel_iff]
          refine xbv_V00 (mi' := mX1_releaseJob) (y := yX1_releaseJob) eX5_releaseJobs_44 (xw_5 lRX5_63 wy_X1_releaseJob) rfl ⟨wd_X1_releaseJob, by decide, by decide⟩ (by decide) (fun _ => rfl) rfl (Nat.le_of_ble_eq_true rfl) rfl (k_X1_releaseJob (by rw [e10]; exact (hr i (by omega) (by omega)).1) (by rw [e10]; exact (hr i (by omega) (by omega)).2.1) (by rw [e10]; exact (hr i (by omega) (by omega)).2.2) (fun S2 h2 => ?_))
          refine xs_iinc_1 eX5_releaseJobs_47 rfl ?_
          refine xa_goto (tgt := 2) eX5_releaseJobs_50 (by decide) ?_
          exact ih (i + 1) (by omega) (by omega) S2 (hI.step h2 (fun f _ => by rw [e10, if_pos (by omega)]))
  refine xa_iconst eX5_releaseJobs_0 ?_
  refine xs_istore_1 eX5_releaseJobs_1 rfl ?_
  exact lp 0 (by omega) _ xmp.zero
theorem k_X5_chooseJob {w : xW} {S : xS} {B : String → xS → Prop} {A : xV → xS → Prop} {t N : Nat} (hN : S 2 t 1 = (N : Int)) (h21 : N ≤ 21) (hq0 : bsg (fun j => 0 < S 10 (32 * t + j) 6) (fun a b => S 10 (32 * t + a) 7 < S 10 (32 * t + b) 7) N none → A (xv .null) S) (hq1 : ∀ b, b < N → bsg (fun j => 0 < S 10 (32 * t + j) 6) (fun a b => S 10 (32 * t + a) 7 < S 10 (32 * t + b) 7) N (some b) → A (xp 10 (32 * t + b)) (up S 10 (32 * t + b) 6 (S 10 (32 * t + b) 6 - 1))) : Ko w mX5_chooseJob yX5_chooseJob 0 0 [xp 2 t] S A B := by
  refine K.of rfl rfl rfl rfl (Nat.le_of_ble_eq_true rfl) rfl ?_
  have lp : ∀ i : Nat, i ≤ N → ∀ (q : Option Nat) (a3 : xV), bsg (fun j => 0 < S 10 (32 * t + j) 6) (fun a b => S 10 (32 * t + a) 7 < S 10 (32 * t + b) 7) i q → X w mX5_chooseJob (xTG w (fun v S' => ∃ a, v = some a ∧ A a S') B) 0 0 4 [xp 2 t, (match q with | none => xv .null | some b => xp 10 (32 * t + b)), xi (i : Int), xj] [] S := by
    refine nloop N (fun i hi ih q a3 hI => ?_)
    cases q with
    | none =>
      refine xs_iload_2 eX5_chooseJob_4 ?_
      refine xs_aload_0 eX5_chooseJob_5 ?_
      refine gr_X5_1 eX5_chooseJob_6 lRX5_18 (fun r6 => ?_)
      try simp (decide := true) only [up_app, if_true, if_false, and_true, true_and, and_false, false_and, Int.toNat_natCast, Nat.add_left_cancel_iff] at r6 ⊢
      refine xa_icmp_ge (tgt := 49) eX5_chooseJob_9 (by decide) (by omega) (by omega) (fun c9 => ?_) (fun c9 => ?_)
      · refine xs_aloadn_1 eX5_chooseJob_49 ?_
        refine xa_ifnullN (tgt := 63) eX5_chooseJob_50 (by decide) ?_
        refine xs_aloadn_1 eX5_chooseJob_63 ?_
        exact xa_aretN eX5_chooseJob_64 rfl ⟨_, rfl, hq0 (by have e : N = i := (by omega); rw [e]; exact hI)⟩
      · refine xs_aload_0 eX5_chooseJob_12 ?_
        refine g_X5_0 eX5_chooseJob_13 lRX5_13 ?_
        refine xs_iload_2 eX5_chooseJob_16 ?_
        refine ga_23 eX5_chooseJob_17 (by omega) ?_
        try simp (decide := true) only [up_app, if_true, if_false, and_true, true_and, and_false, false_and, Int.toNat_natCast, Nat.add_left_cancel_iff]
        refine xs_astore_3 eX5_chooseJob_18 rfl ?_
        refine xs_aload_3 eX5_chooseJob_19 ?_
        refine gr_X1_6 eX5_chooseJob_20 lRX5_66 (fun r20 => ?_)
        try simp (decide := true) only [up_app, if_true, if_false, and_true, true_and, and_false, false_and, Int.toNat_natCast, Nat.add_left_cancel_iff] at r20 ⊢
        refine xa_if_le (tgt := 43) eX5_chooseJob_23 (by decide) (by omega) (fun c23 => ?_) (fun c23 => ?_)
        · refine xs_iinc_2 eX5_chooseJob_43 rfl ?_
          refine xa_goto (tgt := 4) eX5_chooseJob_46 (by decide) ?_
          refine xs_junk_3 ?_
          first | exact ih (i + 1) (by omega) (by omega) none a3 ⟨_, hI, Or.inl ⟨fun z => absurd c23 (Int.not_le.mpr z), rfl⟩⟩
        · refine xs_aloadn_1 eX5_chooseJob_26 ?_
          refine xa_ifnullN (tgt := 41) eX5_chooseJob_27 (by decide) ?_
          refine xs_aload_3 eX5_chooseJob_41 ?_
          refine xs_astore_1 eX5_chooseJob_42 rfl ?_
          refine xs_iinc_2 eX5_chooseJob_43 rfl ?_
          refine xa_goto (tgt := 4) eX5_chooseJob_46 (by decide) ?_
          refine xs_junk_3 ?_
          exact ih (i + 1) (by omega) (by omega) (some i) a3 ⟨none, hI, Or.inr (Or.inl ⟨c23, rfl, rfl⟩)⟩
    | some b =>
      have hb := hI.lt
      refine xs_iload_2 eX5_chooseJob_4 ?_
      refine xs_aload_0 eX5_chooseJob_5 ?_
      refine gr_X5_1 eX5_chooseJob_6 lRX5_18 (fun r6 => ?_)
      try simp (decide := true) only [up_app, if_true, if_false, and_true, true_and, and_false, false_and, Int.toNat_natCast, Nat.add_left_cancel_iff] at r6 ⊢
      refine xa_icmp_ge (tgt := 49) eX5_chooseJob_9 (by decide) (by omega) (by omega) (fun c9 => ?_) (fun c9 => ?_)
      · refine xs_aload_1 eX5_chooseJob_49 ?_
        refine xa_ifnullP eX5_chooseJob_50 ?_
        refine xs_aload_1 eX5_chooseJob_53 ?_
        refine xa_dup eX5_chooseJob_54 rfl ?_
        refine gr_X1_6 eX5_chooseJob_55 lRX5_66 (fun r55 => ?_)
        try simp (decide := true) only [up_app, if_true, if_false, and_true, true_and, and_false, false_and, Int.toNat_natCast, Nat.add_left_cancel_iff] at r55 ⊢
        refine xa_iconst eX5_chooseJob_58 ?_
        refine xa_isub eX5_chooseJob_59 ?_
        refine p_X1_6 eX5_chooseJob_60 lRX5_66 (by omega) ?_
        refine xs_aload_1 eX5_chooseJob_63 ?_
        exact xa_aret eX5_chooseJob_64 rfl ⟨_, rfl, hq1 b (by omega) (by have e : N = i := (by omega); rw [e]; exact hI)⟩
      · refine xs_aload_0 eX5_chooseJob_12 ?_
        refine g_X5_0 eX5_chooseJob_13 lRX5_13 ?_
        refine xs_iload_2 eX5_chooseJob_16 ?_
        refine ga_23 eX5_chooseJob_17 (by omega) ?_
        try simp (decide := true) only [up_app, if_true, if_false, and_true, true_and, and_false, false_and, Int.toNat_natCast, Nat.add_left_cancel_iff]
        refine xs_astore_3 eX5_chooseJob_18 rfl ?_
        refine xs_aload_3 eX5_chooseJob_19 ?_
        refine gr_X1_6 eX5_chooseJob_20 lRX5_66 (fun r20 => ?_)
        try simp (decide := true) only [up_app, if_true, if_false, and_true, true_and, and_false, false_and, Int.toNat_natCast, Nat.add_left_cancel_iff] at r20 ⊢
        refine xa_if_le (tgt := 43) eX5_chooseJob_23 (by decide) (by omega) (fun c23 => ?_) (fun c23 => ?_)
        · refine xs_iinc_2 eX5_chooseJob_43 rfl ?_
          refine xa_goto (tgt := 4) eX5_chooseJob_46 (by decide) ?_
          refine xs_junk_3 ?_
          first | exact ih (i + 1) (by omega) (by omega) (some b) a3 ⟨_, hI, Or.inl ⟨fun z => absurd c23 (Int.not_le.mpr z), rfl⟩⟩ | exact ih (i + 1) (by omega) (by omega) (some b) a3 ⟨some b, hI, Or.inr (Or.inr ⟨c23, b, rfl, Or.inr ⟨Int.not_lt.mpr c38, rfl⟩⟩)⟩
        · refine xs_aload_1 eX5_chooseJob_26 ?_
          refine xa_ifnullP eX5_chooseJob_27 ?_
          refine xs_aload_3 eX5_chooseJob_30 ?_
          refine gr_X1_7 eX5_chooseJob_31 lRX5_69 (fun r31 => ?_)
          try simp (decide := true) only [up_app, if_true, if_false, and_true, true_and, and_false, false_and, Int.toNat_natCast, Nat.add_left_cancel_iff] at r31 ⊢
          refine xs_aload_1 eX5_chooseJob_34 ?_
          refine gr_X1_7 eX5_chooseJob_35 lRX5_69 (fun r35 => ?_)
          try simp (decide := true) only [up_app, if_true, if_false, and_true, true_and, and_false, false_and, Int.toNat_natCast, Nat.add_left_cancel_iff] at r35 ⊢
          refine xa_icmp_ge (tgt := 43) eX5_chooseJob_38 (by decide) (by omega) (by omega) (fun c38 => ?_) (fun c38 => ?_)
          · refine xs_iinc_2 eX5_chooseJob_43 rfl ?_
            refine xa_goto (tgt := 4) eX5_chooseJob_46 (by decide) ?_
            refine xs_junk_3 ?_
            first | exact ih (i + 1) (by omega) (by omega) (some b) a3 ⟨_, hI, Or.inl ⟨fun z => absurd c23 (Int.not_le.mpr z), rfl⟩⟩ | exact ih (i + 1) (by omega) (by omega) (some b) a3 ⟨some b, hI, Or.inr (Or.inr ⟨c23, b, rfl, Or.inr ⟨Int.not_lt.mpr c38, rfl⟩⟩)⟩
          · refine xs_aload_3 eX5_chooseJob_41 ?_
            refine xs_astore_1 eX5_chooseJob_42 rfl ?_
            refine xs_iinc_2 eX5_chooseJob_43 rfl ?_
            refine xa_goto (tgt := 4) eX5_chooseJob_46 (by decide) ?_
            refine xs_junk_3 ?_
            exact ih (i + 1) (by omega) (by omega) (some i) a3 ⟨some b, hI, Or.inr (Or.inr ⟨c23, b, rfl, Or.inl ⟨c38, rfl⟩⟩)⟩
  refine xa_null eX5_chooseJob_0 ?_
  refine xs_astoren_1 eX5_chooseJob_1 rfl ?_
  refine xa_iconst eX5_chooseJob_2 ?_
  refine xs_istore_2 eX5_chooseJob_3 rfl ?_
  exact lp 0 (by omega) none xj rfl
theorem k_X5_growTime {w : xW} {S : xS} {B : String → xS → Prop} {A : Int → xS → Prop} {t N : Nat} (hN : S 2 t 1 = (N : Int)) (h21 : N ≤ 21) (ht : xr (S 2 t 2 + 1)) (hr : ∀ j, j < N → xr (S 10 (32 * t + j) 16 + 1)) (hq : ∀ S', xmp 10 (32 * t) N 17 (fun j => xmis (S 2 t 2 + 1) (S 10 (32 * t + j))) S' (up S 2 t 2 (S 2 t 2 + 1)) → A (sm (fun j => b2i (0 < S 10 (32 * t + j) 6 ∧ S 10 (32 * t + j) 7 ≤ S 2 t 2 + 1)) N) S') : Ki w mX5_growTime yX5_growTime 0 0 [xp 2 t] S A B := by
  refine K.of rfl rfl rfl rfl (Nat.le_of_ble_eq_true rfl) rfl ?_
  have lp : ∀ i : Nat, i ≤ N → ∀ (S1 : xS), xmp 10 (32 * t) i 17 (fun j => xmis (S 2 t 2 + 1) (S 10 (32 * t + j))) S1 (up S 2 t 2 (S 2 t 2 + 1)) → X w mX5_growTime (xTG w (fun v S' => ∃ a, v = some (xi a) ∧ A a S') B) 0 0 14 [xp 2 t, xi (sm (fun j => b2i (0 < S 10 (32 * t + j) 6 ∧ S 10 (32 * t + j) 7 ≤ S 2 t 2 + 1)) i), xi (i : Int)] [] S1 := by
    refine nloop (N) (fun i hi ih S1 hI => ?_)
    have e2 : S1 2 t 1 = (N : Int) := by rw [hI.oth (x := 2) (y := t) (by omega), up_f (by decide)]; exact hN
    have e2t : S1 2 t 2 = S 2 t 2 + 1 := by rw [hI.oth (x := 2) (y := t) (by omega), up_same]
    have e10 : S1 10 (32 * t + i) = S 10 (32 * t + i) := by rw [hI.row, up_oth (by omega)]
    refine xs_iload_2 eX5_growTime_14 ?_
    refine xs_aload_0 eX5_growTime_15 ?_
    refine gr_X5_1 eX5_growTime_16 lRX5_18 (fun r16 => ?_)
    try simp (decide := true) only [e2, e2t, up_app, if_true, if_false, and_true, true_and, and_false, false_and, Int.toNat_natCast, Nat.add_left_cancel_iff] at r16 ⊢
    refine xa_icmp_ge (tgt := 47) eX5_growTime_19 (by decide) (by omega) (by omega) (fun c19 => ?_) (fun c19 => ?_)
    · refine xs_iload_1 eX5_growTime_47 ?_
      exact xa_iret eX5_growTime_48 rfl ⟨_, rfl, (by have e : N = i := (by omega); rw [e] at hq; exact hq S1 hI)⟩
    · refine xs_aload_0 eX5_growTime_22 ?_
      refine g_X5_0 eX5_growTime_23 lRX5_13 ?_
      refine xs_iload_2 eX5_growTime_26 ?_
      refine ga_23 eX5_growTime_27 (by omega) ?_
      try simp (decide := true) only [e2, e2t, up_app, if_true, if_false, and_true, true_and, and_false, false_and, Int.toNat_natCast, Nat.add_left_cancel_iff]
      refine xs_aload_0 eX5_growTime_28 ?_
      refine gr_X5_2 eX5_growTime_29 lRX5_22 (fun r29 => ?_)
      try simp (decide := true) only [e2, e2t, up_app, if_true, if_false, and_true, true_and, and_false, false_and, Int.toNat_natCast, Nat.add_left_cancel_iff] at r29 ⊢
      refine xbi_V10 (mi' := mX1_missJob) (y := yX1_missJob) eX5_growTime_32 (xw_5 lRX5_72 wy_X1_missJob) rfl ⟨wd_X1_missJob, by decide, by decide⟩ (by decide) (fun _ => rfl) rfl (Nat.le_of_ble_eq_true rfl) rfl (k_X1_missJob (by omega) (by rw [e10]; exact hr i (by omega)) (fun S2 h2 => ?_))
      refine xa_ifb_eq (tgt := 41) eX5_growTime_35 (by decide) (fun c35 => ?_) (fun c35 => ?_)
      · refine xs_iinc_2 eX5_growTime_41 rfl ?_
        refine xa_goto (tgt := 14) eX5_growTime_44 (by decide) ?_
        have h9 := ih (i + 1) (by omega) (by omega) S2 (hI.step h2 (fun f _ => by rw [e10]))
        rw [sm_s, show b2i (0 < S 10 (32 * t + i) 6 ∧ S 10 (32 * t + i) 7 ≤ S 2 t 2 + 1) = 0 from (b2i_eq0.mpr (by rw [← e10]; exact c35))] at h9
        rw [Int.add_zero] at h9
        exact h9
      · refine xs_iinc_1 eX5_growTime_38 rfl ?_
        refine xs_iinc_2 eX5_growTime_41 rfl ?_
        refine xa_goto (tgt := 14) eX5_growTime_44 (by decide) ?_
        have h9 := ih (i + 1) (by omega) (by omega) S2 (hI.step h2 (fun f _ => by rw [e10]))
        rw [sm_s, show b2i (0 < S 10 (32 * t + i) 6 ∧ S 10 (32 * t + i) 7 ≤ S 2 t 2 + 1) = 1 from (b2i_1 (A := fun z => b2i _ = z) (by rw [← e10]; exact c35) rfl)] at h9
        skip
        exact h9
  refine xs_aload_0 eX5_growTime_0 ?_
  refine xa_dup eX5_growTime_1 rfl ?_
  refine gr_X5_2 eX5_growTime_2 lRX5_22 (fun r2 => ?_)
  try simp (decide := true) only [up_app, if_true, if_false, and_true, true_and, and_false, false_and, Int.toNat_natCast, Nat.add_left_cancel_iff] at r2 ⊢
  refine xa_iconst eX5_growTime_5 ?_
  refine xa_iadd eX5_growTime_6 ?_
  refine p_X5_2 eX5_growTime_7 lRX5_22 (by omega) ?_
  refine xa_iconst eX5_growTime_10 ?_
  refine xs_istore_1 eX5_growTime_11 rfl ?_
  refine xa_iconst eX5_growTime_12 ?_
  refine xs_istore_2 eX5_growTime_13 rfl ?_
  exact lp 0 (by omega) _ xmp.zero

