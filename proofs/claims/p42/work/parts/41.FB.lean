/-! promises 8 to 10 -/
theorem tlq.sym {u v N : Nat} {C D : xS} (h : tlq u v N C D) : tlq v u N D C := ⟨h.1.symm, fun j hj f hf => (h.2 j hj f hf).symm⟩
theorem VT.xtl {t u N : Nat} {T : Int} {S S1 : xS} (h : VT t N T S) (hx : xtl u S1 S) (hu : u ≠ t) : VT t N T S1 := by
  obtain ⟨a1, a2, a3, a4⟩ := h
  refine ⟨by rw [hx 2 t (by omega) (by omega)]; exact a1, a2, by rw [hx 2 t (by omega) (by omega)]; exact a3, fun j hj => ?_⟩
  rw [hx 2 t (by omega) (by omega), hx 10 (32 * t + j) (by omega) (by omega)]
  exact a4 j hj
theorem addT_scr {N : Nat} {o p b d : Int} {S S1 : xS} (h : scr S1 S) : scr (addT 0 N o p b d S1) (addT 0 N o p b d S) := by
  intro x y k
  funext f
  unfold addT
  rw [h x y k, h 2 0 (by unfold sct; omega)]
def frs (g : Nat → Bool) : Nat → Nat → Int
  | 0, _ => -1
  | k + 1, i => if g i = true then (i : Int) else frs g k (i + 1)
def gbF (p d : Int) (N : Nat) (C : xS) : Nat → Int
  | 0 => 0
  | k + 1 => if accF 0 5 N p ((k + 1 : Nat) : Int) d C = true then ((k + 1 : Nat) : Int) else gbF p d N C k
def o_promise (q p b d : Int) (n N : Nat) (C : xS) : xO := if 0 ≤ q ∧ q < (n : Int) then (if wshP p b d then (if N < 20 then (if accF 0 5 N p b d C = true then (0, N, n, N + 1, addT 0 N q p b d C) else (3, 0, n, N, C)) else (3, 0, n, N, C)) else (2, 0, n, N, C)) else (1, 0, n, N, C)
def o_canAccept (p b d : Int) (n N : Nat) (C : xS) : xO := if wshP p b d then (0, b2i (accF 0 5 N p b d C = true), n, N, C) else (1, 0, n, N, C)
def o_greatestBudget (p d : Int) (n N : Nat) (C : xS) : xO := if perP p then (if 1 ≤ d ∧ d ≤ p then (0, gbF p d N C d.toNat, n, N, C) else (1, 0, n, N, C)) else (1, 0, n, N, C)
def o_waitFor (p b d : Int) (n N : Nat) (C : xS) : xO := if wshP p b d then (0, frs (fun i => accF 0 5 N p b d (itr (tckS 0 n N) i C)) 121 0, n, N, C) else (1, 0, n, N, C)
def o_end (j : Int) (n N : Nat) (C : xS) : xO := if 0 ≤ j ∧ j < (N : Int) then (if C 10 (32 * 0 + j.toNat) 0 = 0 then (0, C 10 (32 * 0 + j.toNat) 6, n, N, rwS 10 (32 * 0 + j.toNat) (xfin (C 10 (32 * 0 + j.toNat))) C) else (2, 0, n, N, C)) else (1, 0, n, N, C)
def o_split (j a : Int) (n N : Nat) (C : xS) : xO := if 0 ≤ j ∧ j < (N : Int) then (if 1 ≤ a ∧ a ≤ C 10 (32 * 0 + j.toNat) 3 - 1 then (if C 10 (32 * 0 + j.toNat) 0 = 0 ∧ N < 20 then (0, N, n, N + 1, divS 0 N j.toNat a C) else (3, 0, n, N, C)) else (2, 0, n, N, C)) else (1, 0, n, N, C)
def o_told (j a : Int) (n N : Nat) (C : xS) : xO := if 0 ≤ j ∧ j < (N : Int) then (if 0 ≤ a ∧ a ≤ 16 then (0, xfg1 (C 2 0 2) (C 10 (32 * 0 + j.toNat)) a.toNat, n, N, C) else (2, 0, n, N, C)) else (1, 0, n, N, C)
set_option maxHeartbeats 400000 in
theorem F_promise {w : xW} {S : xS} {B : String → xS → Prop} {A : Int → xS → Prop} {q p b d : Int} {n N : Nat} {T : Int} (hV : VS 0 n N T S) (hT : T ≤ 800000) (yq : xr q) (yp : xr p) (yb : xr b) (yd : xr d)  (hA : ∀ S', (o_promise q p b d n N S).1 = 0 → scr S' (o_promise q p b d n N S).2.2.2.2 → A (o_promise q p b d n N S).2.1 S') (hB1 : ∀ S', (o_promise q p b d n N S).1 = 1 → scr S' S → B "java/lang/IndexOutOfBoundsException" S') (hB2 : ∀ S', (o_promise q p b d n N S).1 = 2 → scr S' S → B "java/lang/IllegalArgumentException" S') (hB3 : ∀ S', (o_promise q p b d n N S).1 = 3 → scr S' S → B "java/lang/IllegalStateException" S') : Ki w mX7_promise yX7_promise 1 6 [xp 0 0, xi q, xi p, xi b, xi d] S A B := by
  refine K.of rfl rfl rfl rfl (Nat.le_of_ble_eq_true rfl) rfl ?_
  obtain ⟨hVT, hN20, h8, hg, hp, ho, hs⟩ := id hV
  have hn := hg.1
  have hN := hVT.1
  have ht := hVT.2.2.1
  refine xs_aload_0 eX7_promise_0 ?_
  refine g_X7_0 eX7_promise_1 lRX7_10 ?_
  refine xs_iload_1 eX7_promise_4 ?_
  by_cases c5 : 0 ≤ q ∧ q < (n : Int)
  · refine xbo_V10 (mi' := mX4_knownProcess) (y := yX4_knownProcess) eX7_promise_5 (xw_5 lRX7_60 wy_X4_knownProcess) rfl ⟨wd_X4_knownProcess, by decide, by decide⟩ (by decide) (fun _ => rfl) rfl (Nat.le_of_ble_eq_true rfl) rfl (kI_X4_knownProcess hn h8 c5 ?_)
    refine xa_pop eX7_promise_8 rfl ?_
    refine xs_iload_2 eX7_promise_9 ?_
    refine xs_iload_3 eX7_promise_10 ?_
    refine xs_iload_4 eX7_promise_11 ?_
    by_cases c13 : wshP p b d
    · refine xbv_S30 (mi' := mX7_checkPromise) (y := yX7_checkPromise) eX7_promise_13 (xw_4 lRX7_98 wy_X7_checkPromise) rfl rfl ⟨wd_X7_checkPromise, by decide, by decide⟩ (Nat.le_of_ble_eq_true rfl) rfl (kk_X7_checkPromise yp yb yd c13 ?_)
      refine xs_aload_0 eX7_promise_16 ?_
      refine g_X7_0 eX7_promise_17 lRX7_10 ?_
      refine g_X4_0 eX7_promise_20 lRX7_88 ?_
      refine gr_X5_1 eX7_promise_23 lRX7_101 (fun r23 => ?_)
      try rw [hN] at r23 ⊢
      refine xa_bipush eX7_promise_26 (by decide) ?_
      refine xa_icmp_ge (tgt := 35) eX7_promise_28 (by decide) (by omega) (by omega) (fun c28 => ?_) (fun c28 => ?_)
      · refine xa_iconst eX7_promise_35 ?_
        exact xbv_S1 (mi' := mX7_checkState) (y := yX7_checkState) eX7_promise_36 (xw_4 lRX7_53 wy_X7_checkState) rfl rfl ⟨wd_X7_checkState, by decide, by decide⟩ (Nat.le_of_ble_eq_true rfl) rfl ⟨by decide, by decide⟩ (kt_X7_checkState (P := False) id (xt_out rfl (hB3 S (by unfold o_promise; rw [if_pos c5, if_pos c13, if_neg (by omega)]) scr.rf)))
      · refine xa_iconst eX7_promise_31 ?_
        refine xa_goto (tgt := 36) eX7_promise_32 (by decide) ?_
        refine xbv_S10 (mi' := mX7_checkState) (y := yX7_checkState) eX7_promise_36 (xw_4 lRX7_53 wy_X7_checkState) rfl rfl ⟨wd_X7_checkState, by decide, by decide⟩ (Nat.le_of_ble_eq_true rfl) rfl (kk_X7_checkState (P := True) trivial ?_)
        refine xs_aload_0 eX7_promise_39 ?_
        refine g_X7_4 eX7_promise_40 lRX7_30 ?_
        refine xs_aload_0 eX7_promise_43 ?_
        refine g_X7_0 eX7_promise_44 lRX7_10 ?_
        refine g_X4_0 eX7_promise_47 lRX7_88 ?_
        refine xs_iload_2 eX7_promise_50 ?_
        refine xs_iload_3 eX7_promise_51 ?_
        refine xs_iload_4 eX7_promise_52 ?_
        refine xbi_V40 (mi' := mX5_accepts) (y := yX5_accepts) eX7_promise_54 (xw_5 lRX7_104 wy_X5_accepts) rfl ⟨wd_X5_accepts, by decide, by decide⟩ (by decide) (fun _ => rfl) rfl (Nat.le_of_ble_eq_true rfl) rfl (f_X5_accepts (t := 0) (u := 5) (by decide) hVT hN20 (by have z := c13.1; omega) c13.2.1 (by have z := c13; omega) (by omega) (fun S1 hx1 => ?_))
        by_cases c57 : accF 0 5 N p b d S = true
        · refine xbv_S10 (mi' := mX7_checkState) (y := yX7_checkState) eX7_promise_57 (xw_4 lRX7_53 wy_X7_checkState) rfl rfl ⟨wd_X7_checkState, by decide, by decide⟩ (Nat.le_of_ble_eq_true rfl) rfl (kk_X7_checkState c57 ?_)
          refine xs_aload_0 eX7_promise_60 ?_
          refine g_X7_0 eX7_promise_61 lRX7_10 ?_
          refine g_X4_0 eX7_promise_64 lRX7_88 ?_
          refine xs_iload_1 eX7_promise_67 ?_
          refine xs_iload_2 eX7_promise_68 ?_
          refine xs_iload_3 eX7_promise_69 ?_
          refine xs_iload_4 eX7_promise_70 ?_
          refine xbv_V40 (mi' := mX5_add) (y := yX5_add) eX7_promise_72 (xw_5 lRX7_108 wy_X5_add) rfl ⟨wd_X5_add, by decide, by decide⟩ (by decide) (fun _ => rfl) rfl (Nat.le_of_ble_eq_true rfl) rfl (f_X5_add (hVT.xtl hx1 (by decide)) (by omega) (by omega) yq (by have z := c13.1; omega) c13.2.1 (by have z := c13; omega) ?_)
          refine xs_aload_0 eX7_promise_75 ?_
          refine g_X7_0 eX7_promise_76 lRX7_10 ?_
          refine g_X4_0 eX7_promise_79 lRX7_88 ?_
          refine gr_X5_1 eX7_promise_82 lRX7_101 (fun r82 => ?_)
          try simp (decide := true) only [addT, if_true, and_true, true_and] at r82 ⊢
          refine xa_iconst eX7_promise_85 ?_
          refine xa_isub eX7_promise_86 ?_
          exact xa_iret eX7_promise_87 rfl ⟨_, rfl, by have h9 := hA; unfold o_promise at h9; rw [if_pos c5, if_pos c13, if_pos (by omega), if_pos c57] at h9; have h7 := h9 _ rfl (addT_scr (N := N) (o := q) (p := p) (b := b) (d := d) (hx1.scr (by decide))); unfold addT at h7; rw [show (N : Int) + 1 - 1 = (N : Int) by omega]; exact h7⟩
        · exact xbv_S1 (mi' := mX7_checkState) (y := yX7_checkState) eX7_promise_57 (xw_4 lRX7_53 wy_X7_checkState) rfl rfl ⟨wd_X7_checkState, by decide, by decide⟩ (Nat.le_of_ble_eq_true rfl) rfl ⟨by decide, by decide⟩ (kt_X7_checkState c57 (xt_out rfl (hB3 S1 (by unfold o_promise; rw [if_pos c5, if_pos c13, if_pos (by omega), if_neg c57]) (hx1.scr (by decide)))))
    · exact xbv_S3 (mi' := mX7_checkPromise) (y := yX7_checkPromise) eX7_promise_13 (xw_4 lRX7_98 wy_X7_checkPromise) rfl rfl ⟨wd_X7_checkPromise, by decide, by decide⟩ (Nat.le_of_ble_eq_true rfl) rfl ⟨by decide, by decide⟩ (kt_X7_checkPromise yp yb yd c13 (xt_out rfl (hB2 S (by unfold o_promise; rw [if_pos c5, if_neg c13]) scr.rf)))
  · exact xbo_V1 (mi' := mX4_knownProcess) (y := yX4_knownProcess) eX7_promise_5 (xw_5 lRX7_60 wy_X4_knownProcess) rfl ⟨wd_X4_knownProcess, by decide, by decide⟩ (by decide) (fun _ => rfl) rfl (Nat.le_of_ble_eq_true rfl) rfl ⟨by decide, by decide⟩ (kt_X4_knownProcess hn h8 yq c5 (xt_out rfl (hB1 S (by unfold o_promise; rw [if_neg c5]) scr.rf)))
set_option maxHeartbeats 400000 in
theorem F_canAccept {w : xW} {S : xS} {B : String → xS → Prop} {A : Int → xS → Prop} {p b d : Int} {n N : Nat} {T : Int} (hV : VS 0 n N T S) (hT : T ≤ 800000) (yp : xr p) (yb : xr b) (yd : xr d)  (hA : ∀ S', (o_canAccept p b d n N S).1 = 0 → scr S' (o_canAccept p b d n N S).2.2.2.2 → A (o_canAccept p b d n N S).2.1 S') (hB1 : ∀ S', (o_canAccept p b d n N S).1 = 1 → scr S' S → B "java/lang/IllegalArgumentException" S') : Ki w mX7_canAccept yX7_canAccept 1 6 [xp 0 0, xi p, xi b, xi d] S A B := by
  refine K.of rfl rfl rfl rfl (Nat.le_of_ble_eq_true rfl) rfl ?_
  obtain ⟨hVT, hN20, h8, hg, hp, ho, hs⟩ := id hV
  have hn := hg.1
  have hN := hVT.1
  have ht := hVT.2.2.1
  refine xs_iload_1 eX7_canAccept_0 ?_
  refine xs_iload_2 eX7_canAccept_1 ?_
  refine xs_iload_3 eX7_canAccept_2 ?_
  by_cases c3 : wshP p b d
  · refine xbv_S30 (mi' := mX7_checkPromise) (y := yX7_checkPromise) eX7_canAccept_3 (xw_4 lRX7_98 wy_X7_checkPromise) rfl rfl ⟨wd_X7_checkPromise, by decide, by decide⟩ (Nat.le_of_ble_eq_true rfl) rfl (kk_X7_checkPromise yp yb yd c3 ?_)
    refine xs_aload_0 eX7_canAccept_6 ?_
    refine g_X7_4 eX7_canAccept_7 lRX7_30 ?_
    refine xs_aload_0 eX7_canAccept_10 ?_
    refine g_X7_0 eX7_canAccept_11 lRX7_10 ?_
    refine g_X4_0 eX7_canAccept_14 lRX7_88 ?_
    refine xs_iload_1 eX7_canAccept_17 ?_
    refine xs_iload_2 eX7_canAccept_18 ?_
    refine xs_iload_3 eX7_canAccept_19 ?_
    refine xbi_V40 (mi' := mX5_accepts) (y := yX5_accepts) eX7_canAccept_20 (xw_5 lRX7_104 wy_X5_accepts) rfl ⟨wd_X5_accepts, by decide, by decide⟩ (by decide) (fun _ => rfl) rfl (Nat.le_of_ble_eq_true rfl) rfl (f_X5_accepts (t := 0) (u := 5) (by decide) hVT hN20 (by have z := c3.1; omega) c3.2.1 (by have z := c3; omega) (by omega) (fun S1 hx1 => ?_))
    exact xa_zret eX7_canAccept_23 rfl (b2i_01 _) ⟨_, rfl, by have h9 := hA; unfold o_canAccept at h9; rw [if_pos c3] at h9; exact h9 _ rfl (hx1.scr (by decide))⟩
  · exact xbv_S3 (mi' := mX7_checkPromise) (y := yX7_checkPromise) eX7_canAccept_3 (xw_4 lRX7_98 wy_X7_checkPromise) rfl rfl ⟨wd_X7_checkPromise, by decide, by decide⟩ (Nat.le_of_ble_eq_true rfl) rfl ⟨by decide, by decide⟩ (kt_X7_checkPromise yp yb yd c3 (xt_out rfl (hB1 S (by unfold o_canAccept; rw [if_neg c3]) scr.rf)))
set_option maxHeartbeats 400000 in
theorem F_greatestBudget {w : xW} {S : xS} {B : String → xS → Prop} {A : Int → xS → Prop} {p d : Int} {n N : Nat} {T : Int} (hV : VS 0 n N T S) (hT : T ≤ 800000) (yp : xr p) (yd : xr d)  (hA : ∀ S', (o_greatestBudget p d n N S).1 = 0 → scr S' (o_greatestBudget p d n N S).2.2.2.2 → A (o_greatestBudget p d n N S).2.1 S') (hB1 : ∀ S', (o_greatestBudget p d n N S).1 = 1 → scr S' S → B "java/lang/IllegalArgumentException" S') : Ki w mX7_greatestBudget yX7_greatestBudget 1 6 [xp 0 0, xi p, xi d] S A B := by
  refine K.of rfl rfl rfl rfl (Nat.le_of_ble_eq_true rfl) rfl ?_
  obtain ⟨hVT, hN20, h8, hg, hp, ho, hs⟩ := id hV
  have hn := hg.1
  have hN := hVT.1
  have ht := hVT.2.2.1
  refine xs_iload_1 eX7_greatestBudget_0 ?_
  refine xbi_S10 (mi' := mX7_isPeriod) (y := yX7_isPeriod) eX7_greatestBudget_1 (xw_4 lRX7_112 wy_X7_isPeriod) rfl rfl ⟨wd_X7_isPeriod, by decide, by decide⟩ (Nat.le_of_ble_eq_true rfl) rfl (k_X7_isPeriod yp ?_)
  by_cases c4 : perP p
  · refine xbv_S10 (mi' := mX7_checkArgument) (y := yX7_checkArgument) eX7_greatestBudget_4 (xw_4 lRX7_116 wy_X7_checkArgument) rfl rfl ⟨wd_X7_checkArgument, by decide, by decide⟩ (Nat.le_of_ble_eq_true rfl) rfl (kk_X7_checkArgument c4 ?_)
    refine xs_iload_2 eX7_greatestBudget_7 ?_
    refine xa_iconst eX7_greatestBudget_8 ?_
    refine xs_iload_1 eX7_greatestBudget_9 ?_
    by_cases c10 : 1 ≤ d ∧ d ≤ p
    · refine xbv_S30 (mi' := mX7_checkRange) (y := yX7_checkRange) eX7_greatestBudget_10 (xw_4 lRX7_45 wy_X7_checkRange) rfl rfl ⟨wd_X7_checkRange, by decide, by decide⟩ (Nat.le_of_ble_eq_true rfl) rfl (kk_X7_checkRange yd (by decide) yp c10 ?_)
      have hdp : 1 ≤ p ∧ p ≤ 120 := by have z := c4; omega
      have lp : ∀ i : Nat, i ≤ d.toNat → ∀ S1, xtl 5 S1 S ∧ gbF p d N S (d.toNat - i) = gbF p d N S d.toNat → X w mX7_greatestBudget (xTG w (fun v S' => ∃ a, v = some (xi a) ∧ A a S') B) 1 6 15 [xp 0 0, xi p, xi d, xi ((d.toNat - i : Nat) : Int)] [] S1 := by
        refine nloop d.toNat (fun i hi ih S1 hI => ?_)
        refine xs_iload_3 eX7_greatestBudget_15 ?_
        refine xa_if_le (tgt := 45) eX7_greatestBudget_16 (by decide) (by omega) (fun c16 => ?_) (fun c16 => ?_)
        · refine xs_iload_3 eX7_greatestBudget_45 ?_
          exact xa_iret eX7_greatestBudget_46 rfl ⟨_, rfl, by have h9 := hA; unfold o_greatestBudget at h9; rw [if_pos c4, if_pos c10, ← hI.2, show d.toNat - i = 0 by omega, gbF] at h9; rw [show ((d.toNat - i : Nat) : Int) = 0 by omega]; exact h9 S1 rfl (hI.1.scr (by decide))⟩
        · refine xs_aload_0 eX7_greatestBudget_19 ?_
          refine g_X7_4 eX7_greatestBudget_20 lRX7_30 ?_
          refine xs_aload_0 eX7_greatestBudget_23 ?_
          refine g_X7_0 eX7_greatestBudget_24 lRX7_10 ?_
          refine g_X4_0 eX7_greatestBudget_27 lRX7_88 ?_
          refine xs_iload_1 eX7_greatestBudget_30 ?_
          refine xs_iload_3 eX7_greatestBudget_31 ?_
          refine xs_iload_2 eX7_greatestBudget_32 ?_
          refine xbi_V40 (mi' := mX5_accepts) (y := yX5_accepts) eX7_greatestBudget_33 (xw_5 lRX7_104 wy_X5_accepts) rfl ⟨wd_X5_accepts, by decide, by decide⟩ (by decide) (fun _ => rfl) rfl (Nat.le_of_ble_eq_true rfl) rfl (f_X5_accepts (t := 0) (u := 5) (by decide) (hVT.xtl hI.1 (by decide)) hN20 (by omega) (by omega) (by omega) (by omega) (fun S2 hx2 => ?_))
          have hk1 : ((d.toNat - i : Nat) : Int) = (((d.toNat - (i + 1)) + 1 : Nat) : Int) := by omega
          have e : gbF p d N S (d.toNat - i) = (if accF 0 5 N p (((d.toNat - (i + 1)) + 1 : Nat) : Int) d S = true then (((d.toNat - (i + 1)) + 1 : Nat) : Int) else gbF p d N S (d.toNat - (i + 1))) := by rw [show d.toNat - i = (d.toNat - (i + 1)) + 1 by omega, gbF]
          have ea : accF 0 5 N p ((d.toNat - i : Nat) : Int) d S1 = accF 0 5 N p (((d.toNat - (i + 1)) + 1 : Nat) : Int) d S := by rw [hk1]; exact (tlq.xtl hI.1 (by omega) (by decide)).acc
          rw [ea]
          refine xa_ifb_ne (tgt := 45) eX7_greatestBudget_36 (by decide) (fun c36 => ?_) (fun c36 => ?_)
          · refine xs_iload_3 eX7_greatestBudget_45 ?_
            exact xa_iret eX7_greatestBudget_46 rfl ⟨_, rfl, by have h9 := hA; unfold o_greatestBudget at h9; rw [if_pos c4, if_pos c10, ← hI.2, e, if_pos c36] at h9; rw [hk1]; exact h9 S2 rfl ((hx2.tr hI.1).scr (by decide))⟩
          · refine xs_iinc_3 eX7_greatestBudget_39 rfl ?_
            refine xa_goto (tgt := 15) eX7_greatestBudget_42 (by decide) ?_
            have h9 := ih (i + 1) (by omega) (by omega) S2 ⟨hx2.tr hI.1, by rw [← hI.2, e, if_neg c36]⟩
            rw [show ((d.toNat - i : Nat) : Int) + -1 = ((d.toNat - (i + 1) : Nat) : Int) by omega]
            exact h9
      have h15 := lp 0 (by omega) S ⟨xtl.rf, by rw [Nat.sub_zero]⟩
      rw [show ((d.toNat - 0 : Nat) : Int) = d by omega] at h15
      refine xs_iload_2 eX7_greatestBudget_13 ?_
      refine xs_istore_3 eX7_greatestBudget_14 rfl ?_
      exact h15
    · exact xbv_S3 (mi' := mX7_checkRange) (y := yX7_checkRange) eX7_greatestBudget_10 (xw_4 lRX7_45 wy_X7_checkRange) rfl rfl ⟨wd_X7_checkRange, by decide, by decide⟩ (Nat.le_of_ble_eq_true rfl) rfl ⟨by decide, by decide⟩ (kt_X7_checkRange yd (by decide) yp c10 (xt_out rfl (hB1 S (by unfold o_greatestBudget; rw [if_pos c4, if_neg c10]) scr.rf)))
  · exact xbv_S1 (mi' := mX7_checkArgument) (y := yX7_checkArgument) eX7_greatestBudget_4 (xw_4 lRX7_116 wy_X7_checkArgument) rfl rfl ⟨wd_X7_checkArgument, by decide, by decide⟩ (Nat.le_of_ble_eq_true rfl) rfl ⟨by decide, by decide⟩ (kt_X7_checkArgument c4 (xt_out rfl (hB1 S (by unfold o_greatestBudget; rw [if_neg c4]) scr.rf)))
