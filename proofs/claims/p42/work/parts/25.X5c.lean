/-! PromiseMarket$Timeline: the acceptance -/
theorem f_X5_add {w : xW} {S : xS} {B : String → xS → Prop} {A : xS → Prop} {t N : Nat} {T o p b d : Int} (hV : VT t N T S) (hT : T ≤ 1000000) (hN : N < 21) (ho : xr o) (hp : 1 ≤ p ∧ p ≤ 120) (hb : 1 ≤ b ∧ b ≤ 120) (hd : 1 ≤ d ∧ d ≤ 120) (hq : A (addT t N o p b d S)) : Kv w mX5_add yX5_add 0 0 [xp 2 t, xi o, xi p, xi b, xi d] S A B := by
  obtain ⟨h1, h2, h3, h4⟩ := hV
  refine K.eqv (k_X5_add (A := fun S' => ∃ S1, S' = up S1 2 t 1 ((N : Int) + 1) ∧ xrow 10 (32 * t + N) 17 (xbeg o p b d (S 2 t 2)) S1 S) ho (by omega) (by omega) (by omega) h1 hN (fun S1 h => ⟨S1, rfl, h⟩)) (fun v S' h => ⟨addT t N o p b d S, ?_, ?_, h.1, hq⟩)
  · obtain ⟨-, S1, rfl, hr, ho⟩ := h
    refine ⟨fun k j k4 k10 => ?_, fun j f hf => ?_, fun j f hf => ?_⟩
    · funext f
      rw [up_app]
      unfold addT
      by_cases c : k = 2 ∧ j = t ∧ f = 1
      · rw [if_pos c, if_pos c]
      · rw [if_neg c, if_neg c, if_neg (by omega), ho k j (by omega)]
    · rw [up_k (by decide), ho 4 j (by omega)]; unfold addT; rw [if_neg (by omega), if_neg (by omega)]
    · rw [up_k (by decide)]
      unfold addT
      rw [if_neg (by omega)]
      by_cases c : j = 32 * t + N
      · subst c; rw [if_pos ⟨rfl, rfl⟩, hr f hf]
      · rw [if_neg (by omega), ho 10 j (by omega)]
  · intro k j f
    obtain ⟨-, S1, rfl, hr, ho'⟩ := h
    unfold addT
    by_cases c1 : k = 2 ∧ j = t ∧ f = 1
    · right; right; rw [if_pos c1, c1.1]; exact ⟨rfl, by omega⟩
    · by_cases c : k = 10 ∧ j = 32 * t + N
      · right; right
        rw [if_neg c1, if_pos c, c.1]
        refine ⟨rfl, ?_⟩
        unfold xbeg
        repeat (first | (show xr (if f = _ then _ else _); split) | omega)
      · right; left; refine ⟨j, ?_⟩
        rw [if_neg c1, if_neg c]
theorem f_X5_chooseJobA {w : xW} {S : xS} {B : String → xS → Prop} {A : xV → xS → Prop} {t N : Nat} {T : Int} (hV : VT t N T S) (hq : ∀ v, xcat2 v = false → A v (choT t N S)) : Ko w mX5_chooseJob yX5_chooseJob 0 0 [xp 2 t] S A B := by
  refine f_X5_chooseJob hV (fun e => ?_) (fun b hb e => hq _ rfl)
  have h := hq (xv .null) rfl
  unfold choT decT at h
  rw [e] at h
  exact h
theorem misT_r {t N : Nat} {S : xS} (hN : N ≤ 21) : 0 ≤ misT t N S ∧ misT t N S ≤ 21 := by
  have h := sm_range (g := fun j => b2i (0 < S 10 (32 * t + j) 6 ∧ S 10 (32 * t + j) 7 ≤ S 2 t 2 + 1)) (lo := 0) (hi := 1) (n := N) (fun j hj => by rcases b2i_01 (0 < S 10 (32 * t + j) 6 ∧ S 10 (32 * t + j) 7 ≤ S 2 t 2 + 1) with e | e <;> rw [e] <;> decide)
  unfold misT
  omega
theorem xtic_r {F : Nat → Int} (h2 : 1 ≤ F 2 ∧ F 2 ≤ 120) (h3 : 1 ≤ F 3 ∧ F 3 ≤ 120) : 0 ≤ xtic F ∧ xtic F ≤ 14400 := by
  unfold xtic
  rw [if_neg (by omega)]
  have e : Int.tdiv 120 (F 2) = 120 / F 2 := Int.tdiv_eq_ediv_of_nonneg (by decide)
  rw [e]
  have h5 : 0 ≤ 120 / F 2 := Int.ediv_nonneg (by decide) (by omega)
  have h6 : 120 / F 2 ≤ 120 := Int.ediv_le_self _ (by decide)
  refine ⟨Int.mul_nonneg (by omega) h5, ?_⟩
  have h7 := Int.mul_le_mul h3.2 h6 h5 (by decide : (0 : Int) ≤ 120)
  omega
theorem VT.cyc {t N : Nat} {T : Int} {S : xS} (h : VT t N T S) : 0 ≤ cycT t N S ∧ cycT t N S ≤ 302400 := by
  obtain ⟨h1, h2, h3, h4⟩ := h
  have h := sm_range (g := fun j => if S 10 (32 * t + j) 0 = 0 then xtic (S 10 (32 * t + j)) else 0) (lo := 0) (hi := 14400) (n := N) (fun j hj => by
    have h5 := h4 j hj
    unfold TQ at h5
    have h6 := xtic_r (F := S 10 (32 * t + j)) (by omega) (by omega)
    by_cases c : S 10 (32 * t + j) 0 = 0
    · rw [if_pos c]; exact h6
    · rw [if_neg c]; decide)
  unfold cycT
  omega
set_option maxHeartbeats 4000000 in
theorem f_X5_passTick {w : xW} {S : xS} {B : String → xS → Prop} {A : xS → Prop} {t N : Nat} {T : Int} (hV : VT t N T S) (hT : T ≤ 900000) (hq : A (tckT t N S)) : Kv w mX5_passTick yX5_passTick 0 0 [xp 2 t] S A B := by
  refine K.of rfl rfl rfl rfl (Nat.le_of_ble_eq_true rfl) rfl ?_
  refine xs_aload_0 eX5_passTick_0 ?_
  refine xbv_V00 (mi' := mX5_releaseJobs) (y := yX5_releaseJobs) eX5_passTick_1 (xw_5 lRX5_76 wy_X5_releaseJobs) rfl ⟨wd_X5_releaseJobs, by decide, by decide⟩ (by decide) (fun _ => rfl) rfl (Nat.le_of_ble_eq_true rfl) rfl (f_X5_releaseJobs hV (by omega) ?_)
  refine xs_aload_0 eX5_passTick_4 ?_
  refine xbo_V00 (mi' := mX5_chooseJob) (y := yX5_chooseJob) eX5_passTick_5 (xw_5 lRX5_79 wy_X5_chooseJob) rfl ⟨wd_X5_chooseJob, by decide, by decide⟩ (by decide) (fun _ => rfl) rfl (Nat.le_of_ble_eq_true rfl) rfl (f_X5_chooseJobA hV.rel (fun v5 hv5 => ?_))
  refine xa_pop eX5_passTick_8 hv5 ?_
  refine xs_aload_0 eX5_passTick_9 ?_
  refine xbi_V00 (mi' := mX5_growTime) (y := yX5_growTime) eX5_passTick_10 (xw_5 lRX5_83 wy_X5_growTime) rfl ⟨wd_X5_growTime, by decide, by decide⟩ (by decide) (fun _ => rfl) rfl (Nat.le_of_ble_eq_true rfl) rfl (f_X5_growTime hV.rel.cho (by omega) ?_)
  refine xa_pop eX5_passTick_13 rfl ?_
  exact xa_vret eX5_passTick_14 rfl ⟨rfl, hq⟩
set_option maxHeartbeats 4000000 in
theorem f_X5_accepts {w : xW} {S : xS} {B : String → xS → Prop} {A : Int → xS → Prop} {t u N : Nat} {p b d T : Int} (htu : t ≠ u) (hV : VT t N T S) (hN : N ≤ 20) (hp : 1 ≤ p ∧ p ≤ 120) (hb : 1 ≤ b ∧ b ≤ 120) (hd : 1 ≤ d ∧ d ≤ 120) (hT : T ≤ 900000) (hq : ∀ S', xtl u S' S → A (b2i (accF t u N p b d S = true)) S') : Ki w mX5_accepts yX5_accepts 0 0 [xp 2 u, xp 2 t, xi p, xi b, xi d] S A B := by
  refine K.of rfl rfl rfl rfl (Nat.le_of_ble_eq_true rfl) rfl ?_
  have hV1 : VT u (N + 1) T (addT u N (-1) p b d (cpyT t u N S)) := (hV.cpy (u := u)).add (by omega) hp hb hd
  have z0 : ∀ (a6 : xV) (S1 : xS), accF t u N p b d S = false → xtl u S1 S → X w mX5_accepts (xTG w (fun v S' => ∃ a, v = some (xi a) ∧ A a S') B) 0 0 33 [xp 2 u, xp 2 t, xi p, xi b, xi d, xi 0, a6] [] S1 := by
    intro a6 S1 hc hx
    refine xs_iload_5 eX5_accepts_33 ?_
    refine xa_if_eq (tgt := 75) eX5_accepts_35 (by decide) (by decide) (fun c35 => ?_) (fun c35 => ?_)
    · refine xs_iload_5 eX5_accepts_75 ?_
      exact xa_zret eX5_accepts_77 rfl (by decide) ⟨_, rfl, by have h8 := hq S1 hx; rw [b2i, if_neg (by rw [hc]; decide)] at h8; exact h8⟩
    · exact absurd rfl c35
  have lp : ∀ i : Nat, i ≤ 360 → ∀ (S1 : xS) (_ : VT u (N + 1) (T + 2 * (i : Int)) S1 ∧ xtl u S1 S ∧ okT u (N + 1) (360 - i) S1 = okT u (N + 1) 360 (addT u N (-1) p b d (cpyT t u N S))) (_ : cycT u (N + 1) (addT u N (-1) p b d (cpyT t u N S)) ≤ 120), X w mX5_accepts (xTG w (fun v S' => ∃ a, v = some (xi a) ∧ A a S') B) 0 0 33 [xp 2 u, xp 2 t, xi p, xi b, xi d, xi 1, xi (i : Int)] [] S1 := by
    refine nloop (360) (fun i hi ih S1 hI hc => ?_)
    refine xs_iload_5 eX5_accepts_33 ?_
    refine xa_if_eq (tgt := 75) eX5_accepts_35 (by decide) (by decide) (fun c35 => ?_) (fun c35 => ?_)
    · exact absurd c35 (by decide)
    · refine xs_iload_6 eX5_accepts_38 ?_
      refine xa_sipush eX5_accepts_40 (by decide) ?_
      refine xa_icmp_ge (tgt := 75) eX5_accepts_43 (by decide) (by omega) (by omega) (fun c43 => ?_) (fun c43 => ?_)
      · refine xs_iload_5 eX5_accepts_75 ?_
        exact xa_zret eX5_accepts_77 rfl (by decide) ⟨_, rfl, by have e : i = 360 := (by omega); have h9 := hI.2.2; rw [show 360 - i = 0 by omega, okT] at h9; have h8 := hq S1 hI.2.1; rw [b2i, if_pos (by unfold accF; rw [← h9]; simp only [Bool.and_true, decide_eq_true_eq]; exact hc)] at h8; exact h8⟩
      · refine xs_aload_0 eX5_accepts_46 ?_
        refine xbv_V00 (mi' := mX5_releaseJobs) (y := yX5_releaseJobs) eX5_accepts_47 (xw_5 lRX5_76 wy_X5_releaseJobs) rfl ⟨wd_X5_releaseJobs, by decide, by decide⟩ (by decide) (fun _ => rfl) rfl (Nat.le_of_ble_eq_true rfl) rfl (f_X5_releaseJobs hI.1 (by omega) ?_)
        refine xs_aload_0 eX5_accepts_50 ?_
        refine xbo_V00 (mi' := mX5_chooseJob) (y := yX5_chooseJob) eX5_accepts_51 (xw_5 lRX5_79 wy_X5_chooseJob) rfl ⟨wd_X5_chooseJob, by decide, by decide⟩ (by decide) (fun _ => rfl) rfl (Nat.le_of_ble_eq_true rfl) rfl (f_X5_chooseJobA hI.1.rel (fun v5 hv5 => ?_))
        refine xa_pop eX5_accepts_54 hv5 ?_
        refine xs_aload_0 eX5_accepts_55 ?_
        refine xbi_V00 (mi' := mX5_growTime) (y := yX5_growTime) eX5_accepts_56 (xw_5 lRX5_83 wy_X5_growTime) rfl ⟨wd_X5_growTime, by decide, by decide⟩ (by decide) (fun _ => rfl) rfl (Nat.le_of_ble_eq_true rfl) rfl (f_X5_growTime hI.1.rel.cho (by omega) ?_)
        refine xa_if_ne (tgt := 66) eX5_accepts_59 (by decide) (by have h9 := misT_r (t := u) (N := N + 1) (S := choT u (N + 1) (relT u (N + 1) S1)) (by omega); omega) (fun c59 => ?_) (fun c59 => ?_)
        · refine xa_iconst eX5_accepts_66 ?_
          refine xs_istore_5 eX5_accepts_67 rfl ?_
          refine xs_iinc_6 eX5_accepts_69 rfl ?_
          refine xa_goto (tgt := 33) eX5_accepts_72 (by decide) ?_
          have h7 : okT u (N + 1) (360 - i) S1 = (decide (misT u (N + 1) (choT u (N + 1) (relT u (N + 1) S1)) = 0) && okT u (N + 1) (360 - (i + 1)) (tckT u (N + 1) S1)) := by rw [show 360 - i = (360 - (i + 1)) + 1 by omega, okT]
          refine z0 _ _ ?_ ((tckT_fr (by omega)).tr hI.2.1)
          unfold accF
          rw [← hI.2.2, h7, decide_eq_false (p := misT _ _ _ = 0) c59]
          simp only [Bool.false_and, Bool.and_false]
        · refine xa_iconst eX5_accepts_62 ?_
          refine xa_goto (tgt := 67) eX5_accepts_63 (by decide) ?_
          refine xs_istore_5 eX5_accepts_67 rfl ?_
          refine xs_iinc_6 eX5_accepts_69 rfl ?_
          refine xa_goto (tgt := 33) eX5_accepts_72 (by decide) ?_
          have h7 : okT u (N + 1) (360 - i) S1 = (decide (misT u (N + 1) (choT u (N + 1) (relT u (N + 1) S1)) = 0) && okT u (N + 1) (360 - (i + 1)) (tckT u (N + 1) S1)) := by rw [show 360 - i = (360 - (i + 1)) + 1 by omega, okT]
          refine ih (i + 1) (by omega) (by omega) _ ⟨by have h8 := hI.1.tck; rw [show T + 2 * (i : Int) + 2 = T + 2 * ((i + 1 : Nat) : Int) by omega] at h8; exact h8, (tckT_fr (by omega)).tr hI.2.1, ?_⟩ hc
          rw [← hI.2.2, h7, decide_eq_true (p := misT _ _ _ = 0) c59]
          rfl
  refine xs_aload_0 eX5_accepts_0 ?_
  refine xs_aload_1 eX5_accepts_1 ?_
  refine xbv_V10 (mi' := mX5_copyFrom) (y := yX5_copyFrom) eX5_accepts_2 (xw_5 lRX5_87 wy_X5_copyFrom) rfl ⟨wd_X5_copyFrom, by decide, by decide⟩ (by decide) (fun _ => rfl) rfl (Nat.le_of_ble_eq_true rfl) rfl (f_X5_copyFrom htu hV (by omega) ?_)
  refine xs_aload_0 eX5_accepts_5 ?_
  refine xa_iconst eX5_accepts_6 ?_
  refine xs_iload_2 eX5_accepts_7 ?_
  refine xs_iload_3 eX5_accepts_8 ?_
  refine xs_iload_4 eX5_accepts_9 ?_
  refine xbv_V40 (mi' := mX5_add) (y := yX5_add) eX5_accepts_11 (xw_5 lRX5_90 wy_X5_add) rfl ⟨wd_X5_add, by decide, by decide⟩ (by decide) (fun _ => rfl) rfl (Nat.le_of_ble_eq_true rfl) rfl (f_X5_add hV.cpy (by omega) (by omega) (by decide) hp hb hd ?_)
  refine xs_aload_0 eX5_accepts_14 ?_
  refine xbi_V00 (mi' := mX5_ticksInCycle) (y := yX5_ticksInCycle) eX5_accepts_15 (xw_5 lRX5_94 wy_X5_ticksInCycle) rfl ⟨wd_X5_ticksInCycle, by decide, by decide⟩ (by decide) (fun _ => rfl) rfl (Nat.le_of_ble_eq_true rfl) rfl (k_X5_ticksInCycle (N := N + 1) hV1.1 (by omega) ?_)
  refine xa_bipush eX5_accepts_18 (by decide) ?_
  refine xa_icmp_gt (tgt := 27) eX5_accepts_20 (by decide) (by have h9 := hV1.cyc; unfold cycT at h9; omega) (by decide) (fun c20 => ?_) (fun c20 => ?_)
  · refine xa_iconst eX5_accepts_27 ?_
    refine xs_istore_5 eX5_accepts_28 rfl ?_
    refine xa_iconst eX5_accepts_30 ?_
    refine xs_istore_6 eX5_accepts_31 rfl ?_
    refine z0 _ _ ?_ ((addT_fr (by omega)).tr (cpyT_fr (by omega)))
    unfold accF
    rw [decide_eq_false (by unfold cycT; omega)]
    rfl
  · refine xa_iconst eX5_accepts_23 ?_
    refine xa_goto (tgt := 28) eX5_accepts_24 (by decide) ?_
    refine xs_istore_5 eX5_accepts_28 rfl ?_
    refine xa_iconst eX5_accepts_30 ?_
    refine xs_istore_6 eX5_accepts_31 rfl ?_
    exact lp 0 (by omega) _ ⟨by have h8 := hV1; rw [show T = T + 2 * ((0 : Nat) : Int) by omega] at h8; exact h8, (addT_fr (by omega)).tr (cpyT_fr (by omega)), rfl⟩ (by unfold cycT; omega)
theorem X_cast {w : xW} {mi : xM} {TG : xT} {k n pc : Nat} {L st : List xV} {S1 S2 : xS} (e : S2 = S1) (h : X w mi TG k n pc L st S2) : X w mi TG k n pc L st S1 := e ▸ h
set_option maxHeartbeats 4000000 in
theorem f_X5_passFreeTicks {w : xW} {S : xS} {B : String → xS → Prop} {A : Int → xS → Prop} {u N : Nat} {T : Int} (hV : VT u N T S) (hT : T ≤ 900000) (hq : ∀ S', xtl u S' S → A (freT u N 360 S) S') : Ki w mX5_passFreeTicks yX5_passFreeTicks 0 0 [xp 2 u] S A B := by
  refine K.of rfl rfl rfl rfl (Nat.le_of_ble_eq_true rfl) rfl ?_
  have h21 : N ≤ 21 := hV.2.1
  have lp : ∀ i : Nat, i ≤ 360 → ∀ (ac : Int) (S1 : xS) (_ : VT u N (T + 2 * (i : Int)) S1 ∧ xtl u S1 S ∧ (0 ≤ ac ∧ ac ≤ (i : Int)) ∧ ac + freT u N (360 - i) S1 = freT u N 360 S), X w mX5_passFreeTicks (xTG w (fun v S' => ∃ a, v = some (xi a) ∧ A a S') B) 0 0 4 [xp 2 u, xi ac, xi (i : Int)] [] S1 := by
    refine nloop (360) (fun i hi ih ac S1 hI => ?_)
    refine xs_iload_2 eX5_passFreeTicks_4 ?_
    refine xa_sipush eX5_passFreeTicks_5 (by decide) ?_
    refine xa_icmp_ge (tgt := 36) eX5_passFreeTicks_8 (by decide) (by omega) (by omega) (fun c8 => ?_) (fun c8 => ?_)
    · refine xs_iload_1 eX5_passFreeTicks_36 ?_
      exact xa_iret eX5_passFreeTicks_37 rfl ⟨_, rfl, by have e : i = 360 := (by omega); have h9 := hI.2.2.2; rw [show 360 - i = 0 by omega, freT] at h9; have h8 := hq S1 hI.2.1; rw [show freT u N 360 S = ac by omega] at h8; exact h8⟩
    · refine xs_aload_0 eX5_passFreeTicks_11 ?_
      refine xbv_V00 (mi' := mX5_releaseJobs) (y := yX5_releaseJobs) eX5_passFreeTicks_12 (xw_5 lRX5_76 wy_X5_releaseJobs) rfl ⟨wd_X5_releaseJobs, by decide, by decide⟩ (by decide) (fun _ => rfl) rfl (Nat.le_of_ble_eq_true rfl) rfl (f_X5_releaseJobs hI.1 (by omega) ?_)
      refine xs_aload_0 eX5_passFreeTicks_15 ?_
      refine xbo_V00 (mi' := mX5_chooseJob) (y := yX5_chooseJob) eX5_passFreeTicks_16 (xw_5 lRX5_79 wy_X5_chooseJob) rfl ⟨wd_X5_chooseJob, by decide, by decide⟩ (by decide) (fun _ => rfl) rfl (Nat.le_of_ble_eq_true rfl) rfl (f_X5_chooseJob hI.1.rel (fun e5 => ?_) (fun b hb e5 => ?_))
      · have hc9 := hI.1.rel
        refine xa_ifnonnullN eX5_passFreeTicks_19 ?_
        refine xs_iinc_1 eX5_passFreeTicks_22 rfl ?_
        refine xs_aload_0 eX5_passFreeTicks_25 ?_
        refine xbi_V00 (mi' := mX5_growTime) (y := yX5_growTime) eX5_passFreeTicks_26 (xw_5 lRX5_83 wy_X5_growTime) rfl ⟨wd_X5_growTime, by decide, by decide⟩ (by decide) (fun _ => rfl) rfl (Nat.le_of_ble_eq_true rfl) rfl (f_X5_growTime hc9 (by omega) ?_)
        refine xa_pop eX5_passFreeTicks_29 rfl ?_
        refine xs_iinc_2 eX5_passFreeTicks_30 rfl ?_
        refine xa_goto (tgt := 4) eX5_passFreeTicks_33 (by decide) ?_
        have h7 : freT u N (360 - i) S1 = (if bstT u (relT u N S1) N = none then 1 else 0) + freT u N (360 - (i + 1)) (tckT u N S1) := by rw [show 360 - i = (360 - (i + 1)) + 1 by omega, freT]
        have e6 : tckT u N S1 = groT u N (relT u N S1) := by unfold tckT choT; rw [e5]; rfl
        refine X_cast e6 (ih (i + 1) (by omega) (by omega) (ac + 1) _ ⟨by have h8 := hI.1.tck; rw [show T + 2 * (i : Int) + 2 = T + 2 * ((i + 1 : Nat) : Int) by omega] at h8; exact h8, (tckT_fr (by omega)).tr hI.2.1, by omega, ?_⟩)
        rw [h7, if_pos e5] at hI; omega
      · have hc9 := hI.1.rel.cho
        refine xa_ifnonnullP (tgt := 25) eX5_passFreeTicks_19 (by decide) ?_
        refine xs_aload_0 eX5_passFreeTicks_25 ?_
        refine xbi_V00 (mi' := mX5_growTime) (y := yX5_growTime) eX5_passFreeTicks_26 (xw_5 lRX5_83 wy_X5_growTime) rfl ⟨wd_X5_growTime, by decide, by decide⟩ (by decide) (fun _ => rfl) rfl (Nat.le_of_ble_eq_true rfl) rfl (f_X5_growTime hc9 (by omega) ?_)
        refine xa_pop eX5_passFreeTicks_29 rfl ?_
        refine xs_iinc_2 eX5_passFreeTicks_30 rfl ?_
        refine xa_goto (tgt := 4) eX5_passFreeTicks_33 (by decide) ?_
        have h7 : freT u N (360 - i) S1 = (if bstT u (relT u N S1) N = none then 1 else 0) + freT u N (360 - (i + 1)) (tckT u N S1) := by rw [show 360 - i = (360 - (i + 1)) + 1 by omega, freT]
        unfold tckT at h7
        refine ih (i + 1) (by omega) (by omega) ac _ ⟨by have h8 := hI.1.tck; rw [show T + 2 * (i : Int) + 2 = T + 2 * ((i + 1 : Nat) : Int) by omega] at h8; exact h8, (tckT_fr (by omega)).tr hI.2.1, by omega, ?_⟩
        rw [h7, if_neg (by rw [e5]; exact fun z => nomatch z)] at hI; omega
  refine xa_iconst eX5_passFreeTicks_0 ?_
  refine xs_istore_1 eX5_passFreeTicks_1 rfl ?_
  refine xa_iconst eX5_passFreeTicks_2 ?_
  refine xs_istore_2 eX5_passFreeTicks_3 rfl ?_
  exact lp 0 (by omega) 0 S ⟨by have h8 := hV; rw [show T = T + 2 * ((0 : Nat) : Int) by omega] at h8; exact h8, xtl.rf, by omega, by rw [Nat.sub_zero]; omega⟩

