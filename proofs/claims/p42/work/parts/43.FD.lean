/-! promises 12 and 13, the reference -/
theorem frs_s {g : Nat → Bool} {i : Nat} (h : i ≤ 120) : frs g (121 - i) i = if g i = true then (i : Int) else frs g (121 - (i + 1)) (i + 1) := by
  rw [show 121 - i = (121 - (i + 1)) + 1 by omega, frs]
set_option maxHeartbeats 400000 in
theorem F_waitFor {w : xW} {S : xS} {B : String → xS → Prop} {A : Int → xS → Prop} {p b d : Int} {n N : Nat} {T : Int} (hV : VS 0 n N T S) (hT : T ≤ 800000) (yp : xr p) (yb : xr b) (yd : xr d)  (hA : ∀ S', (o_waitFor p b d n N S).1 = 0 → scr S' (o_waitFor p b d n N S).2.2.2.2 → A (o_waitFor p b d n N S).2.1 S') (hB1 : ∀ S', (o_waitFor p b d n N S).1 = 1 → scr S' S → B "java/lang/IllegalArgumentException" S') : Ki w mX7_waitFor yX7_waitFor 1 6 [xp 0 0, xi p, xi b, xi d] S A B := by
  refine K.of rfl rfl rfl rfl (Nat.le_of_ble_eq_true rfl) rfl ?_
  obtain ⟨hVT, hN20, h8, hg, hp, ho, hs⟩ := id hV
  have hn := hg.1
  have hN := hVT.1
  have ht := hVT.2.2.1
  refine xs_iload_1 eX7_waitFor_0 ?_
  refine xs_iload_2 eX7_waitFor_1 ?_
  refine xs_iload_3 eX7_waitFor_2 ?_
  by_cases c3 : wshP p b d
  · refine xbv_S30 (mi' := mX7_checkPromise) (y := yX7_checkPromise) eX7_waitFor_3 (xw_4 lRX7_98 wy_X7_checkPromise) rfl rfl ⟨wd_X7_checkPromise, by decide, by decide⟩ (Nat.le_of_ble_eq_true rfl) rfl (kk_X7_checkPromise yp yb yd c3 ?_)
    refine xs_aload_0 eX7_waitFor_6 ?_
    refine g_X7_5 eX7_waitFor_7 lRX7_34 ?_
    refine xs_aload_0 eX7_waitFor_10 ?_
    refine g_X7_0 eX7_waitFor_11 lRX7_10 ?_
    refine g_X4_0 eX7_waitFor_14 lRX7_88 ?_
    refine xbv_V10 (mi' := mX5_copyFrom) (y := yX5_copyFrom) eX7_waitFor_17 (xw_5 lRX7_119 wy_X5_copyFrom) rfl ⟨wd_X5_copyFrom, by decide, by decide⟩ (by decide) (fun _ => rfl) rfl (Nat.le_of_ble_eq_true rfl) rfl (f_X5_copyFrom (t := 0) (u := 6) (by decide) hVT (by omega) ?_)
    obtain ⟨g, hg9⟩ : ∃ g : Nat → Bool, g = (fun i => accF 0 5 N p b d (itr (tckS 0 n N) i S)) := ⟨_, rfl⟩
    have lp : ∀ i : Nat, i ≤ 121 → ∀ S1, scr S1 S ∧ VT 6 N (T + 2 * (i : Int)) S1 ∧ tlq 6 0 N S1 (itr (tckS 0 n N) i S) ∧ frs g (121 - i) i = frs g 121 0 → X w mX7_waitFor (xTG w (fun v S' => ∃ a, v = some (xi a) ∧ A a S') B) 1 6 23 [xp 0 0, xi p, xi b, xi d, xi (i : Int)] [] S1 := by
      refine nloop 121 (fun i hi ih S1 hI => ?_)
      refine xs_iload_4 eX7_waitFor_23 ?_
      refine xa_bipush eX7_waitFor_25 (by decide) ?_
      refine xa_icmp_gt (tgt := 63) eX7_waitFor_27 (by decide) (by omega) (by omega) (fun c27 => ?_) (fun c27 => ?_)
      · refine xa_iconst eX7_waitFor_63 ?_
        exact xa_iret eX7_waitFor_64 rfl ⟨_, rfl, by have h9 := hA; unfold o_waitFor at h9; rw [if_pos c3, ← hg9, ← hI.2.2.2, show 121 - i = 0 by omega, frs] at h9; exact h9 S1 rfl hI.1⟩
      · refine xs_aload_0 eX7_waitFor_30 ?_
        refine g_X7_4 eX7_waitFor_31 lRX7_30 ?_
        refine xs_aload_0 eX7_waitFor_34 ?_
        refine g_X7_5 eX7_waitFor_35 lRX7_34 ?_
        refine xs_iload_1 eX7_waitFor_38 ?_
        refine xs_iload_2 eX7_waitFor_39 ?_
        refine xs_iload_3 eX7_waitFor_40 ?_
        refine xbi_V40 (mi' := mX5_accepts) (y := yX5_accepts) eX7_waitFor_41 (xw_5 lRX7_104 wy_X5_accepts) rfl ⟨wd_X5_accepts, by decide, by decide⟩ (by decide) (fun _ => rfl) rfl (Nat.le_of_ble_eq_true rfl) rfl (f_X5_accepts (t := 6) (u := 5) (by decide) hI.2.1 hN20 (by have z := c3.1; omega) c3.2.1 (by have z := c3; omega) (by omega) (fun S2 hx2 => ?_))
        have ea : accF 6 5 N p b d S1 = g i := by rw [hg9]; exact hI.2.2.1.acc
        rw [ea]
        refine xa_ifb_eq (tgt := 50) eX7_waitFor_44 (by decide) (fun c44 => ?_) (fun c44 => ?_)
        · refine xs_aload_0 eX7_waitFor_50 ?_
          refine g_X7_5 eX7_waitFor_51 lRX7_34 ?_
          refine xbv_V00 (mi' := mX5_passTick) (y := yX5_passTick) eX7_waitFor_54 (xw_5 lRX7_123 wy_X5_passTick) rfl ⟨wd_X5_passTick, by decide, by decide⟩ (by decide) (fun _ => rfl) rfl (Nat.le_of_ble_eq_true rfl) rfl (f_X5_passTick (hI.2.1.xtl hx2 (by decide)) (by omega) ?_)
          refine xs_iinc_4 eX7_waitFor_57 rfl ?_
          refine xa_goto (tgt := 23) eX7_waitFor_60 (by decide) ?_
          have h9 := ih (i + 1) (by omega) (by omega) _ ⟨((tckT_fr (by omega)).scr (by decide)).tr ((hx2.scr (by decide)).tr hI.1), ((hI.2.1.xtl hx2 (by decide)).tck).mono (by omega), ((tlq.xtl hx2 (by omega) (by decide)).tr hI.2.2.1).tck.tr tlq.tckS.sym, by rw [← hI.2.2.2, frs_s (i := i) (by omega), if_neg c44]⟩
          rw [show (i : Int) + 1 = ((i + 1 : Nat) : Int) by omega]
          exact h9
        · refine xs_iload_4 eX7_waitFor_47 ?_
          exact xa_iret eX7_waitFor_49 rfl ⟨_, rfl, by have h9 := hA; unfold o_waitFor at h9; rw [if_pos c3, ← hg9, ← hI.2.2.2, frs_s (by omega), if_pos c44] at h9; exact h9 S2 rfl ((hx2.scr (by decide)).tr hI.1)⟩
    have h15 := lp 0 (by omega) _ ⟨(cpyT_fr (by omega)).scr (by decide), hVT.cpy.mono (by omega), tlq.cpy, rfl⟩
    refine xa_iconst eX7_waitFor_20 ?_
    refine xs_istore_4 eX7_waitFor_21 rfl ?_
    exact h15
  · exact xbv_S3 (mi' := mX7_checkPromise) (y := yX7_checkPromise) eX7_waitFor_3 (xw_4 lRX7_98 wy_X7_checkPromise) rfl rfl ⟨wd_X7_checkPromise, by decide, by decide⟩ (Nat.le_of_ble_eq_true rfl) rfl ⟨by decide, by decide⟩ (kt_X7_checkPromise yp yb yd c3 (xt_out rfl (hB1 S (by unfold o_waitFor; rw [if_neg c3]) scr.rf)))
