/-! the law: trades, on -/
theorem fre_r {t N : Nat} : ∀ (n : Nat) (S : xS), 0 ≤ freT t N n S ∧ freT t N n S ≤ (n : Int)
  | 0, _ => ⟨Int.le_refl _, Int.le_refl _⟩
  | n + 1, S => by
    have h := fre_r (t := t) (N := N) n (tckT t N S)
    rw [freT]
    split <;> omega
theorem fre_x {t N : Nat} {S : xS} : xr (freT t N 360 S) := by have := fre_r (t := t) (N := N) 360 S; omega
theorem dem_x {N : Nat} {T : Int} {C : xS} (hV : VS 0 4 N T C) : xr (demF 0 N 60 C) := by
  have h := sm_range (g := fun j => if C 10 (32 * 0 + j) 0 = 0 then xdem 60 (C 10 (32 * 0 + j)) else 0) (lo := 0) (hi := 120 * 61) (n := N) (fun j hj => by
    have hq := hV.Q hj
    unfold TQ at hq
    rw [e32]
    split
    · unfold xdem
      split
      · omega
      · rename_i c
        have h1 : 0 ≤ Int.tdiv (60 - C 10 j 4) (C 10 j 2) := Int.tdiv_nonneg (by omega) (by omega)
        have h2 : Int.tdiv (60 - C 10 j 4) (C 10 j 2) ≤ 60 := by
          rw [Int.tdiv_eq_ediv_of_nonneg (by omega)]
          exact Int.le_trans (Int.ediv_le_self _ (by omega)) (by omega)
        generalize Int.tdiv (60 - C 10 j 4) (C 10 j 2) = z at h1 h2
        refine ⟨Int.mul_nonneg (by omega) (by omega), ?_⟩
        refine Int.le_trans (Int.mul_le_mul_of_nonneg_right (show C 10 j 3 ≤ 120 by omega) (by omega)) ?_
        omega
    · omega)
  have hN := hV.2.1
  have e : demF 0 N 60 C = sm (fun j => if C 10 (32 * 0 + j) 0 = 0 then xdem 60 (C 10 (32 * 0 + j)) else 0) N := rfl
  rw [e]
  omega
set_option maxHeartbeats 4000000 in
theorem t_div2 {w : xW} {S C : xS} {B : String → xS → Prop} {A : Int → xS → Prop} {N j r : Nat} {T q : Int} (hB : BS q C S) (hL : LIN T N C) (hT : T ≤ 780000) (hw : w.2.2.2.2.2.1 < 1000) (hQ : q ≤ 960000) (hj : j < N) (hr : r < 4) (hq : ∀ D N' S', LIN (T + 3000) N' D → BS (q + 3) D S' → A 1 S') {lf P : Int} (hlf : (C 2 0 2 < C 10 j 7 ∧ lf = C 10 j 6) ∨ (¬ C 2 0 2 < C 10 j 7 ∧ lf = -1)) (hP : (C 10 j 3 < 2 ∧ P = 1) ∨ (2 ≤ C 10 j 3 ∧ 1 ≤ P ∧ P ≤ C 10 j 3 - 1)) : X w mL_trades (xTG w (fun v S' => ∃ a, v = some (xi a) ∧ A a S') B) 2 12 638 [xp 30 0, xi (N : Int), xi (r : Int), xi (j : Int), xi (1 - C 10 j 0), xi (C 10 j 1), xl (mon C), xj, xi (C 10 j 3), xi lf, xi (freT 0 N 360 C), xi (demF 0 N 60 C), xi P, xj] [] S := by
  obtain ⟨hV, g, hE, hper, h21, hz⟩ := id hL
  have hT2 : T ≤ 800000 := by omega
  have hN := hV.2.1
  have ht0 := hV.1.2.2.1
  obtain ⟨r1, r2, r3, r4, r5, r6, r7, r8, r9, r10, r11, r12, r13, r14, r15, r16, r17, r18, r19⟩ := row_f hV g hE hj
  refine xs_aload_0 eL_trades_638 ?_
  refine g_X9_0 eL_trades_639 lRL_10 ?_
  refine xs_iload_3 eL_trades_642 ?_
  refine xs_iload_12 eL_trades_643 ?_
  refine xbi_W3 (mi' := mL_split) (y := yL_split) eL_trades_645 (xw_4 lRL_199 wy_L_split) rfl ⟨wd_L_split, by decide, by decide⟩ (Nat.le_of_ble_eq_true rfl) rfl ⟨by decide, by decide⟩ (w_split hB hV hT2 hj (by omega) (fun n1 n2 S9 hB9 => ?_) (fun n1 S8 hB8 => ?_) (fun n1 n2 S8 hB8 => ?_))
  · have hLS := hB.L hL
    have eS := hB.r hN hj
    have eT := hB.t
    have hL9 := hLS.div (by omega) hj n2.2 (by rw [eS]; exact n2.1) (by rw [eS]; exact n1)
    obtain ⟨a1, a2, a3, a4, a5⟩ := div_at (N := N) (i := j) (a := P) (C := S) hj
    have e_sp : freT 0 (N + 1) 360 (divS 0 N j P S) = freT 0 N 360 C := by rw [div_fre hLS.2.1 hj (by rw [eS]; exact n2.1) (by rw [eS]; exact n1), hB.spa hN]
    have e_de : demF 0 (N + 1) 60 (divS 0 N j P S) = demF 0 N 60 C := by rw [div_dem hj (by rw [eS]; exact n2.1), hB.dem hN]
    rw [eS, eT] at a5
    rw [eS] at a4
    rw [eT] at a2
    have d13 : divS 0 N j P S 10 j 3 = P := by rw [a4]; rfl
    have d16 : divS 0 N j P S 10 j 6 = xmin (C 10 j 6) P := by rw [a4]; rfl
    have d17 : divS 0 N j P S 10 j 7 = C 10 j 7 := by rw [a4]; rfl
    have d15 : divS 0 N j P S 10 j 5 = C 10 j 5 := by rw [a4]; rfl
    have d23 : divS 0 N j P S 10 N 3 = C 10 j 3 - P := by rw [a5]; rfl
    have d26 : divS 0 N j P S 10 N 6 = xmax 0 (C 10 j 6 - P) := by rw [a5]; rfl
    have d27 : divS 0 N j P S 10 N 7 = C 10 j 7 := by rw [a5]; rfl
    have d25 : divS 0 N j P S 10 N 5 = C 10 j 5 := by rw [a5]; rfl
    have hsum6 : xmin (C 10 j 6) P + xmax 0 (C 10 j 6 - P) = C 10 j 6 := by unfold xmin xmax; split <;> split <;> omega
    generalize divS 0 N j P S = D at hB9 hL9 e_sp e_de a2 d13 d16 d17 d15 d23 d26 d27 d25
    refine xs_istore_13 eL_trades_648 rfl ?_
    refine xs_iload_8 eL_trades_650 ?_
    refine xa_iconst eL_trades_652 ?_
    refine xa_icmp_ge (tgt := 669) eL_trades_653 (by decide) (by omega) (by decide) (fun c653 => ?_) (fun c653 => ?_)
    · refine xs_iload_4 eL_trades_669 ?_
      refine xa_if_eq (tgt := 680) eL_trades_671 (by decide) (by omega) (fun c671 => ?_) (fun c671 => ?_)
      · exfalso; omega
      · refine xs_iload_1 eL_trades_674 ?_
        refine xa_bipush eL_trades_675 (by decide) ?_
        refine xa_icmp_ne (tgt := 693) eL_trades_677 (by decide) (by omega) (by decide) (fun c677 => ?_) (fun c677 => ?_)
        · refine xs_iload_13 eL_trades_693 ?_
          refine xs_iload_1 eL_trades_695 ?_
          refine xa_icmp_ne (tgt := 828) eL_trades_696 (by decide) (by omega) (by omega) (fun c696 => ?_) (fun c696 => ?_)
          · exfalso; omega
          · refine xs_aload_0 eL_trades_699 ?_
            refine g_X9_0 eL_trades_700 lRL_10 ?_
            refine xs_iload_3 eL_trades_703 ?_
            refine xa_iconst eL_trades_704 ?_
            refine xbi_W30 (mi' := mL_told) (y := yL_told) eL_trades_705 (xw_4 lRL_171 wy_L_told) rfl ⟨wd_L_told, by decide, by decide⟩ (Nat.le_of_ble_eq_true rfl) rfl (wt_3 hB9 hL9.1 (by omega) (show j < N + 1 by omega) ?_)
            rw [d13]
            refine xs_aload_0 eL_trades_708 ?_
            refine g_X9_0 eL_trades_709 lRL_10 ?_
            refine xs_iload_1 eL_trades_712 ?_
            refine xa_iconst eL_trades_713 ?_
            refine xbi_W30 (mi' := mL_told) (y := yL_told) eL_trades_714 (xw_4 lRL_171 wy_L_told) rfl ⟨wd_L_told, by decide, by decide⟩ (Nat.le_of_ble_eq_true rfl) rfl (wt_3 hB9 hL9.1 (by omega) (show N < N + 1 by omega) ?_)
            rw [d23]
            refine xa_iadd eL_trades_717 ?_
            refine xs_iload_8 eL_trades_718 ?_
            refine xa_icmp_ne (tgt := 828) eL_trades_720 (by decide) (by omega) (by omega) (fun c720 => ?_) (fun c720 => ?_)
            · exfalso; omega
            · refine xs_iload_9 eL_trades_723 ?_
              refine xa_if_lt (tgt := 754) eL_trades_725 (by decide) (by omega) (fun c725 => ?_) (fun c725 => ?_)
              · refine xs_aload_0 eL_trades_754 ?_
                refine g_X9_0 eL_trades_755 lRL_10 ?_
                refine xbi_V00 (mi' := mX7_spare) (y := yX7_spare) eL_trades_758 (xw_5 lRL_194 wy_X7_spare) rfl ⟨wd_X7_spare, by decide, by decide⟩ (by decide) (fun _ => rfl) rfl (Nat.le_of_ble_eq_true rfl) rfl (F_spare (hB9.V hL9.1) (by omega) (fun S7 s7 => ?_))
                rw [hB9.spa (by omega), e_sp]
                have hB10 := hB9.sc s7
                refine xs_iload_10 eL_trades_761 ?_
                refine xa_icmp_ne (tgt := 828) eL_trades_763 (by decide) fre_x fre_x (fun c763 => ?_) (fun c763 => ?_)
                · exfalso; exact c763 rfl
                · refine xs_aload_0 eL_trades_766 ?_
                  refine g_X9_0 eL_trades_767 lRL_10 ?_
                  refine xa_bipush eL_trades_770 (by decide) ?_
                  refine xbi_W20 (mi' := mL_demand) (y := yL_demand) eL_trades_772 (xw_4 lRL_197 wy_L_demand) rfl ⟨wd_L_demand, by decide, by decide⟩ (Nat.le_of_ble_eq_true rfl) rfl (w_demand hB10 hL9.1 (by omega) ?_)
                  rw [e_de]
                  refine xs_iload_11 eL_trades_775 ?_
                  refine xa_icmp_ne (tgt := 828) eL_trades_777 (by decide) (dem_x hV) (dem_x hV) (fun c777 => ?_) (fun c777 => ?_)
                  · exfalso; exact c777 rfl
                  · refine xs_aload_0 eL_trades_780 ?_
                    refine g_X9_0 eL_trades_781 lRL_10 ?_
                    refine xs_iload_1 eL_trades_784 ?_
                    refine xa_bipush eL_trades_785 (by decide) ?_
                    refine xbi_W30 (mi' := mL_told) (y := yL_told) eL_trades_787 (xw_4 lRL_171 wy_L_told) rfl ⟨wd_L_told, by decide, by decide⟩ (Nat.le_of_ble_eq_true rfl) rfl (wt_7 hB10 hL9.1 (by omega) (show N < N + 1 by omega) ?_)
                    rw [a2, d27]
                    refine xs_aload_0 eL_trades_790 ?_
                    refine g_X9_0 eL_trades_791 lRL_10 ?_
                    refine xs_iload_3 eL_trades_794 ?_
                    refine xa_bipush eL_trades_795 (by decide) ?_
                    refine xbi_W30 (mi' := mL_told) (y := yL_told) eL_trades_797 (xw_4 lRL_171 wy_L_told) rfl ⟨wd_L_told, by decide, by decide⟩ (Nat.le_of_ble_eq_true rfl) rfl (wt_7 hB10 hL9.1 (by omega) (show j < N + 1 by omega) ?_)
                    rw [a2, d17]
                    refine xa_icmp_ne (tgt := 828) eL_trades_800 (by decide) (by split <;> omega) (by split <;> omega) (fun c800 => ?_) (fun c800 => ?_)
                    · exfalso; exact c800 rfl
                    · refine xs_aload_0 eL_trades_803 ?_
                      refine g_X9_0 eL_trades_804 lRL_10 ?_
                      refine xs_iload_1 eL_trades_807 ?_
                      refine xa_iconst eL_trades_808 ?_
                      refine xbi_W30 (mi' := mL_told) (y := yL_told) eL_trades_809 (xw_4 lRL_171 wy_L_told) rfl ⟨wd_L_told, by decide, by decide⟩ (Nat.le_of_ble_eq_true rfl) rfl (wt_5 hB10 hL9.1 (by omega) (show N < N + 1 by omega) ?_)
                      rw [d25]
                      refine xs_aload_0 eL_trades_812 ?_
                      refine g_X9_0 eL_trades_813 lRL_10 ?_
                      refine xs_iload_3 eL_trades_816 ?_
                      refine xa_iconst eL_trades_817 ?_
                      refine xbi_W30 (mi' := mL_told) (y := yL_told) eL_trades_818 (xw_4 lRL_171 wy_L_told) rfl ⟨wd_L_told, by decide, by decide⟩ (Nat.le_of_ble_eq_true rfl) rfl (wt_5 hB10 hL9.1 (by omega) (show j < N + 1 by omega) ?_)
                      rw [d15]
                      refine xa_icmp_ne (tgt := 828) eL_trades_821 (by decide) (by omega) (by omega) (fun c821 => ?_) (fun c821 => ?_)
                      · exfalso; exact c821 rfl
                      · refine xa_iconst eL_trades_824 ?_
                        refine xa_goto (tgt := 829) eL_trades_825 (by decide) ?_
                        exact xa_zret eL_trades_829 rfl (by omega) ⟨_, rfl, (by first | exact hq _ _ _ (hL9.mono (by omega)) (hB10.mono (by omega)) | exact hq _ _ _ (hL.mono (by omega)) (hB8.mono (by omega)))⟩
              · refine xs_aload_0 eL_trades_728 ?_
                refine g_X9_0 eL_trades_729 lRL_10 ?_
                refine xs_iload_3 eL_trades_732 ?_
                refine xa_bipush eL_trades_733 (by decide) ?_
                refine xbi_W30 (mi' := mL_told) (y := yL_told) eL_trades_735 (xw_4 lRL_171 wy_L_told) rfl ⟨wd_L_told, by decide, by decide⟩ (Nat.le_of_ble_eq_true rfl) rfl (wt_6 hB9 hL9.1 (by omega) (show j < N + 1 by omega) ?_)
                rw [a2, d17, d16]
                refine xs_aload_0 eL_trades_738 ?_
                refine g_X9_0 eL_trades_739 lRL_10 ?_
                refine xs_iload_1 eL_trades_742 ?_
                refine xa_bipush eL_trades_743 (by decide) ?_
                refine xbi_W30 (mi' := mL_told) (y := yL_told) eL_trades_745 (xw_4 lRL_171 wy_L_told) rfl ⟨wd_L_told, by decide, by decide⟩ (Nat.le_of_ble_eq_true rfl) rfl (wt_6 hB9 hL9.1 (by omega) (show N < N + 1 by omega) ?_)
                rw [a2, d27, d26]
                refine xa_iadd eL_trades_748 ?_
                refine xs_iload_9 eL_trades_749 ?_
                refine xa_icmp_ne (tgt := 828) eL_trades_751 (by decide) (by rcases hlf with ⟨h1, h2⟩ | ⟨h1, h2⟩; rw [if_pos h1, if_pos h1]; omega; rw [if_neg h1, if_neg h1]; decide) (by omega) (fun c751 => ?_) (fun c751 => ?_)
                · exfalso; rcases hlf with ⟨h1, h2⟩ | ⟨h1, h2⟩
                  · rw [if_pos h1, if_pos h1] at c751; omega
                  · omega
                · refine xs_aload_0 eL_trades_754 ?_
                  refine g_X9_0 eL_trades_755 lRL_10 ?_
                  refine xbi_V00 (mi' := mX7_spare) (y := yX7_spare) eL_trades_758 (xw_5 lRL_194 wy_X7_spare) rfl ⟨wd_X7_spare, by decide, by decide⟩ (by decide) (fun _ => rfl) rfl (Nat.le_of_ble_eq_true rfl) rfl (F_spare (hB9.V hL9.1) (by omega) (fun S7 s7 => ?_))
                  rw [hB9.spa (by omega), e_sp]
                  have hB10 := hB9.sc s7
                  refine xs_iload_10 eL_trades_761 ?_
                  refine xa_icmp_ne (tgt := 828) eL_trades_763 (by decide) fre_x fre_x (fun c763 => ?_) (fun c763 => ?_)
                  · exfalso; exact c763 rfl
                  · refine xs_aload_0 eL_trades_766 ?_
                    refine g_X9_0 eL_trades_767 lRL_10 ?_
                    refine xa_bipush eL_trades_770 (by decide) ?_
                    refine xbi_W20 (mi' := mL_demand) (y := yL_demand) eL_trades_772 (xw_4 lRL_197 wy_L_demand) rfl ⟨wd_L_demand, by decide, by decide⟩ (Nat.le_of_ble_eq_true rfl) rfl (w_demand hB10 hL9.1 (by omega) ?_)
                    rw [e_de]
                    refine xs_iload_11 eL_trades_775 ?_
                    refine xa_icmp_ne (tgt := 828) eL_trades_777 (by decide) (dem_x hV) (dem_x hV) (fun c777 => ?_) (fun c777 => ?_)
                    · exfalso; exact c777 rfl
                    · refine xs_aload_0 eL_trades_780 ?_
                      refine g_X9_0 eL_trades_781 lRL_10 ?_
                      refine xs_iload_1 eL_trades_784 ?_
                      refine xa_bipush eL_trades_785 (by decide) ?_
                      refine xbi_W30 (mi' := mL_told) (y := yL_told) eL_trades_787 (xw_4 lRL_171 wy_L_told) rfl ⟨wd_L_told, by decide, by decide⟩ (Nat.le_of_ble_eq_true rfl) rfl (wt_7 hB10 hL9.1 (by omega) (show N < N + 1 by omega) ?_)
                      rw [a2, d27]
                      refine xs_aload_0 eL_trades_790 ?_
                      refine g_X9_0 eL_trades_791 lRL_10 ?_
                      refine xs_iload_3 eL_trades_794 ?_
                      refine xa_bipush eL_trades_795 (by decide) ?_
                      refine xbi_W30 (mi' := mL_told) (y := yL_told) eL_trades_797 (xw_4 lRL_171 wy_L_told) rfl ⟨wd_L_told, by decide, by decide⟩ (Nat.le_of_ble_eq_true rfl) rfl (wt_7 hB10 hL9.1 (by omega) (show j < N + 1 by omega) ?_)
                      rw [a2, d17]
                      refine xa_icmp_ne (tgt := 828) eL_trades_800 (by decide) (by split <;> omega) (by split <;> omega) (fun c800 => ?_) (fun c800 => ?_)
                      · exfalso; exact c800 rfl
                      · refine xs_aload_0 eL_trades_803 ?_
                        refine g_X9_0 eL_trades_804 lRL_10 ?_
                        refine xs_iload_1 eL_trades_807 ?_
                        refine xa_iconst eL_trades_808 ?_
                        refine xbi_W30 (mi' := mL_told) (y := yL_told) eL_trades_809 (xw_4 lRL_171 wy_L_told) rfl ⟨wd_L_told, by decide, by decide⟩ (Nat.le_of_ble_eq_true rfl) rfl (wt_5 hB10 hL9.1 (by omega) (show N < N + 1 by omega) ?_)
                        rw [d25]
                        refine xs_aload_0 eL_trades_812 ?_
                        refine g_X9_0 eL_trades_813 lRL_10 ?_
                        refine xs_iload_3 eL_trades_816 ?_
                        refine xa_iconst eL_trades_817 ?_
                        refine xbi_W30 (mi' := mL_told) (y := yL_told) eL_trades_818 (xw_4 lRL_171 wy_L_told) rfl ⟨wd_L_told, by decide, by decide⟩ (Nat.le_of_ble_eq_true rfl) rfl (wt_5 hB10 hL9.1 (by omega) (show j < N + 1 by omega) ?_)
                        rw [d15]
                        refine xa_icmp_ne (tgt := 828) eL_trades_821 (by decide) (by omega) (by omega) (fun c821 => ?_) (fun c821 => ?_)
                        · exfalso; exact c821 rfl
                        · refine xa_iconst eL_trades_824 ?_
                          refine xa_goto (tgt := 829) eL_trades_825 (by decide) ?_
                          exact xa_zret eL_trades_829 rfl (by omega) ⟨_, rfl, (by first | exact hq _ _ _ (hL9.mono (by omega)) (hB10.mono (by omega)) | exact hq _ _ _ (hL.mono (by omega)) (hB8.mono (by omega)))⟩
        · exfalso; omega
    · exfalso; omega
  · refine xs_istore_13 eL_trades_648 rfl ?_
    refine xs_iload_8 eL_trades_650 ?_
    refine xa_iconst eL_trades_652 ?_
    refine xa_icmp_ge (tgt := 669) eL_trades_653 (by decide) (by omega) (by decide) (fun c653 => ?_) (fun c653 => ?_)
    · exfalso; omega
    · refine xs_iload_13 eL_trades_656 ?_
      refine xa_bipush eL_trades_658 (by decide) ?_
      refine xa_icmp_ne (tgt := 667) eL_trades_660 (by decide) (by decide) (by decide) (fun c660 => ?_) (fun c660 => ?_)
      · exfalso; omega
      · refine xa_iconst eL_trades_663 ?_
        refine xa_goto (tgt := 668) eL_trades_664 (by decide) ?_
        exact xa_zret eL_trades_668 rfl (by omega) ⟨_, rfl, (by first | exact hq _ _ _ (hL9.mono (by omega)) (hB10.mono (by omega)) | exact hq _ _ _ (hL.mono (by omega)) (hB8.mono (by omega)))⟩
  · refine xs_istore_13 eL_trades_648 rfl ?_
    refine xs_iload_8 eL_trades_650 ?_
    refine xa_iconst eL_trades_652 ?_
    refine xa_icmp_ge (tgt := 669) eL_trades_653 (by decide) (by omega) (by decide) (fun c653 => ?_) (fun c653 => ?_)
    · refine xs_iload_4 eL_trades_669 ?_
      refine xa_if_eq (tgt := 680) eL_trades_671 (by decide) (by omega) (fun c671 => ?_) (fun c671 => ?_)
      · refine xs_iload_13 eL_trades_680 ?_
        refine xa_bipush eL_trades_682 (by decide) ?_
        refine xa_icmp_ne (tgt := 691) eL_trades_684 (by decide) (by decide) (by decide) (fun c684 => ?_) (fun c684 => ?_)
        · exfalso; omega
        · refine xa_iconst eL_trades_687 ?_
          refine xa_goto (tgt := 692) eL_trades_688 (by decide) ?_
          exact xa_zret eL_trades_692 rfl (by omega) ⟨_, rfl, (by first | exact hq _ _ _ (hL9.mono (by omega)) (hB10.mono (by omega)) | exact hq _ _ _ (hL.mono (by omega)) (hB8.mono (by omega)))⟩
      · refine xs_iload_1 eL_trades_674 ?_
        refine xa_bipush eL_trades_675 (by decide) ?_
        refine xa_icmp_ne (tgt := 693) eL_trades_677 (by decide) (by omega) (by decide) (fun c677 => ?_) (fun c677 => ?_)
        · exfalso; exact n2 ⟨by omega, by omega⟩
        · refine xs_iload_13 eL_trades_680 ?_
          refine xa_bipush eL_trades_682 (by decide) ?_
          refine xa_icmp_ne (tgt := 691) eL_trades_684 (by decide) (by decide) (by decide) (fun c684 => ?_) (fun c684 => ?_)
          · exfalso; omega
          · refine xa_iconst eL_trades_687 ?_
            refine xa_goto (tgt := 692) eL_trades_688 (by decide) ?_
            exact xa_zret eL_trades_692 rfl (by omega) ⟨_, rfl, (by first | exact hq _ _ _ (hL9.mono (by omega)) (hB10.mono (by omega)) | exact hq _ _ _ (hL.mono (by omega)) (hB8.mono (by omega)))⟩
    · exfalso; omega
set_option maxHeartbeats 4000000 in
theorem t_div {w : xW} {S C : xS} {B : String → xS → Prop} {A : Int → xS → Prop} {N j r : Nat} {T q : Int} (hB : BS q C S) (hL : LIN T N C) (hT : T ≤ 780000) (hw : w.2.2.2.2.2.1 < 1000) (hQ : q ≤ 950000) (hj : j < N) (hr : r < 4) (hq : ∀ D N' S', LIN (T + 3000) N' D → BS (q + 4) D S' → A 1 S') : X w mL_trades (xTG w (fun v S' => ∃ a, v = some (xi a) ∧ A a S') B) 2 12 573 [xp 30 0, xi (N : Int), xi (r : Int), xi (j : Int), xi (1 - C 10 j 0), xi (C 10 j 1), xl (mon C), xj, xj, xj, xj, xj, xj, xj] [] S := by
  obtain ⟨hV, g, hE, hper, h21, hz⟩ := id hL
  have hT2 : T ≤ 800000 := by omega
  have hN := hV.2.1
  have ht0 := hV.1.2.2.1
  obtain ⟨r1, r2, r3, r4, r5, r6, r7, r8, r9, r10, r11, r12, r13, r14, r15, r16, r17, r18, r19⟩ := row_f hV g hE hj
  have hO := hV.O hj
  unfold OQ at hO
  have hmr := mon_r hV hE
  refine xs_aload_0 eL_trades_573 ?_
  refine g_X9_0 eL_trades_574 lRL_10 ?_
  refine xs_iload_3 eL_trades_577 ?_
  refine xa_iconst eL_trades_578 ?_
  refine xbi_W30 (mi' := mL_told) (y := yL_told) eL_trades_579 (xw_4 lRL_171 wy_L_told) rfl ⟨wd_L_told, by decide, by decide⟩ (Nat.le_of_ble_eq_true rfl) rfl (wt_3 hB hV hT2 hj ?_)
  refine xs_istore_8 eL_trades_582 rfl ?_
  refine xs_aload_0 eL_trades_584 ?_
  refine g_X9_0 eL_trades_585 lRL_10 ?_
  refine xs_iload_3 eL_trades_588 ?_
  refine xa_bipush eL_trades_589 (by decide) ?_
  refine xbi_W30 (mi' := mL_told) (y := yL_told) eL_trades_591 (xw_4 lRL_171 wy_L_told) rfl ⟨wd_L_told, by decide, by decide⟩ (Nat.le_of_ble_eq_true rfl) rfl (wt_c6 hB hV hT2 hj (fun ht => ?_) (fun ht => ?_))
  · refine xs_istore_9 eL_trades_594 rfl ?_
    refine xs_aload_0 eL_trades_596 ?_
    refine g_X9_0 eL_trades_597 lRL_10 ?_
    refine xbi_V00 (mi' := mX7_spare) (y := yX7_spare) eL_trades_600 (xw_5 lRL_194 wy_X7_spare) rfl ⟨wd_X7_spare, by decide, by decide⟩ (by decide) (fun _ => rfl) rfl (Nat.le_of_ble_eq_true rfl) rfl (F_spare (hB.V hV) hT2 (fun S1 s1 => ?_))
    rw [hB.spa hN]
    have hB1 := hB.sc s1
    refine xs_istore_10 eL_trades_603 rfl ?_
    refine xs_aload_0 eL_trades_605 ?_
    refine g_X9_0 eL_trades_606 lRL_10 ?_
    refine xa_bipush eL_trades_609 (by decide) ?_
    refine xbi_W20 (mi' := mL_demand) (y := yL_demand) eL_trades_611 (xw_4 lRL_197 wy_L_demand) rfl ⟨wd_L_demand, by decide, by decide⟩ (Nat.le_of_ble_eq_true rfl) rfl (w_demand hB1 hV hT2 ?_)
    refine xs_istore_11 eL_trades_614 rfl ?_
    refine xs_iload_8 eL_trades_616 ?_
    refine xa_iconst eL_trades_618 ?_
    refine xa_icmp_ge (tgt := 626) eL_trades_619 (by decide) (by omega) (by decide) (fun c619 => ?_) (fun c619 => ?_)
    · refine xa_iconst eL_trades_626 ?_
      refine xs_aload_0 eL_trades_627 ?_
      refine xs_iload_8 eL_trades_628 ?_
      refine xa_iconst eL_trades_630 ?_
      refine xa_isub eL_trades_631 ?_
      refine xbi_V10 (mi' := mL_draw) (y := yL_draw) eL_trades_632 (xw_5 lRL_152 wy_L_draw) rfl ⟨wd_L_draw, by decide, by decide⟩ (by decide) (fun _ => rfl) rfl (Nat.le_of_ble_eq_true rfl) rfl (k_draw hw hB1 (by omega) (by omega) (fun d12 S2 l12 hB2 => ?_))
      refine xa_iadd eL_trades_635 ?_
      refine xs_istore_12 eL_trades_636 rfl ?_
      first | exact t_div2 hB1 hL hT hw (by omega) hj hr (fun D N' S' l b => hq D N' S' l (b.mono (by omega))) (by omega) (Or.inl ⟨by assumption, rfl⟩) | exact t_div2 (q := q + 1) hB2 hL hT hw (by omega) hj hr (fun D N' S' l b => hq D N' S' l (b.mono (by omega))) (by omega) (Or.inr ⟨by omega, by omega, by omega⟩)
    · refine xa_iconst eL_trades_622 ?_
      refine xa_goto (tgt := 636) eL_trades_623 (by decide) ?_
      refine xs_istore_12 eL_trades_636 rfl ?_
      first | exact t_div2 hB1 hL hT hw (by omega) hj hr (fun D N' S' l b => hq D N' S' l (b.mono (by omega))) (by omega) (Or.inl ⟨by assumption, rfl⟩) | exact t_div2 (q := q + 1) hB2 hL hT hw (by omega) hj hr (fun D N' S' l b => hq D N' S' l (b.mono (by omega))) (by omega) (Or.inr ⟨by omega, by omega, by omega⟩)
  · refine xs_istore_9 eL_trades_594 rfl ?_
    refine xs_aload_0 eL_trades_596 ?_
    refine g_X9_0 eL_trades_597 lRL_10 ?_
    refine xbi_V00 (mi' := mX7_spare) (y := yX7_spare) eL_trades_600 (xw_5 lRL_194 wy_X7_spare) rfl ⟨wd_X7_spare, by decide, by decide⟩ (by decide) (fun _ => rfl) rfl (Nat.le_of_ble_eq_true rfl) rfl (F_spare (hB.V hV) hT2 (fun S1 s1 => ?_))
    rw [hB.spa hN]
    have hB1 := hB.sc s1
    refine xs_istore_10 eL_trades_603 rfl ?_
    refine xs_aload_0 eL_trades_605 ?_
    refine g_X9_0 eL_trades_606 lRL_10 ?_
    refine xa_bipush eL_trades_609 (by decide) ?_
    refine xbi_W20 (mi' := mL_demand) (y := yL_demand) eL_trades_611 (xw_4 lRL_197 wy_L_demand) rfl ⟨wd_L_demand, by decide, by decide⟩ (Nat.le_of_ble_eq_true rfl) rfl (w_demand hB1 hV hT2 ?_)
    refine xs_istore_11 eL_trades_614 rfl ?_
    refine xs_iload_8 eL_trades_616 ?_
    refine xa_iconst eL_trades_618 ?_
    refine xa_icmp_ge (tgt := 626) eL_trades_619 (by decide) (by omega) (by decide) (fun c619 => ?_) (fun c619 => ?_)
    · refine xa_iconst eL_trades_626 ?_
      refine xs_aload_0 eL_trades_627 ?_
      refine xs_iload_8 eL_trades_628 ?_
      refine xa_iconst eL_trades_630 ?_
      refine xa_isub eL_trades_631 ?_
      refine xbi_V10 (mi' := mL_draw) (y := yL_draw) eL_trades_632 (xw_5 lRL_152 wy_L_draw) rfl ⟨wd_L_draw, by decide, by decide⟩ (by decide) (fun _ => rfl) rfl (Nat.le_of_ble_eq_true rfl) rfl (k_draw hw hB1 (by omega) (by omega) (fun d12 S2 l12 hB2 => ?_))
      refine xa_iadd eL_trades_635 ?_
      refine xs_istore_12 eL_trades_636 rfl ?_
      first | exact t_div2 hB1 hL hT hw (by omega) hj hr (fun D N' S' l b => hq D N' S' l (b.mono (by omega))) (by omega) (Or.inl ⟨by assumption, rfl⟩) | exact t_div2 (q := q + 1) hB2 hL hT hw (by omega) hj hr (fun D N' S' l b => hq D N' S' l (b.mono (by omega))) (by omega) (Or.inr ⟨by omega, by omega, by omega⟩)
    · refine xa_iconst eL_trades_622 ?_
      refine xa_goto (tgt := 636) eL_trades_623 (by decide) ?_
      refine xs_istore_12 eL_trades_636 rfl ?_
      first | exact t_div2 hB1 hL hT hw (by omega) hj hr (fun D N' S' l b => hq D N' S' l (b.mono (by omega))) (by omega) (Or.inl ⟨by assumption, rfl⟩) | exact t_div2 (q := q + 1) hB2 hL hT hw (by omega) hj hr (fun D N' S' l b => hq D N' S' l (b.mono (by omega))) (by omega) (Or.inr ⟨by omega, by omega, by omega⟩)
set_option maxHeartbeats 4000000 in
theorem t_end {w : xW} {S C : xS} {B : String → xS → Prop} {A : Int → xS → Prop} {N j r : Nat} {T q : Int} (hB : BS q C S) (hL : LIN T N C) (hT : T ≤ 780000) (hw : w.2.2.2.2.2.1 < 1000) (hQ : q ≤ 950000) (hj : j < N) (hr : r < 4) (hq : ∀ D N' S', LIN (T + 3000) N' D → BS (q + 4) D S' → A 1 S') : X w mL_trades (xTG w (fun v S' => ∃ a, v = some (xi a) ∧ A a S') B) 2 12 830 [xp 30 0, xi (N : Int), xi (r : Int), xi (j : Int), xi (1 - C 10 j 0), xi (C 10 j 1), xl (mon C), xj, xj, xj, xj, xj, xj, xj] [] S := by
  obtain ⟨hV, g, hE, hper, h21, hz⟩ := id hL
  have hT2 : T ≤ 800000 := by omega
  have hN := hV.2.1
  have ht0 := hV.1.2.2.1
  obtain ⟨r1, r2, r3, r4, r5, r6, r7, r8, r9, r10, r11, r12, r13, r14, r15, r16, r17, r18, r19⟩ := row_f hV g hE hj
  have hO := hV.O hj
  unfold OQ at hO
  have hmr := mon_r hV hE
  refine xs_iload_4 eL_trades_830 ?_
  refine xa_if_ne (tgt := 854) eL_trades_832 (by decide) (by omega) (fun c832 => ?_) (fun c832 => ?_)
  · refine xs_aload_0 eL_trades_854 ?_
    refine xa_iconst eL_trades_855 ?_
    refine xbi_V10 (mi' := mL_draw) (y := yL_draw) eL_trades_856 (xw_5 lRL_152 wy_L_draw) rfl ⟨wd_L_draw, by decide, by decide⟩ (by decide) (fun _ => rfl) rfl (Nat.le_of_ble_eq_true rfl) rfl (k_draw hw hB (by omega) (by decide) (fun d3 S3 l3 hB3 => ?_))
    refine xa_if_le (tgt := 864) eL_trades_859 (by decide) (by omega) (fun c859 => ?_) (fun c859 => ?_)
    · refine xs_aload_0 eL_trades_864 ?_
      refine g_X9_0 eL_trades_865 lRL_10 ?_
      refine xs_iload_3 eL_trades_868 ?_
      refine xa_bipush eL_trades_869 (by decide) ?_
      refine xbi_W30 (mi' := mL_told) (y := yL_told) eL_trades_871 (xw_4 lRL_171 wy_L_told) rfl ⟨wd_L_told, by decide, by decide⟩ (Nat.le_of_ble_eq_true rfl) rfl (wt_6 hB3 hV hT2 hj ?_)
      refine xs_istore_8 eL_trades_874 rfl ?_
      refine xs_aload_0 eL_trades_876 ?_
      refine g_X9_0 eL_trades_877 lRL_10 ?_
      refine xbi_V00 (mi' := mX7_spare) (y := yX7_spare) eL_trades_880 (xw_5 lRL_194 wy_X7_spare) rfl ⟨wd_X7_spare, by decide, by decide⟩ (by decide) (fun _ => rfl) rfl (Nat.le_of_ble_eq_true rfl) rfl (F_spare (hB3.V hV) hT2 (fun S4 s4 => ?_))
      rw [hB3.spa hN]
      have hB4 := hB3.sc s4
      refine xs_istore_9 eL_trades_883 rfl ?_
      refine xs_aload_0 eL_trades_885 ?_
      refine g_X9_0 eL_trades_886 lRL_10 ?_
      refine xs_iload_3 eL_trades_889 ?_
      refine xbi_W2 (mi' := mL_end) (y := yL_end) eL_trades_890 (xw_4 lRL_201 wy_L_end) rfl ⟨wd_L_end, by decide, by decide⟩ (Nat.le_of_ble_eq_true rfl) rfl ⟨by decide, by decide⟩ (w_end hB4 hV hT2 hj (fun n1 S9 hB9 => ?_) (fun n3 S8 hB8 => ?_))
      · have hLS := hB4.L hL
        have eS := hB4.r hN hj
        have hL9 := hLS.fin (by omega) hj (by rw [eS]; exact n1)
        have e_sp := end_fre hLS.2.1 hj (by rw [hB4.t]; exact ht0.1)
        rw [hB4.spa hN] at e_sp
        obtain ⟨a1, a2⟩ := fin_at (i := j) (C := S4)
        have f0 : rwS 10 j (xfin (S4 10 j)) S4 10 j 0 = 1 := by rw [a2]; rfl
        have f5 : rwS 10 j (xfin (S4 10 j)) S4 10 j 5 = -1 := by rw [a2]; rfl
        generalize rwS 10 j (xfin (S4 10 j)) S4 = D at hB9 hL9 e_sp f0 f5
        refine xs_istore_10 eL_trades_893 rfl ?_
        refine xs_iload_10 eL_trades_895 ?_
        refine xa_iconst eL_trades_897 ?_
        refine xs_iload_8 eL_trades_898 ?_
        refine xa_max eL_trades_900 lRL_32 lm_max1 li_Math lm_max2 (by decide) (Nat.le_of_ble_eq_true rfl) rfl (by decide) (by split <;> omega) ?_
        refine xa_icmp_ne (tgt := 961) eL_trades_903 (by decide) (by omega) (by unfold xmax; split <;> split <;> omega) (fun c903 => ?_) (fun c903 => ?_)
        · exfalso
          refine c903 ?_
          unfold xmax
          by_cases h7 : C 2 0 2 < C 10 j 7
          · rw [if_pos h7]; split <;> omega
          · rw [if_neg h7]; split <;> omega
        · refine xs_aload_0 eL_trades_906 ?_
          refine g_X9_0 eL_trades_907 lRL_10 ?_
          refine xs_iload_3 eL_trades_910 ?_
          refine xa_iconst eL_trades_911 ?_
          refine xbi_W30 (mi' := mL_told) (y := yL_told) eL_trades_912 (xw_4 lRL_171 wy_L_told) rfl ⟨wd_L_told, by decide, by decide⟩ (Nat.le_of_ble_eq_true rfl) rfl (wt_0 hB9 hL9.1 (by omega) hj ?_)
          refine xa_iconst eL_trades_915 ?_
          refine xa_icmp_ne (tgt := 961) eL_trades_916 (by decide) (by omega) (by decide) (fun c916 => ?_) (fun c916 => ?_)
          · exfalso; omega
          · refine xs_aload_0 eL_trades_919 ?_
            refine g_X9_0 eL_trades_920 lRL_10 ?_
            refine xs_iload_3 eL_trades_923 ?_
            refine xa_iconst eL_trades_924 ?_
            refine xbi_W30 (mi' := mL_told) (y := yL_told) eL_trades_925 (xw_4 lRL_171 wy_L_told) rfl ⟨wd_L_told, by decide, by decide⟩ (Nat.le_of_ble_eq_true rfl) rfl (wt_5 hB9 hL9.1 (by omega) hj ?_)
            refine xa_iconst eL_trades_928 ?_
            refine xa_icmp_ne (tgt := 961) eL_trades_929 (by decide) (by omega) (by decide) (fun c929 => ?_) (fun c929 => ?_)
            · exfalso; omega
            · refine xs_aload_0 eL_trades_932 ?_
              refine g_X9_0 eL_trades_933 lRL_10 ?_
              refine xbi_V00 (mi' := mX7_spare) (y := yX7_spare) eL_trades_936 (xw_5 lRL_194 wy_X7_spare) rfl ⟨wd_X7_spare, by decide, by decide⟩ (by decide) (fun _ => rfl) rfl (Nat.le_of_ble_eq_true rfl) rfl (F_spare (hB9.V hL9.1) (by omega) (fun S7 s7 => ?_))
              rw [hB9.spa hN]
              have hB10 := hB9.sc s7
              refine xs_iload_9 eL_trades_939 ?_
              refine xa_icmp_lt (tgt := 961) eL_trades_941 (by decide) fre_x fre_x (fun c941 => ?_) (fun c941 => ?_)
              · exfalso; omega
              · refine xs_aload_0 eL_trades_944 ?_
                refine g_X9_0 eL_trades_945 lRL_10 ?_
                refine xs_iload_3 eL_trades_948 ?_
                refine xbi_W2 (mi' := mL_end) (y := yL_end) eL_trades_949 (xw_4 lRL_201 wy_L_end) rfl ⟨wd_L_end, by decide, by decide⟩ (Nat.le_of_ble_eq_true rfl) rfl ⟨by decide, by decide⟩ (w_end hB10 hL9.1 (by omega) hj (fun n4 S11 hB11 => ?_) (fun n4 S11 hB11 => ?_))
                · exfalso; omega
                · refine xa_bipush eL_trades_952 (by decide) ?_
                  refine xa_icmp_ne (tgt := 961) eL_trades_954 (by decide) (by decide) (by decide) (fun c954 => ?_) (fun c954 => ?_)
                  · exfalso; omega
                  · refine xa_iconst eL_trades_957 ?_
                    refine xa_goto (tgt := 962) eL_trades_958 (by decide) ?_
                    exact xa_zret eL_trades_962 rfl (by omega) ⟨_, rfl, (by first | exact hq _ _ _ (hL9.mono (by omega)) (hB11.mono (by omega)) | exact hq _ _ _ (hL.mono (by omega)) (hB8.mono (by omega)) | exact hq _ _ _ (hL.mono (by omega)) (hB3.mono (by omega)))⟩
      · exfalso; omega
    · refine xa_iconst eL_trades_862 ?_
      exact xa_zret eL_trades_863 rfl (by omega) ⟨_, rfl, (by first | exact hq _ _ _ (hL9.mono (by omega)) (hB11.mono (by omega)) | exact hq _ _ _ (hL.mono (by omega)) (hB8.mono (by omega)) | exact hq _ _ _ (hL.mono (by omega)) (hB3.mono (by omega)))⟩
  · refine xs_aload_0 eL_trades_835 ?_
    refine g_X9_0 eL_trades_836 lRL_10 ?_
    refine xs_iload_3 eL_trades_839 ?_
    refine xbi_W2 (mi' := mL_end) (y := yL_end) eL_trades_840 (xw_4 lRL_201 wy_L_end) rfl ⟨wd_L_end, by decide, by decide⟩ (Nat.le_of_ble_eq_true rfl) rfl ⟨by decide, by decide⟩ (w_end hB hV hT2 hj (fun n1 S9 hB9 => ?_) (fun n3 S8 hB8 => ?_))
    · exfalso; omega
    · refine xa_bipush eL_trades_843 (by decide) ?_
      refine xa_icmp_ne (tgt := 852) eL_trades_845 (by decide) (by decide) (by decide) (fun c845 => ?_) (fun c845 => ?_)
      · exfalso; omega
      · refine xa_iconst eL_trades_848 ?_
        refine xa_goto (tgt := 853) eL_trades_849 (by decide) ?_
        exact xa_zret eL_trades_853 rfl (by omega) ⟨_, rfl, (by first | exact hq _ _ _ (hL9.mono (by omega)) (hB11.mono (by omega)) | exact hq _ _ _ (hL.mono (by omega)) (hB8.mono (by omega)) | exact hq _ _ _ (hL.mono (by omega)) (hB3.mono (by omega)))⟩
set_option maxHeartbeats 4000000 in
theorem k_trades {w : xW} {S : xS} {B : String → xS → Prop} {A : Int → xS → Prop} {C : xS} {N : Nat} {T q : Int} (hB : BS q C S) (hL : LIN T N C) (hT : T ≤ 780000) (hw : w.2.2.2.2.2.1 < 1000) (hQ : q ≤ 890000) (hq : ∀ D N' S', LIN (T + 3000) N' D → BS (q + 10) D S' → A 1 S') : Ki w mL_trades yL_trades 2 12 [xp 30 0] S A B := by
  refine K.of rfl rfl rfl rfl (Nat.le_of_ble_eq_true rfl) rfl ?_
  obtain ⟨hV, g, hE, hper, h21, hz⟩ := id hL
  have hT2 : T ≤ 800000 := by omega
  have hN := hV.2.1
  refine xs_aload_0 eL_trades_0 ?_
  refine g_X9_0 eL_trades_1 lRL_10 ?_
  refine xa_iconst eL_trades_4 ?_
  refine xbi_W20 (mi' := mL_count) (y := yL_count) eL_trades_5 (xw_4 lRL_146 wy_L_count) rfl ⟨wd_L_count, by decide, by decide⟩ (Nat.le_of_ble_eq_true rfl) rfl (wc_2 hB hV hT2 ?_)
  refine xs_istore_1 eL_trades_8 rfl ?_
  refine xs_aload_0 eL_trades_9 ?_
  refine xa_iconst eL_trades_10 ?_
  refine xbi_V10 (mi' := mL_draw) (y := yL_draw) eL_trades_11 (xw_5 lRL_152 wy_L_draw) rfl ⟨wd_L_draw, by decide, by decide⟩ (by decide) (fun _ => rfl) rfl (Nat.le_of_ble_eq_true rfl) rfl (k_draw hw hB (by omega) (by decide) (fun r S1 hr hB1 => ?_))
  refine xs_istore_2 eL_trades_14 rfl ?_
  refine xs_iload_1 eL_trades_15 ?_
  refine xa_if_ne (tgt := 24) eL_trades_16 (by decide) (by omega) (fun c16 => ?_) (fun c16 => ?_)
  · refine xs_aload_0 eL_trades_24 ?_
    refine xs_iload_1 eL_trades_25 ?_
    refine xbi_V10 (mi' := mL_draw) (y := yL_draw) eL_trades_26 (xw_5 lRL_152 wy_L_draw) rfl ⟨wd_L_draw, by decide, by decide⟩ (by decide) (fun _ => rfl) rfl (Nat.le_of_ble_eq_true rfl) rfl (k_draw hw hB1 (by omega) (by omega) (fun j S2 hj0 hB2 => ?_))
    have hj : j < N := by omega
    refine xs_istore_3 eL_trades_29 rfl ?_
    refine xa_iconst eL_trades_30 ?_
    refine xs_aload_0 eL_trades_31 ?_
    refine g_X9_0 eL_trades_32 lRL_10 ?_
    refine xs_iload_3 eL_trades_35 ?_
    refine xa_iconst eL_trades_36 ?_
    refine xbi_W30 (mi' := mL_told) (y := yL_told) eL_trades_37 (xw_4 lRL_171 wy_L_told) rfl ⟨wd_L_told, by decide, by decide⟩ (Nat.le_of_ble_eq_true rfl) rfl (wt_0 hB2 hV hT2 hj ?_)
    refine xa_isub eL_trades_40 ?_
    refine xs_istore_4 eL_trades_41 rfl ?_
    refine xs_aload_0 eL_trades_43 ?_
    refine g_X9_0 eL_trades_44 lRL_10 ?_
    refine xs_iload_3 eL_trades_47 ?_
    refine xa_iconst eL_trades_48 ?_
    refine xbi_W30 (mi' := mL_told) (y := yL_told) eL_trades_49 (xw_4 lRL_171 wy_L_told) rfl ⟨wd_L_told, by decide, by decide⟩ (Nat.le_of_ble_eq_true rfl) rfl (wt_1 hB2 hV hT2 hj ?_)
    refine xs_istore_5 eL_trades_52 rfl ?_
    refine xs_aload_0 eL_trades_54 ?_
    refine xbl_V00 (mi' := mL_money) (y := yL_money) eL_trades_55 (xw_5 lRL_177 wy_L_money) rfl ⟨wd_L_money, by decide, by decide⟩ (by decide) (fun _ => rfl) rfl (Nat.le_of_ble_eq_true rfl) rfl (k_money hB2 hV hT2 ?_)
    refine xs_lstore_6 eL_trades_58 rfl ?_
    refine xs_aload_0 eL_trades_60 ?_
    refine xa_bipush eL_trades_61 (by decide) ?_
    refine xbi_V10 (mi' := mL_draw) (y := yL_draw) eL_trades_63 (xw_5 lRL_152 wy_L_draw) rfl ⟨wd_L_draw, by decide, by decide⟩ (by decide) (fun _ => rfl) rfl (Nat.le_of_ble_eq_true rfl) rfl (k_draw hw hB2 (by omega) (by decide) (fun d6 S3 l6 hB3 => ?_))
    have hq3 : ∀ D N' S', LIN (T + 3000) N' D → BS (q + 1 + 1 + 1 + 4) D S' → A 1 S' := fun D N' S' l b => hq D N' S' l (b.mono (by omega))
    have hr4 : r < 4 := by omega
    have h6 : d6 = 0 ∨ d6 = 1 ∨ d6 = 2 ∨ d6 = 3 ∨ d6 = 4 ∨ d6 = 5 := by omega
    rcases h6 with rfl | rfl | rfl | rfl | rfl | rfl
    · refine xa_tabIn (off := 34) (tgt := 100) eL_trades_66 (by decide) (by decide) (by decide) rfl (by decide) ?_
      exact t_ask hB3 hL hT hw (by omega) hj hr4 hq3
    · refine xa_tabIn (off := 119) (tgt := 185) eL_trades_66 (by decide) (by decide) (by decide) rfl (by decide) ?_
      exact t_buy hB3 hL hT hw (by omega) hj hr4 hq3
    · refine xa_tabIn (off := 279) (tgt := 345) eL_trades_66 (by decide) (by decide) (by decide) rfl (by decide) ?_
      exact t_chp hB3 hL hT hw (by omega) hj hr4 hq3
    · refine xa_tabIn (off := 394) (tgt := 460) eL_trades_66 (by decide) (by decide) (by decide) rfl (by decide) ?_
      exact t_lea hB3 hL hT hw (by omega) hj hr4 hq3
    · refine xa_tabIn (off := 507) (tgt := 573) eL_trades_66 (by decide) (by decide) (by decide) rfl (by decide) ?_
      exact t_div hB3 hL hT hw (by omega) hj hr4 hq3
    · refine xa_tabOut (tgt := 830) eL_trades_66 (by decide) (by decide) (by decide) ?_
      exact t_end hB3 hL hT hw (by omega) hj hr4 hq3
  · refine xs_aload_0 eL_trades_19 ?_
    refine xbi_V0 (mi' := mL_vows) (y := yL_vows) eL_trades_20 (xw_5 lRL_173 wy_L_vows) rfl ⟨wd_L_vows, by decide, by decide⟩ (by decide) (fun _ => rfl) rfl (Nat.le_of_ble_eq_true rfl) rfl ⟨by decide, by decide⟩ (k_vows hB1 hL hT hw (by omega) (fun D N8 S8 hL8 hB8 => ?_))
    · replace hL8 := hL8.mono (show T + 1500 ≤ T + 3000 by omega)
      replace hB8 := hB8.mono (show q + 1 + 8 ≤ q + 10 by omega)
      exact xa_zret eL_trades_23 rfl (by omega) ⟨_, rfl, (hq _ _ _ hL8 hB8)⟩
