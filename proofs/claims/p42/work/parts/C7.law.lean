/-! the law: money, jobs -/
set_option maxHeartbeats 400000 in
theorem Z_bank {w : xW} {S : xS} {B : String → xS → Prop} {A : Int → xS → Prop} {n N : Nat} {T : Int} (hV : VS 0 n N T S) (hT : T ≤ 800000)   (hA : A (S 1 0 6) S) : Kl w mX7_bank yX7_bank 0 0 [xp 0 0] S A B := by
  refine K.of rfl rfl rfl rfl (Nat.le_of_ble_eq_true rfl) rfl ?_
  obtain ⟨hVT, hN20, h8, hg, hp, ho, hs⟩ := id hV
  have hn := hg.1
  have hN := hVT.1
  have ht := hVT.2.2.1
  refine xs_aload_0 eX7_bank_0 ?_
  refine g_X7_0 eX7_bank_1 lRX7_10 ?_
  refine gr_X4_6 eX7_bank_4 lRX7_216 (fun r4 => ?_)
  exact xa_lret eX7_bank_7 rfl ⟨_, rfl, by have h9 := hA; exact h9⟩
theorem wt_c6 {w : xW} {S C : xS} {B : String → xS → Prop} {A : Int → xS → Prop} {N : Nat} {T q : Int} (hB : BS q C S) (hV : VS 0 4 N T C) (hT : T ≤ 800000) {j : Nat} (hj : j < N) (h1 : C 2 0 2 < C 10 j 7 → A (C 10 j 6) S) (h2 : ¬ C 2 0 2 < C 10 j 7 → A (-1) S) : Ki w mL_told yL_told 0 0 [xp 0 0, xi (j : Int), xi 6] S A B := wt_6 hB hV hT hj (by by_cases c : C 2 0 2 < C 10 j 7; rw [if_pos c]; exact h1 c; rw [if_neg c]; exact h2 c)
theorem wt_c7 {w : xW} {S C : xS} {B : String → xS → Prop} {A : Int → xS → Prop} {N : Nat} {T q : Int} (hB : BS q C S) (hV : VS 0 4 N T C) (hT : T ≤ 800000) {j : Nat} (hj : j < N) (h1 : C 2 0 2 < C 10 j 7 → A (C 10 j 7) S) (h2 : ¬ C 2 0 2 < C 10 j 7 → A (-1) S) : Ki w mL_told yL_told 0 0 [xp 0 0, xi (j : Int), xi 7] S A B := wt_7 hB hV hT hj (by by_cases c : C 2 0 2 < C 10 j 7; rw [if_pos c]; exact h1 c; rw [if_neg c]; exact h2 c)
theorem wt_c8 {w : xW} {S C : xS} {B : String → xS → Prop} {A : Int → xS → Prop} {N : Nat} {T q : Int} (hB : BS q C S) (hV : VS 0 4 N T C) (hT : T ≤ 800000) {j : Nat} (hj : j < N) (h1 : C 2 0 2 < C 10 j 7 → A (C 10 j 8) S) (h2 : ¬ C 2 0 2 < C 10 j 7 → A (-1) S) : Ki w mL_told yL_told 0 0 [xp 0 0, xi (j : Int), xi 8] S A B := wt_8 hB hV hT hj (by by_cases c : C 2 0 2 < C 10 j 7; rw [if_pos c]; exact h1 c; rw [if_neg c]; exact h2 c)
theorem w_of_V {c : Int} {R : Nat → Nat → Int} {N m j : Nat} (h : ∀ m, lV c R N (m + 1) (m + 1) = 0) (hj : j < N) (h7 : R j 7 ≤ c + ((m + 1 : Nat) : Int)) (h6 : 0 ≤ R j 6) : R j 6 ≤ ((m + 1 : Nat) : Int) := by
  have h1 : ∀ (N : Nat) (b r p e : Nat → Nat) (W : Nat → Nat) (d k : Nat), W d ≤ VN N b r p e W d k + k := fun N b r p e W d k => by
    induction k with
    | zero => exact Nat.le_refl _
    | succ k ih => unfold VN; omega
  have h2 := h1 N (lb R) (lr c R) (lp R) (ld R) (lW c R N) (m + 1) (m + 1)
  have h3 : VN N (lb R) (lr c R) (lp R) (ld R) (lW c R N) (m + 1) (m + 1) = 0 := h m
  have h4 : lw1 c R (m + 1) j ≤ lW c R N (m + 1) := by
    unfold lW
    clear h2 h3 h
    induction N with
    | zero => exact absurd hj (Nat.not_lt_zero j)
    | succ N ih =>
      unfold sn
      by_cases e : j = N
      · subst e; omega
      · have := ih (by omega); omega
  unfold lw1 w1 at h4
  rw [if_pos h7] at h4
  omega
theorem row_f {N j : Nat} {T : Int} {C : xS} (hV : VS 0 4 N T C) (g : Fut 0 N C) (hE : EX N C) (hj : j < N) : (0 ≤ C 2 0 2 ∧ C 2 0 2 ≤ T) ∧ (C 10 j 0 = 0 ∨ C 10 j 0 = 1) ∧ (C 10 j 0 = 1 → C 10 j 5 = -1 ∧ C 10 j 7 = -1 ∧ C 10 j 9 = -1 ∧ C 10 j 10 = -1 ∧ C 10 j 11 = 0) ∧ (C 10 j 0 = 0 → C 2 0 2 ≤ C 10 j 5) ∧ C 10 j 5 ≤ C 2 0 2 + C 10 j 2 ∧ (0 ≤ C 10 j 6 ∧ C 10 j 6 ≤ C 10 j 3) ∧ (C 2 0 2 < C 10 j 7 → C 10 j 6 ≤ C 10 j 7 - C 2 0 2) ∧ (0 ≤ C 10 j 7 → 0 ≤ C 10 j 8) ∧ (C 10 j 11 = 0 → C 10 j 10 = -1) ∧ (0 < C 10 j 11 → 0 ≤ C 10 j 10) ∧ (0 ≤ C 10 j 11 ∧ C 10 j 11 ≤ 50) ∧ C 10 j 16 = 0 ∧ (1 ≤ C 10 j 2 ∧ C 10 j 2 ≤ 120) ∧ (1 ≤ C 10 j 3 ∧ C 10 j 3 ≤ 120) ∧ (-1 ≤ C 10 j 5 ∧ C 10 j 5 ≤ T + 120) ∧ (-1 ≤ C 10 j 7 ∧ C 10 j 7 ≤ T + 120) ∧ (-1 ≤ C 10 j 8 ∧ C 10 j 8 < 4) ∧ (-1 ≤ C 10 j 9 ∧ C 10 j 9 ≤ 99999) ∧ (-1 ≤ C 10 j 10 ∧ C 10 j 10 < 4) := by
  have h1 := hV.Q hj
  have h2 := hV.O hj
  have h3 := hE.1 j hj
  have h4 := g.L hj
  have ht := hV.1.2.2.1
  have h5 : C 2 0 2 < C 10 j 7 → C 10 j 6 ≤ C 10 j 7 - C 2 0 2 := fun z => by
    have h9 := w_of_V (c := C 2 0 2) (R := rwT 0 C) (N := N) (m := (C 10 j 7 - C 2 0 2 - 1).toNat) (j := j) g.2.2 hj (by unfold rwT; rw [e32]; omega) (by unfold rwT; rw [e32]; exact h4.2.2.2.2.2)
    unfold rwT at h9
    rw [e32] at h9
    omega
  unfold TQ at h1
  unfold OQ at h2
  unfold RQ at h3
  unfold LQ at h4
  refine ⟨ht, h1.1, h3.1, h4.2.2.2.1.1, h3.2.2.1, ⟨h4.2.2.2.2.2, h3.2.1⟩, h5, h3.2.2.2.1, ?_, ?_, ?_, h3.2.2.2.2, ?_, ?_, ?_, ?_, ?_, ?_, ?_⟩
  all_goals omega
set_option maxHeartbeats 400000 in
theorem k_money {w : xW} {S : xS} {B : String → xS → Prop} {A : Int → xS → Prop} {C : xS} {N : Nat} {T q : Int} (hB : BS q C S) (hV : VS 0 4 N T C) (hT : T ≤ 800000) (hq : A (mon C) S) : Kl w mL_money yL_money 0 0 [xp 30 0] S A B := by
  refine K.of rfl rfl rfl rfl (Nat.le_of_ble_eq_true rfl) rfl ?_
  have lp : ∀ i : Nat, i ≤ 4 → X w mL_money (xTG w (fun v S' => ∃ a, v = some (xl a) ∧ A a S') B) 0 0 10 [xp 30 0, xl (C 1 0 6 + sm (fun p => C 4 p 0) i), xj, xi (i : Int)] [] S := by
    refine nloop 4 (fun i hi ih => ?_)
    refine xs_iload_3 eL_money_10 ?_
    refine xs_aload_0 eL_money_11 ?_
    refine g_X9_0 eL_money_12 lRL_10 ?_
    refine xa_iconst eL_money_15 ?_
    refine xbi_W20 (mi' := mL_count) (y := yL_count) eL_money_16 (xw_4 lRL_146 wy_L_count) rfl ⟨wd_L_count, by decide, by decide⟩ (Nat.le_of_ble_eq_true rfl) rfl (wc_1 hB hV hT ?_)
    refine xa_icmp_ge (tgt := 41) eL_money_19 (by decide) (by omega) (by decide) (fun c19 => ?_) (fun c19 => ?_)
    · refine xs_lload_1 eL_money_41 ?_
      exact xa_lret eL_money_42 rfl ⟨_, rfl, (by have e : i = 4 := (by omega); rw [e]; exact hq)⟩
    · refine xs_lload_1 eL_money_22 ?_
      refine xs_aload_0 eL_money_23 ?_
      refine g_X9_0 eL_money_24 lRL_10 ?_
      refine xs_iload_3 eL_money_27 ?_
      refine xa_iconst eL_money_28 ?_
      refine xbi_W30 (mi' := mL_process) (y := yL_process) eL_money_29 (xw_4 lRL_149 wy_L_process) rfl ⟨wd_L_process, by decide, by decide⟩ (Nat.le_of_ble_eq_true rfl) rfl (wp_0 hB hV hT (by omega) ?_)
      refine xa_i2l eL_money_32 (by have := (hV.P (p := i) (by omega)).1; omega) ?_
      refine xa_ladd eL_money_33 ?_
      refine xs_lstore_1 eL_money_34 rfl ?_
      refine xs_iinc_3 eL_money_35 rfl ?_
      refine xa_goto (tgt := 10) eL_money_38 (by decide) ?_
      have h9 := ih (i + 1) (by omega) (by omega)
      rw [sm_s] at h9
      rw [← Int.add_assoc] at h9
      exact h9
  refine xs_aload_0 eL_money_0 ?_
  refine g_X9_0 eL_money_1 lRL_10 ?_
  refine xbl_V00 (mi' := mX7_bank) (y := yX7_bank) eL_money_4 (xw_5 lRL_142 wy_X7_bank) rfl ⟨wd_X7_bank, by decide, by decide⟩ (by decide) (fun _ => rfl) rfl (Nat.le_of_ble_eq_true rfl) rfl (Z_bank (hB.V hV) hT ?_)
  rw [hB.at (by decide) (by decide) (by unfold sct; omega)]
  refine xs_lstore_1 eL_money_7 rfl ?_
  refine xa_iconst eL_money_8 ?_
  refine xs_istore_3 eL_money_9 rfl ?_
  have h9 := lp 0 (by omega)
  have e0 : sm (fun p => C 4 p 0) 0 = 0 := rfl
  rw [e0, Int.add_zero] at h9
  exact h9
set_option maxHeartbeats 1000000 in
theorem k_jobs {w : xW} {S : xS} {B : String → xS → Prop} {A : Int → xS → Prop} {C : xS} {N : Nat} {T q : Int} (hB : BS q C S) (hV : VS 0 4 N T C) (hT : T ≤ 800000) (g : Fut 0 N C) (hE : EX N C) (hq : A 1 S) : Ki w mL_jobs yL_jobs 0 0 [xp 30 0] S A B := by
  refine K.of rfl rfl rfl rfl (Nat.le_of_ble_eq_true rfl) rfl ?_
  have hN := hV.2.1
  have lp : ∀ i : Nat, i ≤ N → ∀ aa bb cc dd : xV, xcat2 aa = false → xcat2 bb = false → xcat2 cc = false → xcat2 dd = false → X w mL_jobs (xTG w (fun v S' => ∃ a, v = some (xi a) ∧ A a S') B) 0 0 2 [xp 30 0, xi (i : Int), aa, bb, cc, dd] [] S := by
    refine nloop N (fun i hi ih aa bb cc dd ja jb jc jd => ?_)
    refine xs_iload_1 eL_jobs_2 ?_
    refine xs_aload_0 eL_jobs_3 ?_
    refine g_X9_0 eL_jobs_4 lRL_10 ?_
    refine xa_iconst eL_jobs_7 ?_
    refine xbi_W20 (mi' := mL_count) (y := yL_count) eL_jobs_8 (xw_4 lRL_146 wy_L_count) rfl ⟨wd_L_count, by decide, by decide⟩ (Nat.le_of_ble_eq_true rfl) rfl (wc_2 hB hV hT ?_)
    refine xa_icmp_ge (tgt := 275) eL_jobs_11 (by decide) (by omega) (by omega) (fun c11 => ?_) (fun c11 => ?_)
    · refine xa_iconst eL_jobs_275 ?_
      exact xa_zret eL_jobs_276 rfl (by omega) ⟨_, rfl, hq⟩
    · refine xs_aload_0 eL_jobs_14 ?_
      refine g_X9_0 eL_jobs_15 lRL_10 ?_
      refine xs_iload_1 eL_jobs_18 ?_
      refine xa_bipush eL_jobs_19 (by decide) ?_
      refine xbi_W30 (mi' := mL_told) (y := yL_told) eL_jobs_21 (xw_4 lRL_171 wy_L_told) rfl ⟨wd_L_told, by decide, by decide⟩ (Nat.le_of_ble_eq_true rfl) rfl (wt_c6 hB hV hT (show i < N by omega) (fun ht => ?_) (fun ht => ?_))
      · obtain ⟨r1, r2, r3, r4, r5, r6, r7, r8, r9, r10, r11, r12, r13, r14, r15, r16, r17, r18, r19⟩ := row_f hV g hE (show i < N by omega)
        refine xs_istore_2 eL_jobs_24 rfl ?_
        refine xs_aload_0 eL_jobs_25 ?_
        refine g_X9_0 eL_jobs_26 lRL_10 ?_
        refine xs_iload_1 eL_jobs_29 ?_
        refine xa_bipush eL_jobs_30 (by decide) ?_
        refine xbi_W30 (mi' := mL_told) (y := yL_told) eL_jobs_32 (xw_4 lRL_171 wy_L_told) rfl ⟨wd_L_told, by decide, by decide⟩ (Nat.le_of_ble_eq_true rfl) rfl (wt_7 hB hV hT (show i < N by omega) ?_)
        first | rw [if_pos ht] | rw [if_neg ht]
        refine xs_istore_3 eL_jobs_35 rfl ?_
        refine xs_aload_0 eL_jobs_36 ?_
        refine g_X9_0 eL_jobs_37 lRL_10 ?_
        refine xs_iload_1 eL_jobs_40 ?_
        refine xa_iconst eL_jobs_41 ?_
        refine xbi_W30 (mi' := mL_told) (y := yL_told) eL_jobs_42 (xw_4 lRL_171 wy_L_told) rfl ⟨wd_L_told, by decide, by decide⟩ (Nat.le_of_ble_eq_true rfl) rfl (wt_5 hB hV hT (show i < N by omega) ?_)
        refine xs_istore_4 eL_jobs_45 rfl ?_
        refine xs_aload_0 eL_jobs_47 ?_
        refine g_X9_0 eL_jobs_48 lRL_10 ?_
        refine xa_iconst eL_jobs_51 ?_
        refine xbi_W20 (mi' := mL_count) (y := yL_count) eL_jobs_52 (xw_4 lRL_146 wy_L_count) rfl ⟨wd_L_count, by decide, by decide⟩ (Nat.le_of_ble_eq_true rfl) rfl (wc_0 hB hV hT ?_)
        refine xs_istore_5 eL_jobs_55 rfl ?_
        refine xs_aload_0 eL_jobs_57 ?_
        refine g_X9_0 eL_jobs_58 lRL_10 ?_
        refine xs_iload_1 eL_jobs_61 ?_
        refine xa_iconst eL_jobs_62 ?_
        refine xbi_W30 (mi' := mL_told) (y := yL_told) eL_jobs_63 (xw_4 lRL_171 wy_L_told) rfl ⟨wd_L_told, by decide, by decide⟩ (Nat.le_of_ble_eq_true rfl) rfl (wt_0 hB hV hT (show i < N by omega) ?_)
        refine xa_iconst eL_jobs_66 ?_
        refine xa_icmp_ne (tgt := 124) eL_jobs_67 (by decide) (by omega) (by omega) (fun c67 => ?_) (fun c67 => ?_)
        · refine xs_iload_4 eL_jobs_124 ?_
          refine xs_iload_5 eL_jobs_126 ?_
          refine xa_icmp_lt (tgt := 213) eL_jobs_128 (by decide) (by omega) (by omega) (fun c128 => ?_) (fun c128 => ?_)
          · exfalso; omega
          · refine xs_iload_4 eL_jobs_131 ?_
            refine xs_iload_5 eL_jobs_133 ?_
            refine xs_aload_0 eL_jobs_135 ?_
            refine g_X9_0 eL_jobs_136 lRL_10 ?_
            refine xs_iload_1 eL_jobs_139 ?_
            refine xa_iconst eL_jobs_140 ?_
            refine xbi_W30 (mi' := mL_told) (y := yL_told) eL_jobs_141 (xw_4 lRL_171 wy_L_told) rfl ⟨wd_L_told, by decide, by decide⟩ (Nat.le_of_ble_eq_true rfl) rfl (wt_2 hB hV hT (show i < N by omega) ?_)
            refine xa_iadd eL_jobs_144 ?_
            refine xa_icmp_gt (tgt := 213) eL_jobs_145 (by decide) (by omega) (by omega) (fun c145 => ?_) (fun c145 => ?_)
            · exfalso; omega
            · refine xs_iload_2 eL_jobs_148 ?_
              refine xs_aload_0 eL_jobs_149 ?_
              refine g_X9_0 eL_jobs_150 lRL_10 ?_
              refine xs_iload_1 eL_jobs_153 ?_
              refine xa_iconst eL_jobs_154 ?_
              refine xbi_W30 (mi' := mL_told) (y := yL_told) eL_jobs_155 (xw_4 lRL_171 wy_L_told) rfl ⟨wd_L_told, by decide, by decide⟩ (Nat.le_of_ble_eq_true rfl) rfl (wt_3 hB hV hT (show i < N by omega) ?_)
              refine xa_icmp_gt (tgt := 213) eL_jobs_158 (by decide) (by omega) (by omega) (fun c158 => ?_) (fun c158 => ?_)
              · exfalso; omega
              · refine xs_iload_2 eL_jobs_161 ?_
                refine xa_if_ge (tgt := 169) eL_jobs_162 (by decide) (by omega) (fun c162 => ?_) (fun c162 => ?_)
                · refine xa_iconst eL_jobs_169 ?_
                  refine xs_iload_3 eL_jobs_170 ?_
                  refine xa_if_ge (tgt := 178) eL_jobs_171 (by decide) (by omega) (fun c171 => ?_) (fun c171 => ?_)
                  · refine xa_iconst eL_jobs_178 ?_
                    refine xa_icmp_ne (tgt := 213) eL_jobs_179 (by decide) (by omega) (by omega) (fun c179 => ?_) (fun c179 => ?_)
                    · exfalso; omega
                    · refine xs_iload_3 eL_jobs_182 ?_
                      refine xa_if_lt (tgt := 215) eL_jobs_183 (by decide) (by omega) (fun c183 => ?_) (fun c183 => ?_)
                      · refine xs_aload_0 eL_jobs_215 ?_
                        refine g_X9_0 eL_jobs_216 lRL_10 ?_
                        refine xs_iload_1 eL_jobs_219 ?_
                        refine xa_bipush eL_jobs_220 (by decide) ?_
                        refine xbi_W30 (mi' := mL_told) (y := yL_told) eL_jobs_222 (xw_4 lRL_171 wy_L_told) rfl ⟨wd_L_told, by decide, by decide⟩ (Nat.le_of_ble_eq_true rfl) rfl (wt_10 hB hV hT (show i < N by omega) ?_)
                        refine xa_if_ge (tgt := 232) eL_jobs_225 (by decide) (by omega) (fun c225 => ?_) (fun c225 => ?_)
                        · refine xa_iconst eL_jobs_232 ?_
                          refine xs_aload_0 eL_jobs_233 ?_
                          refine g_X9_0 eL_jobs_234 lRL_10 ?_
                          refine xs_iload_1 eL_jobs_237 ?_
                          refine xa_bipush eL_jobs_238 (by decide) ?_
                          refine xbi_W30 (mi' := mL_told) (y := yL_told) eL_jobs_240 (xw_4 lRL_171 wy_L_told) rfl ⟨wd_L_told, by decide, by decide⟩ (Nat.le_of_ble_eq_true rfl) rfl (wt_11 hB hV hT (show i < N by omega) ?_)
                          refine xa_if_ne (tgt := 250) eL_jobs_243 (by decide) (by omega) (fun c243 => ?_) (fun c243 => ?_)
                          · refine xa_iconst eL_jobs_250 ?_
                            refine xa_icmp_ne (tgt := 267) eL_jobs_251 (by decide) (by omega) (by omega) (fun c251 => ?_) (fun c251 => ?_)
                            · exfalso; omega
                            · refine xs_aload_0 eL_jobs_254 ?_
                              refine g_X9_0 eL_jobs_255 lRL_10 ?_
                              refine xs_iload_1 eL_jobs_258 ?_
                              refine xa_bipush eL_jobs_259 (by decide) ?_
                              refine xbi_W30 (mi' := mL_told) (y := yL_told) eL_jobs_261 (xw_4 lRL_171 wy_L_told) rfl ⟨wd_L_told, by decide, by decide⟩ (Nat.le_of_ble_eq_true rfl) rfl (wt_16 hB hV hT (show i < N by omega) ?_)
                              refine xa_if_eq (tgt := 269) eL_jobs_264 (by decide) (by omega) (fun c264 => ?_) (fun c264 => ?_)
                              · refine xs_iinc_1 eL_jobs_269 rfl ?_
                                refine xa_goto (tgt := 2) eL_jobs_272 (by decide) ?_
                                exact ih (i + 1) (by omega) (by omega) _ _ _ _ rfl rfl rfl rfl
                              · exfalso; omega
                          · refine xa_iconst eL_jobs_246 ?_
                            refine xa_goto (tgt := 251) eL_jobs_247 (by decide) ?_
                            refine xa_icmp_ne (tgt := 267) eL_jobs_251 (by decide) (by omega) (by omega) (fun c251 => ?_) (fun c251 => ?_)
                            · exfalso; omega
                            · refine xs_aload_0 eL_jobs_254 ?_
                              refine g_X9_0 eL_jobs_255 lRL_10 ?_
                              refine xs_iload_1 eL_jobs_258 ?_
                              refine xa_bipush eL_jobs_259 (by decide) ?_
                              refine xbi_W30 (mi' := mL_told) (y := yL_told) eL_jobs_261 (xw_4 lRL_171 wy_L_told) rfl ⟨wd_L_told, by decide, by decide⟩ (Nat.le_of_ble_eq_true rfl) rfl (wt_16 hB hV hT (show i < N by omega) ?_)
                              refine xa_if_eq (tgt := 269) eL_jobs_264 (by decide) (by omega) (fun c264 => ?_) (fun c264 => ?_)
                              · refine xs_iinc_1 eL_jobs_269 rfl ?_
                                refine xa_goto (tgt := 2) eL_jobs_272 (by decide) ?_
                                exact ih (i + 1) (by omega) (by omega) _ _ _ _ rfl rfl rfl rfl
                              · exfalso; omega
                        · refine xa_iconst eL_jobs_228 ?_
                          refine xa_goto (tgt := 233) eL_jobs_229 (by decide) ?_
                          refine xs_aload_0 eL_jobs_233 ?_
                          refine g_X9_0 eL_jobs_234 lRL_10 ?_
                          refine xs_iload_1 eL_jobs_237 ?_
                          refine xa_bipush eL_jobs_238 (by decide) ?_
                          refine xbi_W30 (mi' := mL_told) (y := yL_told) eL_jobs_240 (xw_4 lRL_171 wy_L_told) rfl ⟨wd_L_told, by decide, by decide⟩ (Nat.le_of_ble_eq_true rfl) rfl (wt_11 hB hV hT (show i < N by omega) ?_)
                          refine xa_if_ne (tgt := 250) eL_jobs_243 (by decide) (by omega) (fun c243 => ?_) (fun c243 => ?_)
                          · refine xa_iconst eL_jobs_250 ?_
                            refine xa_icmp_ne (tgt := 267) eL_jobs_251 (by decide) (by omega) (by omega) (fun c251 => ?_) (fun c251 => ?_)
                            · exfalso; omega
                            · refine xs_aload_0 eL_jobs_254 ?_
                              refine g_X9_0 eL_jobs_255 lRL_10 ?_
                              refine xs_iload_1 eL_jobs_258 ?_
                              refine xa_bipush eL_jobs_259 (by decide) ?_
                              refine xbi_W30 (mi' := mL_told) (y := yL_told) eL_jobs_261 (xw_4 lRL_171 wy_L_told) rfl ⟨wd_L_told, by decide, by decide⟩ (Nat.le_of_ble_eq_true rfl) rfl (wt_16 hB hV hT (show i < N by omega) ?_)
                              refine xa_if_eq (tgt := 269) eL_jobs_264 (by decide) (by omega) (fun c264 => ?_) (fun c264 => ?_)
                              · refine xs_iinc_1 eL_jobs_269 rfl ?_
                                refine xa_goto (tgt := 2) eL_jobs_272 (by decide) ?_
                                exact ih (i + 1) (by omega) (by omega) _ _ _ _ rfl rfl rfl rfl
                              · exfalso; omega
                          · refine xa_iconst eL_jobs_246 ?_
                            refine xa_goto (tgt := 251) eL_jobs_247 (by decide) ?_
                            refine xa_icmp_ne (tgt := 267) eL_jobs_251 (by decide) (by omega) (by omega) (fun c251 => ?_) (fun c251 => ?_)
                            · exfalso; omega
                            · refine xs_aload_0 eL_jobs_254 ?_
                              refine g_X9_0 eL_jobs_255 lRL_10 ?_
                              refine xs_iload_1 eL_jobs_258 ?_
                              refine xa_bipush eL_jobs_259 (by decide) ?_
                              refine xbi_W30 (mi' := mL_told) (y := yL_told) eL_jobs_261 (xw_4 lRL_171 wy_L_told) rfl ⟨wd_L_told, by decide, by decide⟩ (Nat.le_of_ble_eq_true rfl) rfl (wt_16 hB hV hT (show i < N by omega) ?_)
                              refine xa_if_eq (tgt := 269) eL_jobs_264 (by decide) (by omega) (fun c264 => ?_) (fun c264 => ?_)
                              · refine xs_iinc_1 eL_jobs_269 rfl ?_
                                refine xa_goto (tgt := 2) eL_jobs_272 (by decide) ?_
                                exact ih (i + 1) (by omega) (by omega) _ _ _ _ rfl rfl rfl rfl
                              · exfalso; omega
                      · refine xs_iload_3 eL_jobs_186 ?_
                        refine xs_iload_5 eL_jobs_187 ?_
                        refine xa_icmp_le (tgt := 213) eL_jobs_189 (by decide) (by omega) (by omega) (fun c189 => ?_) (fun c189 => ?_)
                        · exfalso; omega
                        · refine xs_iload_2 eL_jobs_192 ?_
                          refine xs_iload_3 eL_jobs_193 ?_
                          refine xs_iload_5 eL_jobs_194 ?_
                          refine xa_isub eL_jobs_196 ?_
                          refine xa_icmp_gt (tgt := 213) eL_jobs_197 (by decide) (by omega) (by omega) (fun c197 => ?_) (fun c197 => ?_)
                          · exfalso; omega
                          · refine xs_aload_0 eL_jobs_200 ?_
                            refine g_X9_0 eL_jobs_201 lRL_10 ?_
                            refine xs_iload_1 eL_jobs_204 ?_
                            refine xa_bipush eL_jobs_205 (by decide) ?_
                            refine xbi_W30 (mi' := mL_told) (y := yL_told) eL_jobs_207 (xw_4 lRL_171 wy_L_told) rfl ⟨wd_L_told, by decide, by decide⟩ (Nat.le_of_ble_eq_true rfl) rfl (wt_8 hB hV hT (show i < N by omega) ?_)
                            first | rw [if_pos ht] | rw [if_neg ht]
                            refine xa_if_ge (tgt := 215) eL_jobs_210 (by decide) (by omega) (fun c210 => ?_) (fun c210 => ?_)
                            · refine xs_aload_0 eL_jobs_215 ?_
                              refine g_X9_0 eL_jobs_216 lRL_10 ?_
                              refine xs_iload_1 eL_jobs_219 ?_
                              refine xa_bipush eL_jobs_220 (by decide) ?_
                              refine xbi_W30 (mi' := mL_told) (y := yL_told) eL_jobs_222 (xw_4 lRL_171 wy_L_told) rfl ⟨wd_L_told, by decide, by decide⟩ (Nat.le_of_ble_eq_true rfl) rfl (wt_10 hB hV hT (show i < N by omega) ?_)
                              refine xa_if_ge (tgt := 232) eL_jobs_225 (by decide) (by omega) (fun c225 => ?_) (fun c225 => ?_)
                              · refine xa_iconst eL_jobs_232 ?_
                                refine xs_aload_0 eL_jobs_233 ?_
                                refine g_X9_0 eL_jobs_234 lRL_10 ?_
                                refine xs_iload_1 eL_jobs_237 ?_
                                refine xa_bipush eL_jobs_238 (by decide) ?_
                                refine xbi_W30 (mi' := mL_told) (y := yL_told) eL_jobs_240 (xw_4 lRL_171 wy_L_told) rfl ⟨wd_L_told, by decide, by decide⟩ (Nat.le_of_ble_eq_true rfl) rfl (wt_11 hB hV hT (show i < N by omega) ?_)
                                refine xa_if_ne (tgt := 250) eL_jobs_243 (by decide) (by omega) (fun c243 => ?_) (fun c243 => ?_)
                                · refine xa_iconst eL_jobs_250 ?_
                                  refine xa_icmp_ne (tgt := 267) eL_jobs_251 (by decide) (by omega) (by omega) (fun c251 => ?_) (fun c251 => ?_)
                                  · exfalso; omega
                                  · refine xs_aload_0 eL_jobs_254 ?_
                                    refine g_X9_0 eL_jobs_255 lRL_10 ?_
                                    refine xs_iload_1 eL_jobs_258 ?_
                                    refine xa_bipush eL_jobs_259 (by decide) ?_
                                    refine xbi_W30 (mi' := mL_told) (y := yL_told) eL_jobs_261 (xw_4 lRL_171 wy_L_told) rfl ⟨wd_L_told, by decide, by decide⟩ (Nat.le_of_ble_eq_true rfl) rfl (wt_16 hB hV hT (show i < N by omega) ?_)
                                    refine xa_if_eq (tgt := 269) eL_jobs_264 (by decide) (by omega) (fun c264 => ?_) (fun c264 => ?_)
                                    · refine xs_iinc_1 eL_jobs_269 rfl ?_
                                      refine xa_goto (tgt := 2) eL_jobs_272 (by decide) ?_
                                      exact ih (i + 1) (by omega) (by omega) _ _ _ _ rfl rfl rfl rfl
                                    · exfalso; omega
                                · refine xa_iconst eL_jobs_246 ?_
                                  refine xa_goto (tgt := 251) eL_jobs_247 (by decide) ?_
                                  refine xa_icmp_ne (tgt := 267) eL_jobs_251 (by decide) (by omega) (by omega) (fun c251 => ?_) (fun c251 => ?_)
                                  · exfalso; omega
                                  · refine xs_aload_0 eL_jobs_254 ?_
                                    refine g_X9_0 eL_jobs_255 lRL_10 ?_
                                    refine xs_iload_1 eL_jobs_258 ?_
                                    refine xa_bipush eL_jobs_259 (by decide) ?_
                                    refine xbi_W30 (mi' := mL_told) (y := yL_told) eL_jobs_261 (xw_4 lRL_171 wy_L_told) rfl ⟨wd_L_told, by decide, by decide⟩ (Nat.le_of_ble_eq_true rfl) rfl (wt_16 hB hV hT (show i < N by omega) ?_)
                                    refine xa_if_eq (tgt := 269) eL_jobs_264 (by decide) (by omega) (fun c264 => ?_) (fun c264 => ?_)
                                    · refine xs_iinc_1 eL_jobs_269 rfl ?_
                                      refine xa_goto (tgt := 2) eL_jobs_272 (by decide) ?_
                                      exact ih (i + 1) (by omega) (by omega) _ _ _ _ rfl rfl rfl rfl
                                    · exfalso; omega
                              · refine xa_iconst eL_jobs_228 ?_
                                refine xa_goto (tgt := 233) eL_jobs_229 (by decide) ?_
                                refine xs_aload_0 eL_jobs_233 ?_
                                refine g_X9_0 eL_jobs_234 lRL_10 ?_
                                refine xs_iload_1 eL_jobs_237 ?_
                                refine xa_bipush eL_jobs_238 (by decide) ?_
                                refine xbi_W30 (mi' := mL_told) (y := yL_told) eL_jobs_240 (xw_4 lRL_171 wy_L_told) rfl ⟨wd_L_told, by decide, by decide⟩ (Nat.le_of_ble_eq_true rfl) rfl (wt_11 hB hV hT (show i < N by omega) ?_)
                                refine xa_if_ne (tgt := 250) eL_jobs_243 (by decide) (by omega) (fun c243 => ?_) (fun c243 => ?_)
                                · refine xa_iconst eL_jobs_250 ?_
                                  refine xa_icmp_ne (tgt := 267) eL_jobs_251 (by decide) (by omega) (by omega) (fun c251 => ?_) (fun c251 => ?_)
                                  · exfalso; omega
                                  · refine xs_aload_0 eL_jobs_254 ?_
                                    refine g_X9_0 eL_jobs_255 lRL_10 ?_
                                    refine xs_iload_1 eL_jobs_258 ?_
                                    refine xa_bipush eL_jobs_259 (by decide) ?_
                                    refine xbi_W30 (mi' := mL_told) (y := yL_told) eL_jobs_261 (xw_4 lRL_171 wy_L_told) rfl ⟨wd_L_told, by decide, by decide⟩ (Nat.le_of_ble_eq_true rfl) rfl (wt_16 hB hV hT (show i < N by omega) ?_)
                                    refine xa_if_eq (tgt := 269) eL_jobs_264 (by decide) (by omega) (fun c264 => ?_) (fun c264 => ?_)
                                    · refine xs_iinc_1 eL_jobs_269 rfl ?_
                                      refine xa_goto (tgt := 2) eL_jobs_272 (by decide) ?_
                                      exact ih (i + 1) (by omega) (by omega) _ _ _ _ rfl rfl rfl rfl
                                    · exfalso; omega
                                · refine xa_iconst eL_jobs_246 ?_
                                  refine xa_goto (tgt := 251) eL_jobs_247 (by decide) ?_
                                  refine xa_icmp_ne (tgt := 267) eL_jobs_251 (by decide) (by omega) (by omega) (fun c251 => ?_) (fun c251 => ?_)
                                  · exfalso; omega
                                  · refine xs_aload_0 eL_jobs_254 ?_
                                    refine g_X9_0 eL_jobs_255 lRL_10 ?_
                                    refine xs_iload_1 eL_jobs_258 ?_
                                    refine xa_bipush eL_jobs_259 (by decide) ?_
                                    refine xbi_W30 (mi' := mL_told) (y := yL_told) eL_jobs_261 (xw_4 lRL_171 wy_L_told) rfl ⟨wd_L_told, by decide, by decide⟩ (Nat.le_of_ble_eq_true rfl) rfl (wt_16 hB hV hT (show i < N by omega) ?_)
                                    refine xa_if_eq (tgt := 269) eL_jobs_264 (by decide) (by omega) (fun c264 => ?_) (fun c264 => ?_)
                                    · refine xs_iinc_1 eL_jobs_269 rfl ?_
                                      refine xa_goto (tgt := 2) eL_jobs_272 (by decide) ?_
                                      exact ih (i + 1) (by omega) (by omega) _ _ _ _ rfl rfl rfl rfl
                                    · exfalso; omega
                            · exfalso; omega
                  · refine xa_iconst eL_jobs_174 ?_
                    refine xa_goto (tgt := 179) eL_jobs_175 (by decide) ?_
                    refine xa_icmp_ne (tgt := 213) eL_jobs_179 (by decide) (by omega) (by omega) (fun c179 => ?_) (fun c179 => ?_)
                    · exfalso; omega
                    · refine xs_iload_3 eL_jobs_182 ?_
                      refine xa_if_lt (tgt := 215) eL_jobs_183 (by decide) (by omega) (fun c183 => ?_) (fun c183 => ?_)
                      · refine xs_aload_0 eL_jobs_215 ?_
                        refine g_X9_0 eL_jobs_216 lRL_10 ?_
                        refine xs_iload_1 eL_jobs_219 ?_
                        refine xa_bipush eL_jobs_220 (by decide) ?_
                        refine xbi_W30 (mi' := mL_told) (y := yL_told) eL_jobs_222 (xw_4 lRL_171 wy_L_told) rfl ⟨wd_L_told, by decide, by decide⟩ (Nat.le_of_ble_eq_true rfl) rfl (wt_10 hB hV hT (show i < N by omega) ?_)
                        refine xa_if_ge (tgt := 232) eL_jobs_225 (by decide) (by omega) (fun c225 => ?_) (fun c225 => ?_)
                        · refine xa_iconst eL_jobs_232 ?_
                          refine xs_aload_0 eL_jobs_233 ?_
                          refine g_X9_0 eL_jobs_234 lRL_10 ?_
                          refine xs_iload_1 eL_jobs_237 ?_
                          refine xa_bipush eL_jobs_238 (by decide) ?_
                          refine xbi_W30 (mi' := mL_told) (y := yL_told) eL_jobs_240 (xw_4 lRL_171 wy_L_told) rfl ⟨wd_L_told, by decide, by decide⟩ (Nat.le_of_ble_eq_true rfl) rfl (wt_11 hB hV hT (show i < N by omega) ?_)
                          refine xa_if_ne (tgt := 250) eL_jobs_243 (by decide) (by omega) (fun c243 => ?_) (fun c243 => ?_)
                          · refine xa_iconst eL_jobs_250 ?_
                            refine xa_icmp_ne (tgt := 267) eL_jobs_251 (by decide) (by omega) (by omega) (fun c251 => ?_) (fun c251 => ?_)
                            · exfalso; omega
                            · refine xs_aload_0 eL_jobs_254 ?_
                              refine g_X9_0 eL_jobs_255 lRL_10 ?_
                              refine xs_iload_1 eL_jobs_258 ?_
                              refine xa_bipush eL_jobs_259 (by decide) ?_
                              refine xbi_W30 (mi' := mL_told) (y := yL_told) eL_jobs_261 (xw_4 lRL_171 wy_L_told) rfl ⟨wd_L_told, by decide, by decide⟩ (Nat.le_of_ble_eq_true rfl) rfl (wt_16 hB hV hT (show i < N by omega) ?_)
                              refine xa_if_eq (tgt := 269) eL_jobs_264 (by decide) (by omega) (fun c264 => ?_) (fun c264 => ?_)
                              · refine xs_iinc_1 eL_jobs_269 rfl ?_
                                refine xa_goto (tgt := 2) eL_jobs_272 (by decide) ?_
                                exact ih (i + 1) (by omega) (by omega) _ _ _ _ rfl rfl rfl rfl
                              · exfalso; omega
                          · refine xa_iconst eL_jobs_246 ?_
                            refine xa_goto (tgt := 251) eL_jobs_247 (by decide) ?_
                            refine xa_icmp_ne (tgt := 267) eL_jobs_251 (by decide) (by omega) (by omega) (fun c251 => ?_) (fun c251 => ?_)
                            · exfalso; omega
                            · refine xs_aload_0 eL_jobs_254 ?_
                              refine g_X9_0 eL_jobs_255 lRL_10 ?_
                              refine xs_iload_1 eL_jobs_258 ?_
                              refine xa_bipush eL_jobs_259 (by decide) ?_
                              refine xbi_W30 (mi' := mL_told) (y := yL_told) eL_jobs_261 (xw_4 lRL_171 wy_L_told) rfl ⟨wd_L_told, by decide, by decide⟩ (Nat.le_of_ble_eq_true rfl) rfl (wt_16 hB hV hT (show i < N by omega) ?_)
                              refine xa_if_eq (tgt := 269) eL_jobs_264 (by decide) (by omega) (fun c264 => ?_) (fun c264 => ?_)
                              · refine xs_iinc_1 eL_jobs_269 rfl ?_
                                refine xa_goto (tgt := 2) eL_jobs_272 (by decide) ?_
                                exact ih (i + 1) (by omega) (by omega) _ _ _ _ rfl rfl rfl rfl
                              · exfalso; omega
                        · refine xa_iconst eL_jobs_228 ?_
                          refine xa_goto (tgt := 233) eL_jobs_229 (by decide) ?_
                          refine xs_aload_0 eL_jobs_233 ?_
                          refine g_X9_0 eL_jobs_234 lRL_10 ?_
                          refine xs_iload_1 eL_jobs_237 ?_
                          refine xa_bipush eL_jobs_238 (by decide) ?_
                          refine xbi_W30 (mi' := mL_told) (y := yL_told) eL_jobs_240 (xw_4 lRL_171 wy_L_told) rfl ⟨wd_L_told, by decide, by decide⟩ (Nat.le_of_ble_eq_true rfl) rfl (wt_11 hB hV hT (show i < N by omega) ?_)
                          refine xa_if_ne (tgt := 250) eL_jobs_243 (by decide) (by omega) (fun c243 => ?_) (fun c243 => ?_)
                          · refine xa_iconst eL_jobs_250 ?_
                            refine xa_icmp_ne (tgt := 267) eL_jobs_251 (by decide) (by omega) (by omega) (fun c251 => ?_) (fun c251 => ?_)
                            · exfalso; omega
                            · refine xs_aload_0 eL_jobs_254 ?_
                              refine g_X9_0 eL_jobs_255 lRL_10 ?_
                              refine xs_iload_1 eL_jobs_258 ?_
                              refine xa_bipush eL_jobs_259 (by decide) ?_
                              refine xbi_W30 (mi' := mL_told) (y := yL_told) eL_jobs_261 (xw_4 lRL_171 wy_L_told) rfl ⟨wd_L_told, by decide, by decide⟩ (Nat.le_of_ble_eq_true rfl) rfl (wt_16 hB hV hT (show i < N by omega) ?_)
                              refine xa_if_eq (tgt := 269) eL_jobs_264 (by decide) (by omega) (fun c264 => ?_) (fun c264 => ?_)
                              · refine xs_iinc_1 eL_jobs_269 rfl ?_
                                refine xa_goto (tgt := 2) eL_jobs_272 (by decide) ?_
                                exact ih (i + 1) (by omega) (by omega) _ _ _ _ rfl rfl rfl rfl
                              · exfalso; omega
                          · refine xa_iconst eL_jobs_246 ?_
                            refine xa_goto (tgt := 251) eL_jobs_247 (by decide) ?_
                            refine xa_icmp_ne (tgt := 267) eL_jobs_251 (by decide) (by omega) (by omega) (fun c251 => ?_) (fun c251 => ?_)
                            · exfalso; omega
                            · refine xs_aload_0 eL_jobs_254 ?_
                              refine g_X9_0 eL_jobs_255 lRL_10 ?_
                              refine xs_iload_1 eL_jobs_258 ?_
                              refine xa_bipush eL_jobs_259 (by decide) ?_
                              refine xbi_W30 (mi' := mL_told) (y := yL_told) eL_jobs_261 (xw_4 lRL_171 wy_L_told) rfl ⟨wd_L_told, by decide, by decide⟩ (Nat.le_of_ble_eq_true rfl) rfl (wt_16 hB hV hT (show i < N by omega) ?_)
                              refine xa_if_eq (tgt := 269) eL_jobs_264 (by decide) (by omega) (fun c264 => ?_) (fun c264 => ?_)
                              · refine xs_iinc_1 eL_jobs_269 rfl ?_
                                refine xa_goto (tgt := 2) eL_jobs_272 (by decide) ?_
                                exact ih (i + 1) (by omega) (by omega) _ _ _ _ rfl rfl rfl rfl
                              · exfalso; omega
                      · refine xs_iload_3 eL_jobs_186 ?_
                        refine xs_iload_5 eL_jobs_187 ?_
                        refine xa_icmp_le (tgt := 213) eL_jobs_189 (by decide) (by omega) (by omega) (fun c189 => ?_) (fun c189 => ?_)
                        · exfalso; omega
                        · refine xs_iload_2 eL_jobs_192 ?_
                          refine xs_iload_3 eL_jobs_193 ?_
                          refine xs_iload_5 eL_jobs_194 ?_
                          refine xa_isub eL_jobs_196 ?_
                          refine xa_icmp_gt (tgt := 213) eL_jobs_197 (by decide) (by omega) (by omega) (fun c197 => ?_) (fun c197 => ?_)
                          · exfalso; omega
                          · refine xs_aload_0 eL_jobs_200 ?_
                            refine g_X9_0 eL_jobs_201 lRL_10 ?_
                            refine xs_iload_1 eL_jobs_204 ?_
                            refine xa_bipush eL_jobs_205 (by decide) ?_
                            refine xbi_W30 (mi' := mL_told) (y := yL_told) eL_jobs_207 (xw_4 lRL_171 wy_L_told) rfl ⟨wd_L_told, by decide, by decide⟩ (Nat.le_of_ble_eq_true rfl) rfl (wt_8 hB hV hT (show i < N by omega) ?_)
                            first | rw [if_pos ht] | rw [if_neg ht]
                            refine xa_if_ge (tgt := 215) eL_jobs_210 (by decide) (by omega) (fun c210 => ?_) (fun c210 => ?_)
                            · refine xs_aload_0 eL_jobs_215 ?_
                              refine g_X9_0 eL_jobs_216 lRL_10 ?_
                              refine xs_iload_1 eL_jobs_219 ?_
                              refine xa_bipush eL_jobs_220 (by decide) ?_
                              refine xbi_W30 (mi' := mL_told) (y := yL_told) eL_jobs_222 (xw_4 lRL_171 wy_L_told) rfl ⟨wd_L_told, by decide, by decide⟩ (Nat.le_of_ble_eq_true rfl) rfl (wt_10 hB hV hT (show i < N by omega) ?_)
                              refine xa_if_ge (tgt := 232) eL_jobs_225 (by decide) (by omega) (fun c225 => ?_) (fun c225 => ?_)
                              · refine xa_iconst eL_jobs_232 ?_
                                refine xs_aload_0 eL_jobs_233 ?_
                                refine g_X9_0 eL_jobs_234 lRL_10 ?_
                                refine xs_iload_1 eL_jobs_237 ?_
                                refine xa_bipush eL_jobs_238 (by decide) ?_
                                refine xbi_W30 (mi' := mL_told) (y := yL_told) eL_jobs_240 (xw_4 lRL_171 wy_L_told) rfl ⟨wd_L_told, by decide, by decide⟩ (Nat.le_of_ble_eq_true rfl) rfl (wt_11 hB hV hT (show i < N by omega) ?_)
                                refine xa_if_ne (tgt := 250) eL_jobs_243 (by decide) (by omega) (fun c243 => ?_) (fun c243 => ?_)
                                · refine xa_iconst eL_jobs_250 ?_
                                  refine xa_icmp_ne (tgt := 267) eL_jobs_251 (by decide) (by omega) (by omega) (fun c251 => ?_) (fun c251 => ?_)
                                  · exfalso; omega
                                  · refine xs_aload_0 eL_jobs_254 ?_
                                    refine g_X9_0 eL_jobs_255 lRL_10 ?_
                                    refine xs_iload_1 eL_jobs_258 ?_
                                    refine xa_bipush eL_jobs_259 (by decide) ?_
                                    refine xbi_W30 (mi' := mL_told) (y := yL_told) eL_jobs_261 (xw_4 lRL_171 wy_L_told) rfl ⟨wd_L_told, by decide, by decide⟩ (Nat.le_of_ble_eq_true rfl) rfl (wt_16 hB hV hT (show i < N by omega) ?_)
                                    refine xa_if_eq (tgt := 269) eL_jobs_264 (by decide) (by omega) (fun c264 => ?_) (fun c264 => ?_)
                                    · refine xs_iinc_1 eL_jobs_269 rfl ?_
                                      refine xa_goto (tgt := 2) eL_jobs_272 (by decide) ?_
                                      exact ih (i + 1) (by omega) (by omega) _ _ _ _ rfl rfl rfl rfl
                                    · exfalso; omega
                                · refine xa_iconst eL_jobs_246 ?_
                                  refine xa_goto (tgt := 251) eL_jobs_247 (by decide) ?_
                                  refine xa_icmp_ne (tgt := 267) eL_jobs_251 (by decide) (by omega) (by omega) (fun c251 => ?_) (fun c251 => ?_)
                                  · exfalso; omega
                                  · refine xs_aload_0 eL_jobs_254 ?_
                                    refine g_X9_0 eL_jobs_255 lRL_10 ?_
                                    refine xs_iload_1 eL_jobs_258 ?_
                                    refine xa_bipush eL_jobs_259 (by decide) ?_
                                    refine xbi_W30 (mi' := mL_told) (y := yL_told) eL_jobs_261 (xw_4 lRL_171 wy_L_told) rfl ⟨wd_L_told, by decide, by decide⟩ (Nat.le_of_ble_eq_true rfl) rfl (wt_16 hB hV hT (show i < N by omega) ?_)
                                    refine xa_if_eq (tgt := 269) eL_jobs_264 (by decide) (by omega) (fun c264 => ?_) (fun c264 => ?_)
                                    · refine xs_iinc_1 eL_jobs_269 rfl ?_
                                      refine xa_goto (tgt := 2) eL_jobs_272 (by decide) ?_
                                      exact ih (i + 1) (by omega) (by omega) _ _ _ _ rfl rfl rfl rfl
                                    · exfalso; omega
                              · refine xa_iconst eL_jobs_228 ?_
                                refine xa_goto (tgt := 233) eL_jobs_229 (by decide) ?_
                                refine xs_aload_0 eL_jobs_233 ?_
                                refine g_X9_0 eL_jobs_234 lRL_10 ?_
                                refine xs_iload_1 eL_jobs_237 ?_
                                refine xa_bipush eL_jobs_238 (by decide) ?_
                                refine xbi_W30 (mi' := mL_told) (y := yL_told) eL_jobs_240 (xw_4 lRL_171 wy_L_told) rfl ⟨wd_L_told, by decide, by decide⟩ (Nat.le_of_ble_eq_true rfl) rfl (wt_11 hB hV hT (show i < N by omega) ?_)
                                refine xa_if_ne (tgt := 250) eL_jobs_243 (by decide) (by omega) (fun c243 => ?_) (fun c243 => ?_)
                                · refine xa_iconst eL_jobs_250 ?_
                                  refine xa_icmp_ne (tgt := 267) eL_jobs_251 (by decide) (by omega) (by omega) (fun c251 => ?_) (fun c251 => ?_)
                                  · exfalso; omega
                                  · refine xs_aload_0 eL_jobs_254 ?_
                                    refine g_X9_0 eL_jobs_255 lRL_10 ?_
                                    refine xs_iload_1 eL_jobs_258 ?_
                                    refine xa_bipush eL_jobs_259 (by decide) ?_
                                    refine xbi_W30 (mi' := mL_told) (y := yL_told) eL_jobs_261 (xw_4 lRL_171 wy_L_told) rfl ⟨wd_L_told, by decide, by decide⟩ (Nat.le_of_ble_eq_true rfl) rfl (wt_16 hB hV hT (show i < N by omega) ?_)
                                    refine xa_if_eq (tgt := 269) eL_jobs_264 (by decide) (by omega) (fun c264 => ?_) (fun c264 => ?_)
                                    · refine xs_iinc_1 eL_jobs_269 rfl ?_
                                      refine xa_goto (tgt := 2) eL_jobs_272 (by decide) ?_
                                      exact ih (i + 1) (by omega) (by omega) _ _ _ _ rfl rfl rfl rfl
                                    · exfalso; omega
                                · refine xa_iconst eL_jobs_246 ?_
                                  refine xa_goto (tgt := 251) eL_jobs_247 (by decide) ?_
                                  refine xa_icmp_ne (tgt := 267) eL_jobs_251 (by decide) (by omega) (by omega) (fun c251 => ?_) (fun c251 => ?_)
                                  · exfalso; omega
                                  · refine xs_aload_0 eL_jobs_254 ?_
                                    refine g_X9_0 eL_jobs_255 lRL_10 ?_
                                    refine xs_iload_1 eL_jobs_258 ?_
                                    refine xa_bipush eL_jobs_259 (by decide) ?_
                                    refine xbi_W30 (mi' := mL_told) (y := yL_told) eL_jobs_261 (xw_4 lRL_171 wy_L_told) rfl ⟨wd_L_told, by decide, by decide⟩ (Nat.le_of_ble_eq_true rfl) rfl (wt_16 hB hV hT (show i < N by omega) ?_)
                                    refine xa_if_eq (tgt := 269) eL_jobs_264 (by decide) (by omega) (fun c264 => ?_) (fun c264 => ?_)
                                    · refine xs_iinc_1 eL_jobs_269 rfl ?_
                                      refine xa_goto (tgt := 2) eL_jobs_272 (by decide) ?_
                                      exact ih (i + 1) (by omega) (by omega) _ _ _ _ rfl rfl rfl rfl
                                    · exfalso; omega
                            · exfalso; omega
                · refine xa_iconst eL_jobs_165 ?_
                  refine xa_goto (tgt := 170) eL_jobs_166 (by decide) ?_
                  refine xs_iload_3 eL_jobs_170 ?_
                  refine xa_if_ge (tgt := 178) eL_jobs_171 (by decide) (by omega) (fun c171 => ?_) (fun c171 => ?_)
                  · refine xa_iconst eL_jobs_178 ?_
                    refine xa_icmp_ne (tgt := 213) eL_jobs_179 (by decide) (by omega) (by omega) (fun c179 => ?_) (fun c179 => ?_)
                    · exfalso; omega
                    · refine xs_iload_3 eL_jobs_182 ?_
                      refine xa_if_lt (tgt := 215) eL_jobs_183 (by decide) (by omega) (fun c183 => ?_) (fun c183 => ?_)
                      · refine xs_aload_0 eL_jobs_215 ?_
                        refine g_X9_0 eL_jobs_216 lRL_10 ?_
                        refine xs_iload_1 eL_jobs_219 ?_
                        refine xa_bipush eL_jobs_220 (by decide) ?_
                        refine xbi_W30 (mi' := mL_told) (y := yL_told) eL_jobs_222 (xw_4 lRL_171 wy_L_told) rfl ⟨wd_L_told, by decide, by decide⟩ (Nat.le_of_ble_eq_true rfl) rfl (wt_10 hB hV hT (show i < N by omega) ?_)
                        refine xa_if_ge (tgt := 232) eL_jobs_225 (by decide) (by omega) (fun c225 => ?_) (fun c225 => ?_)
                        · refine xa_iconst eL_jobs_232 ?_
                          refine xs_aload_0 eL_jobs_233 ?_
                          refine g_X9_0 eL_jobs_234 lRL_10 ?_
                          refine xs_iload_1 eL_jobs_237 ?_
                          refine xa_bipush eL_jobs_238 (by decide) ?_
                          refine xbi_W30 (mi' := mL_told) (y := yL_told) eL_jobs_240 (xw_4 lRL_171 wy_L_told) rfl ⟨wd_L_told, by decide, by decide⟩ (Nat.le_of_ble_eq_true rfl) rfl (wt_11 hB hV hT (show i < N by omega) ?_)
                          refine xa_if_ne (tgt := 250) eL_jobs_243 (by decide) (by omega) (fun c243 => ?_) (fun c243 => ?_)
                          · refine xa_iconst eL_jobs_250 ?_
                            refine xa_icmp_ne (tgt := 267) eL_jobs_251 (by decide) (by omega) (by omega) (fun c251 => ?_) (fun c251 => ?_)
                            · exfalso; omega
                            · refine xs_aload_0 eL_jobs_254 ?_
                              refine g_X9_0 eL_jobs_255 lRL_10 ?_
                              refine xs_iload_1 eL_jobs_258 ?_
                              refine xa_bipush eL_jobs_259 (by decide) ?_
                              refine xbi_W30 (mi' := mL_told) (y := yL_told) eL_jobs_261 (xw_4 lRL_171 wy_L_told) rfl ⟨wd_L_told, by decide, by decide⟩ (Nat.le_of_ble_eq_true rfl) rfl (wt_16 hB hV hT (show i < N by omega) ?_)
                              refine xa_if_eq (tgt := 269) eL_jobs_264 (by decide) (by omega) (fun c264 => ?_) (fun c264 => ?_)
                              · refine xs_iinc_1 eL_jobs_269 rfl ?_
                                refine xa_goto (tgt := 2) eL_jobs_272 (by decide) ?_
                                exact ih (i + 1) (by omega) (by omega) _ _ _ _ rfl rfl rfl rfl
                              · exfalso; omega
                          · refine xa_iconst eL_jobs_246 ?_
                            refine xa_goto (tgt := 251) eL_jobs_247 (by decide) ?_
                            refine xa_icmp_ne (tgt := 267) eL_jobs_251 (by decide) (by omega) (by omega) (fun c251 => ?_) (fun c251 => ?_)
                            · exfalso; omega
                            · refine xs_aload_0 eL_jobs_254 ?_
                              refine g_X9_0 eL_jobs_255 lRL_10 ?_
                              refine xs_iload_1 eL_jobs_258 ?_
                              refine xa_bipush eL_jobs_259 (by decide) ?_
                              refine xbi_W30 (mi' := mL_told) (y := yL_told) eL_jobs_261 (xw_4 lRL_171 wy_L_told) rfl ⟨wd_L_told, by decide, by decide⟩ (Nat.le_of_ble_eq_true rfl) rfl (wt_16 hB hV hT (show i < N by omega) ?_)
                              refine xa_if_eq (tgt := 269) eL_jobs_264 (by decide) (by omega) (fun c264 => ?_) (fun c264 => ?_)
                              · refine xs_iinc_1 eL_jobs_269 rfl ?_
                                refine xa_goto (tgt := 2) eL_jobs_272 (by decide) ?_
                                exact ih (i + 1) (by omega) (by omega) _ _ _ _ rfl rfl rfl rfl
                              · exfalso; omega
                        · refine xa_iconst eL_jobs_228 ?_
                          refine xa_goto (tgt := 233) eL_jobs_229 (by decide) ?_
                          refine xs_aload_0 eL_jobs_233 ?_
                          refine g_X9_0 eL_jobs_234 lRL_10 ?_
                          refine xs_iload_1 eL_jobs_237 ?_
                          refine xa_bipush eL_jobs_238 (by decide) ?_
                          refine xbi_W30 (mi' := mL_told) (y := yL_told) eL_jobs_240 (xw_4 lRL_171 wy_L_told) rfl ⟨wd_L_told, by decide, by decide⟩ (Nat.le_of_ble_eq_true rfl) rfl (wt_11 hB hV hT (show i < N by omega) ?_)
                          refine xa_if_ne (tgt := 250) eL_jobs_243 (by decide) (by omega) (fun c243 => ?_) (fun c243 => ?_)
                          · refine xa_iconst eL_jobs_250 ?_
                            refine xa_icmp_ne (tgt := 267) eL_jobs_251 (by decide) (by omega) (by omega) (fun c251 => ?_) (fun c251 => ?_)
                            · exfalso; omega
                            · refine xs_aload_0 eL_jobs_254 ?_
                              refine g_X9_0 eL_jobs_255 lRL_10 ?_
                              refine xs_iload_1 eL_jobs_258 ?_
                              refine xa_bipush eL_jobs_259 (by decide) ?_
                              refine xbi_W30 (mi' := mL_told) (y := yL_told) eL_jobs_261 (xw_4 lRL_171 wy_L_told) rfl ⟨wd_L_told, by decide, by decide⟩ (Nat.le_of_ble_eq_true rfl) rfl (wt_16 hB hV hT (show i < N by omega) ?_)
                              refine xa_if_eq (tgt := 269) eL_jobs_264 (by decide) (by omega) (fun c264 => ?_) (fun c264 => ?_)
                              · refine xs_iinc_1 eL_jobs_269 rfl ?_
                                refine xa_goto (tgt := 2) eL_jobs_272 (by decide) ?_
                                exact ih (i + 1) (by omega) (by omega) _ _ _ _ rfl rfl rfl rfl
                              · exfalso; omega
                          · refine xa_iconst eL_jobs_246 ?_
                            refine xa_goto (tgt := 251) eL_jobs_247 (by decide) ?_
                            refine xa_icmp_ne (tgt := 267) eL_jobs_251 (by decide) (by omega) (by omega) (fun c251 => ?_) (fun c251 => ?_)
                            · exfalso; omega
                            · refine xs_aload_0 eL_jobs_254 ?_
                              refine g_X9_0 eL_jobs_255 lRL_10 ?_
                              refine xs_iload_1 eL_jobs_258 ?_
                              refine xa_bipush eL_jobs_259 (by decide) ?_
                              refine xbi_W30 (mi' := mL_told) (y := yL_told) eL_jobs_261 (xw_4 lRL_171 wy_L_told) rfl ⟨wd_L_told, by decide, by decide⟩ (Nat.le_of_ble_eq_true rfl) rfl (wt_16 hB hV hT (show i < N by omega) ?_)
                              refine xa_if_eq (tgt := 269) eL_jobs_264 (by decide) (by omega) (fun c264 => ?_) (fun c264 => ?_)
                              · refine xs_iinc_1 eL_jobs_269 rfl ?_
                                refine xa_goto (tgt := 2) eL_jobs_272 (by decide) ?_
                                exact ih (i + 1) (by omega) (by omega) _ _ _ _ rfl rfl rfl rfl
                              · exfalso; omega
                      · refine xs_iload_3 eL_jobs_186 ?_
                        refine xs_iload_5 eL_jobs_187 ?_
                        refine xa_icmp_le (tgt := 213) eL_jobs_189 (by decide) (by omega) (by omega) (fun c189 => ?_) (fun c189 => ?_)
                        · exfalso; omega
                        · refine xs_iload_2 eL_jobs_192 ?_
                          refine xs_iload_3 eL_jobs_193 ?_
                          refine xs_iload_5 eL_jobs_194 ?_
                          refine xa_isub eL_jobs_196 ?_
                          refine xa_icmp_gt (tgt := 213) eL_jobs_197 (by decide) (by omega) (by omega) (fun c197 => ?_) (fun c197 => ?_)
                          · exfalso; omega
                          · refine xs_aload_0 eL_jobs_200 ?_
                            refine g_X9_0 eL_jobs_201 lRL_10 ?_
                            refine xs_iload_1 eL_jobs_204 ?_
                            refine xa_bipush eL_jobs_205 (by decide) ?_
                            refine xbi_W30 (mi' := mL_told) (y := yL_told) eL_jobs_207 (xw_4 lRL_171 wy_L_told) rfl ⟨wd_L_told, by decide, by decide⟩ (Nat.le_of_ble_eq_true rfl) rfl (wt_8 hB hV hT (show i < N by omega) ?_)
                            first | rw [if_pos ht] | rw [if_neg ht]
                            refine xa_if_ge (tgt := 215) eL_jobs_210 (by decide) (by omega) (fun c210 => ?_) (fun c210 => ?_)
                            · refine xs_aload_0 eL_jobs_215 ?_
                              refine g_X9_0 eL_jobs_216 lRL_10 ?_
                              refine xs_iload_1 eL_jobs_219 ?_
                              refine xa_bipush eL_jobs_220 (by decide) ?_
                              refine xbi_W30 (mi' := mL_told) (y := yL_told) eL_jobs_222 (xw_4 lRL_171 wy_L_told) rfl ⟨wd_L_told, by decide, by decide⟩ (Nat.le_of_ble_eq_true rfl) rfl (wt_10 hB hV hT (show i < N by omega) ?_)
                              refine xa_if_ge (tgt := 232) eL_jobs_225 (by decide) (by omega) (fun c225 => ?_) (fun c225 => ?_)
                              · refine xa_iconst eL_jobs_232 ?_
                                refine xs_aload_0 eL_jobs_233 ?_
                                refine g_X9_0 eL_jobs_234 lRL_10 ?_
                                refine xs_iload_1 eL_jobs_237 ?_
                                refine xa_bipush eL_jobs_238 (by decide) ?_
                                refine xbi_W30 (mi' := mL_told) (y := yL_told) eL_jobs_240 (xw_4 lRL_171 wy_L_told) rfl ⟨wd_L_told, by decide, by decide⟩ (Nat.le_of_ble_eq_true rfl) rfl (wt_11 hB hV hT (show i < N by omega) ?_)
                                refine xa_if_ne (tgt := 250) eL_jobs_243 (by decide) (by omega) (fun c243 => ?_) (fun c243 => ?_)
                                · refine xa_iconst eL_jobs_250 ?_
                                  refine xa_icmp_ne (tgt := 267) eL_jobs_251 (by decide) (by omega) (by omega) (fun c251 => ?_) (fun c251 => ?_)
                                  · exfalso; omega
                                  · refine xs_aload_0 eL_jobs_254 ?_
                                    refine g_X9_0 eL_jobs_255 lRL_10 ?_
                                    refine xs_iload_1 eL_jobs_258 ?_
                                    refine xa_bipush eL_jobs_259 (by decide) ?_
                                    refine xbi_W30 (mi' := mL_told) (y := yL_told) eL_jobs_261 (xw_4 lRL_171 wy_L_told) rfl ⟨wd_L_told, by decide, by decide⟩ (Nat.le_of_ble_eq_true rfl) rfl (wt_16 hB hV hT (show i < N by omega) ?_)
                                    refine xa_if_eq (tgt := 269) eL_jobs_264 (by decide) (by omega) (fun c264 => ?_) (fun c264 => ?_)
                                    · refine xs_iinc_1 eL_jobs_269 rfl ?_
                                      refine xa_goto (tgt := 2) eL_jobs_272 (by decide) ?_
                                      exact ih (i + 1) (by omega) (by omega) _ _ _ _ rfl rfl rfl rfl
                                    · exfalso; omega
                                · refine xa_iconst eL_jobs_246 ?_
                                  refine xa_goto (tgt := 251) eL_jobs_247 (by decide) ?_
                                  refine xa_icmp_ne (tgt := 267) eL_jobs_251 (by decide) (by omega) (by omega) (fun c251 => ?_) (fun c251 => ?_)
                                  · exfalso; omega
                                  · refine xs_aload_0 eL_jobs_254 ?_
                                    refine g_X9_0 eL_jobs_255 lRL_10 ?_
                                    refine xs_iload_1 eL_jobs_258 ?_
                                    refine xa_bipush eL_jobs_259 (by decide) ?_
                                    refine xbi_W30 (mi' := mL_told) (y := yL_told) eL_jobs_261 (xw_4 lRL_171 wy_L_told) rfl ⟨wd_L_told, by decide, by decide⟩ (Nat.le_of_ble_eq_true rfl) rfl (wt_16 hB hV hT (show i < N by omega) ?_)
                                    refine xa_if_eq (tgt := 269) eL_jobs_264 (by decide) (by omega) (fun c264 => ?_) (fun c264 => ?_)
                                    · refine xs_iinc_1 eL_jobs_269 rfl ?_
                                      refine xa_goto (tgt := 2) eL_jobs_272 (by decide) ?_
                                      exact ih (i + 1) (by omega) (by omega) _ _ _ _ rfl rfl rfl rfl
                                    · exfalso; omega
                              · refine xa_iconst eL_jobs_228 ?_
                                refine xa_goto (tgt := 233) eL_jobs_229 (by decide) ?_
                                refine xs_aload_0 eL_jobs_233 ?_
                                refine g_X9_0 eL_jobs_234 lRL_10 ?_
                                refine xs_iload_1 eL_jobs_237 ?_
                                refine xa_bipush eL_jobs_238 (by decide) ?_
                                refine xbi_W30 (mi' := mL_told) (y := yL_told) eL_jobs_240 (xw_4 lRL_171 wy_L_told) rfl ⟨wd_L_told, by decide, by decide⟩ (Nat.le_of_ble_eq_true rfl) rfl (wt_11 hB hV hT (show i < N by omega) ?_)
                                refine xa_if_ne (tgt := 250) eL_jobs_243 (by decide) (by omega) (fun c243 => ?_) (fun c243 => ?_)
                                · refine xa_iconst eL_jobs_250 ?_
                                  refine xa_icmp_ne (tgt := 267) eL_jobs_251 (by decide) (by omega) (by omega) (fun c251 => ?_) (fun c251 => ?_)
                                  · exfalso; omega
                                  · refine xs_aload_0 eL_jobs_254 ?_
                                    refine g_X9_0 eL_jobs_255 lRL_10 ?_
                                    refine xs_iload_1 eL_jobs_258 ?_
                                    refine xa_bipush eL_jobs_259 (by decide) ?_
                                    refine xbi_W30 (mi' := mL_told) (y := yL_told) eL_jobs_261 (xw_4 lRL_171 wy_L_told) rfl ⟨wd_L_told, by decide, by decide⟩ (Nat.le_of_ble_eq_true rfl) rfl (wt_16 hB hV hT (show i < N by omega) ?_)
                                    refine xa_if_eq (tgt := 269) eL_jobs_264 (by decide) (by omega) (fun c264 => ?_) (fun c264 => ?_)
                                    · refine xs_iinc_1 eL_jobs_269 rfl ?_
                                      refine xa_goto (tgt := 2) eL_jobs_272 (by decide) ?_
                                      exact ih (i + 1) (by omega) (by omega) _ _ _ _ rfl rfl rfl rfl
                                    · exfalso; omega
                                · refine xa_iconst eL_jobs_246 ?_
                                  refine xa_goto (tgt := 251) eL_jobs_247 (by decide) ?_
                                  refine xa_icmp_ne (tgt := 267) eL_jobs_251 (by decide) (by omega) (by omega) (fun c251 => ?_) (fun c251 => ?_)
                                  · exfalso; omega
                                  · refine xs_aload_0 eL_jobs_254 ?_
                                    refine g_X9_0 eL_jobs_255 lRL_10 ?_
                                    refine xs_iload_1 eL_jobs_258 ?_
                                    refine xa_bipush eL_jobs_259 (by decide) ?_
                                    refine xbi_W30 (mi' := mL_told) (y := yL_told) eL_jobs_261 (xw_4 lRL_171 wy_L_told) rfl ⟨wd_L_told, by decide, by decide⟩ (Nat.le_of_ble_eq_true rfl) rfl (wt_16 hB hV hT (show i < N by omega) ?_)
                                    refine xa_if_eq (tgt := 269) eL_jobs_264 (by decide) (by omega) (fun c264 => ?_) (fun c264 => ?_)
                                    · refine xs_iinc_1 eL_jobs_269 rfl ?_
                                      refine xa_goto (tgt := 2) eL_jobs_272 (by decide) ?_
                                      exact ih (i + 1) (by omega) (by omega) _ _ _ _ rfl rfl rfl rfl
                                    · exfalso; omega
                            · exfalso; omega
                  · refine xa_iconst eL_jobs_174 ?_
                    refine xa_goto (tgt := 179) eL_jobs_175 (by decide) ?_
                    refine xa_icmp_ne (tgt := 213) eL_jobs_179 (by decide) (by omega) (by omega) (fun c179 => ?_) (fun c179 => ?_)
                    · exfalso; omega
                    · refine xs_iload_3 eL_jobs_182 ?_
                      refine xa_if_lt (tgt := 215) eL_jobs_183 (by decide) (by omega) (fun c183 => ?_) (fun c183 => ?_)
                      · refine xs_aload_0 eL_jobs_215 ?_
                        refine g_X9_0 eL_jobs_216 lRL_10 ?_
                        refine xs_iload_1 eL_jobs_219 ?_
                        refine xa_bipush eL_jobs_220 (by decide) ?_
                        refine xbi_W30 (mi' := mL_told) (y := yL_told) eL_jobs_222 (xw_4 lRL_171 wy_L_told) rfl ⟨wd_L_told, by decide, by decide⟩ (Nat.le_of_ble_eq_true rfl) rfl (wt_10 hB hV hT (show i < N by omega) ?_)
                        refine xa_if_ge (tgt := 232) eL_jobs_225 (by decide) (by omega) (fun c225 => ?_) (fun c225 => ?_)
                        · refine xa_iconst eL_jobs_232 ?_
                          refine xs_aload_0 eL_jobs_233 ?_
                          refine g_X9_0 eL_jobs_234 lRL_10 ?_
                          refine xs_iload_1 eL_jobs_237 ?_
                          refine xa_bipush eL_jobs_238 (by decide) ?_
                          refine xbi_W30 (mi' := mL_told) (y := yL_told) eL_jobs_240 (xw_4 lRL_171 wy_L_told) rfl ⟨wd_L_told, by decide, by decide⟩ (Nat.le_of_ble_eq_true rfl) rfl (wt_11 hB hV hT (show i < N by omega) ?_)
                          refine xa_if_ne (tgt := 250) eL_jobs_243 (by decide) (by omega) (fun c243 => ?_) (fun c243 => ?_)
                          · refine xa_iconst eL_jobs_250 ?_
                            refine xa_icmp_ne (tgt := 267) eL_jobs_251 (by decide) (by omega) (by omega) (fun c251 => ?_) (fun c251 => ?_)
                            · exfalso; omega
                            · refine xs_aload_0 eL_jobs_254 ?_
                              refine g_X9_0 eL_jobs_255 lRL_10 ?_
                              refine xs_iload_1 eL_jobs_258 ?_
                              refine xa_bipush eL_jobs_259 (by decide) ?_
                              refine xbi_W30 (mi' := mL_told) (y := yL_told) eL_jobs_261 (xw_4 lRL_171 wy_L_told) rfl ⟨wd_L_told, by decide, by decide⟩ (Nat.le_of_ble_eq_true rfl) rfl (wt_16 hB hV hT (show i < N by omega) ?_)
                              refine xa_if_eq (tgt := 269) eL_jobs_264 (by decide) (by omega) (fun c264 => ?_) (fun c264 => ?_)
                              · refine xs_iinc_1 eL_jobs_269 rfl ?_
                                refine xa_goto (tgt := 2) eL_jobs_272 (by decide) ?_
                                exact ih (i + 1) (by omega) (by omega) _ _ _ _ rfl rfl rfl rfl
                              · exfalso; omega
                          · refine xa_iconst eL_jobs_246 ?_
                            refine xa_goto (tgt := 251) eL_jobs_247 (by decide) ?_
                            refine xa_icmp_ne (tgt := 267) eL_jobs_251 (by decide) (by omega) (by omega) (fun c251 => ?_) (fun c251 => ?_)
                            · exfalso; omega
                            · refine xs_aload_0 eL_jobs_254 ?_
                              refine g_X9_0 eL_jobs_255 lRL_10 ?_
                              refine xs_iload_1 eL_jobs_258 ?_
                              refine xa_bipush eL_jobs_259 (by decide) ?_
                              refine xbi_W30 (mi' := mL_told) (y := yL_told) eL_jobs_261 (xw_4 lRL_171 wy_L_told) rfl ⟨wd_L_told, by decide, by decide⟩ (Nat.le_of_ble_eq_true rfl) rfl (wt_16 hB hV hT (show i < N by omega) ?_)
                              refine xa_if_eq (tgt := 269) eL_jobs_264 (by decide) (by omega) (fun c264 => ?_) (fun c264 => ?_)
                              · refine xs_iinc_1 eL_jobs_269 rfl ?_
                                refine xa_goto (tgt := 2) eL_jobs_272 (by decide) ?_
                                exact ih (i + 1) (by omega) (by omega) _ _ _ _ rfl rfl rfl rfl
                              · exfalso; omega
                        · refine xa_iconst eL_jobs_228 ?_
                          refine xa_goto (tgt := 233) eL_jobs_229 (by decide) ?_
                          refine xs_aload_0 eL_jobs_233 ?_
                          refine g_X9_0 eL_jobs_234 lRL_10 ?_
                          refine xs_iload_1 eL_jobs_237 ?_
                          refine xa_bipush eL_jobs_238 (by decide) ?_
                          refine xbi_W30 (mi' := mL_told) (y := yL_told) eL_jobs_240 (xw_4 lRL_171 wy_L_told) rfl ⟨wd_L_told, by decide, by decide⟩ (Nat.le_of_ble_eq_true rfl) rfl (wt_11 hB hV hT (show i < N by omega) ?_)
                          refine xa_if_ne (tgt := 250) eL_jobs_243 (by decide) (by omega) (fun c243 => ?_) (fun c243 => ?_)
                          · refine xa_iconst eL_jobs_250 ?_
                            refine xa_icmp_ne (tgt := 267) eL_jobs_251 (by decide) (by omega) (by omega) (fun c251 => ?_) (fun c251 => ?_)
                            · exfalso; omega
                            · refine xs_aload_0 eL_jobs_254 ?_
                              refine g_X9_0 eL_jobs_255 lRL_10 ?_
                              refine xs_iload_1 eL_jobs_258 ?_
                              refine xa_bipush eL_jobs_259 (by decide) ?_
                              refine xbi_W30 (mi' := mL_told) (y := yL_told) eL_jobs_261 (xw_4 lRL_171 wy_L_told) rfl ⟨wd_L_told, by decide, by decide⟩ (Nat.le_of_ble_eq_true rfl) rfl (wt_16 hB hV hT (show i < N by omega) ?_)
                              refine xa_if_eq (tgt := 269) eL_jobs_264 (by decide) (by omega) (fun c264 => ?_) (fun c264 => ?_)
                              · refine xs_iinc_1 eL_jobs_269 rfl ?_
                                refine xa_goto (tgt := 2) eL_jobs_272 (by decide) ?_
                                exact ih (i + 1) (by omega) (by omega) _ _ _ _ rfl rfl rfl rfl
                              · exfalso; omega
                          · refine xa_iconst eL_jobs_246 ?_
                            refine xa_goto (tgt := 251) eL_jobs_247 (by decide) ?_
                            refine xa_icmp_ne (tgt := 267) eL_jobs_251 (by decide) (by omega) (by omega) (fun c251 => ?_) (fun c251 => ?_)
                            · exfalso; omega
                            · refine xs_aload_0 eL_jobs_254 ?_
                              refine g_X9_0 eL_jobs_255 lRL_10 ?_
                              refine xs_iload_1 eL_jobs_258 ?_
                              refine xa_bipush eL_jobs_259 (by decide) ?_
                              refine xbi_W30 (mi' := mL_told) (y := yL_told) eL_jobs_261 (xw_4 lRL_171 wy_L_told) rfl ⟨wd_L_told, by decide, by decide⟩ (Nat.le_of_ble_eq_true rfl) rfl (wt_16 hB hV hT (show i < N by omega) ?_)
                              refine xa_if_eq (tgt := 269) eL_jobs_264 (by decide) (by omega) (fun c264 => ?_) (fun c264 => ?_)
                              · refine xs_iinc_1 eL_jobs_269 rfl ?_
                                refine xa_goto (tgt := 2) eL_jobs_272 (by decide) ?_
                                exact ih (i + 1) (by omega) (by omega) _ _ _ _ rfl rfl rfl rfl
                              · exfalso; omega
                      · refine xs_iload_3 eL_jobs_186 ?_
                        refine xs_iload_5 eL_jobs_187 ?_
                        refine xa_icmp_le (tgt := 213) eL_jobs_189 (by decide) (by omega) (by omega) (fun c189 => ?_) (fun c189 => ?_)
                        · exfalso; omega
                        · refine xs_iload_2 eL_jobs_192 ?_
                          refine xs_iload_3 eL_jobs_193 ?_
                          refine xs_iload_5 eL_jobs_194 ?_
                          refine xa_isub eL_jobs_196 ?_
                          refine xa_icmp_gt (tgt := 213) eL_jobs_197 (by decide) (by omega) (by omega) (fun c197 => ?_) (fun c197 => ?_)
                          · exfalso; omega
                          · refine xs_aload_0 eL_jobs_200 ?_
                            refine g_X9_0 eL_jobs_201 lRL_10 ?_
                            refine xs_iload_1 eL_jobs_204 ?_
                            refine xa_bipush eL_jobs_205 (by decide) ?_
                            refine xbi_W30 (mi' := mL_told) (y := yL_told) eL_jobs_207 (xw_4 lRL_171 wy_L_told) rfl ⟨wd_L_told, by decide, by decide⟩ (Nat.le_of_ble_eq_true rfl) rfl (wt_8 hB hV hT (show i < N by omega) ?_)
                            first | rw [if_pos ht] | rw [if_neg ht]
                            refine xa_if_ge (tgt := 215) eL_jobs_210 (by decide) (by omega) (fun c210 => ?_) (fun c210 => ?_)
                            · refine xs_aload_0 eL_jobs_215 ?_
                              refine g_X9_0 eL_jobs_216 lRL_10 ?_
                              refine xs_iload_1 eL_jobs_219 ?_
                              refine xa_bipush eL_jobs_220 (by decide) ?_
                              refine xbi_W30 (mi' := mL_told) (y := yL_told) eL_jobs_222 (xw_4 lRL_171 wy_L_told) rfl ⟨wd_L_told, by decide, by decide⟩ (Nat.le_of_ble_eq_true rfl) rfl (wt_10 hB hV hT (show i < N by omega) ?_)
                              refine xa_if_ge (tgt := 232) eL_jobs_225 (by decide) (by omega) (fun c225 => ?_) (fun c225 => ?_)
                              · refine xa_iconst eL_jobs_232 ?_
                                refine xs_aload_0 eL_jobs_233 ?_
                                refine g_X9_0 eL_jobs_234 lRL_10 ?_
                                refine xs_iload_1 eL_jobs_237 ?_
                                refine xa_bipush eL_jobs_238 (by decide) ?_
                                refine xbi_W30 (mi' := mL_told) (y := yL_told) eL_jobs_240 (xw_4 lRL_171 wy_L_told) rfl ⟨wd_L_told, by decide, by decide⟩ (Nat.le_of_ble_eq_true rfl) rfl (wt_11 hB hV hT (show i < N by omega) ?_)
                                refine xa_if_ne (tgt := 250) eL_jobs_243 (by decide) (by omega) (fun c243 => ?_) (fun c243 => ?_)
                                · refine xa_iconst eL_jobs_250 ?_
                                  refine xa_icmp_ne (tgt := 267) eL_jobs_251 (by decide) (by omega) (by omega) (fun c251 => ?_) (fun c251 => ?_)
                                  · exfalso; omega
                                  · refine xs_aload_0 eL_jobs_254 ?_
                                    refine g_X9_0 eL_jobs_255 lRL_10 ?_
                                    refine xs_iload_1 eL_jobs_258 ?_
                                    refine xa_bipush eL_jobs_259 (by decide) ?_
                                    refine xbi_W30 (mi' := mL_told) (y := yL_told) eL_jobs_261 (xw_4 lRL_171 wy_L_told) rfl ⟨wd_L_told, by decide, by decide⟩ (Nat.le_of_ble_eq_true rfl) rfl (wt_16 hB hV hT (show i < N by omega) ?_)
                                    refine xa_if_eq (tgt := 269) eL_jobs_264 (by decide) (by omega) (fun c264 => ?_) (fun c264 => ?_)
                                    · refine xs_iinc_1 eL_jobs_269 rfl ?_
                                      refine xa_goto (tgt := 2) eL_jobs_272 (by decide) ?_
                                      exact ih (i + 1) (by omega) (by omega) _ _ _ _ rfl rfl rfl rfl
                                    · exfalso; omega
                                · refine xa_iconst eL_jobs_246 ?_
                                  refine xa_goto (tgt := 251) eL_jobs_247 (by decide) ?_
                                  refine xa_icmp_ne (tgt := 267) eL_jobs_251 (by decide) (by omega) (by omega) (fun c251 => ?_) (fun c251 => ?_)
                                  · exfalso; omega
                                  · refine xs_aload_0 eL_jobs_254 ?_
                                    refine g_X9_0 eL_jobs_255 lRL_10 ?_
                                    refine xs_iload_1 eL_jobs_258 ?_
                                    refine xa_bipush eL_jobs_259 (by decide) ?_
                                    refine xbi_W30 (mi' := mL_told) (y := yL_told) eL_jobs_261 (xw_4 lRL_171 wy_L_told) rfl ⟨wd_L_told, by decide, by decide⟩ (Nat.le_of_ble_eq_true rfl) rfl (wt_16 hB hV hT (show i < N by omega) ?_)
                                    refine xa_if_eq (tgt := 269) eL_jobs_264 (by decide) (by omega) (fun c264 => ?_) (fun c264 => ?_)
                                    · refine xs_iinc_1 eL_jobs_269 rfl ?_
                                      refine xa_goto (tgt := 2) eL_jobs_272 (by decide) ?_
                                      exact ih (i + 1) (by omega) (by omega) _ _ _ _ rfl rfl rfl rfl
                                    · exfalso; omega
                              · refine xa_iconst eL_jobs_228 ?_
                                refine xa_goto (tgt := 233) eL_jobs_229 (by decide) ?_
                                refine xs_aload_0 eL_jobs_233 ?_
                                refine g_X9_0 eL_jobs_234 lRL_10 ?_
                                refine xs_iload_1 eL_jobs_237 ?_
                                refine xa_bipush eL_jobs_238 (by decide) ?_
                                refine xbi_W30 (mi' := mL_told) (y := yL_told) eL_jobs_240 (xw_4 lRL_171 wy_L_told) rfl ⟨wd_L_told, by decide, by decide⟩ (Nat.le_of_ble_eq_true rfl) rfl (wt_11 hB hV hT (show i < N by omega) ?_)
                                refine xa_if_ne (tgt := 250) eL_jobs_243 (by decide) (by omega) (fun c243 => ?_) (fun c243 => ?_)
                                · refine xa_iconst eL_jobs_250 ?_
                                  refine xa_icmp_ne (tgt := 267) eL_jobs_251 (by decide) (by omega) (by omega) (fun c251 => ?_) (fun c251 => ?_)
                                  · exfalso; omega
                                  · refine xs_aload_0 eL_jobs_254 ?_
                                    refine g_X9_0 eL_jobs_255 lRL_10 ?_
                                    refine xs_iload_1 eL_jobs_258 ?_
                                    refine xa_bipush eL_jobs_259 (by decide) ?_
                                    refine xbi_W30 (mi' := mL_told) (y := yL_told) eL_jobs_261 (xw_4 lRL_171 wy_L_told) rfl ⟨wd_L_told, by decide, by decide⟩ (Nat.le_of_ble_eq_true rfl) rfl (wt_16 hB hV hT (show i < N by omega) ?_)
                                    refine xa_if_eq (tgt := 269) eL_jobs_264 (by decide) (by omega) (fun c264 => ?_) (fun c264 => ?_)
                                    · refine xs_iinc_1 eL_jobs_269 rfl ?_
                                      refine xa_goto (tgt := 2) eL_jobs_272 (by decide) ?_
                                      exact ih (i + 1) (by omega) (by omega) _ _ _ _ rfl rfl rfl rfl
                                    · exfalso; omega
                                · refine xa_iconst eL_jobs_246 ?_
                                  refine xa_goto (tgt := 251) eL_jobs_247 (by decide) ?_
                                  refine xa_icmp_ne (tgt := 267) eL_jobs_251 (by decide) (by omega) (by omega) (fun c251 => ?_) (fun c251 => ?_)
                                  · exfalso; omega
                                  · refine xs_aload_0 eL_jobs_254 ?_
                                    refine g_X9_0 eL_jobs_255 lRL_10 ?_
                                    refine xs_iload_1 eL_jobs_258 ?_
                                    refine xa_bipush eL_jobs_259 (by decide) ?_
                                    refine xbi_W30 (mi' := mL_told) (y := yL_told) eL_jobs_261 (xw_4 lRL_171 wy_L_told) rfl ⟨wd_L_told, by decide, by decide⟩ (Nat.le_of_ble_eq_true rfl) rfl (wt_16 hB hV hT (show i < N by omega) ?_)
                                    refine xa_if_eq (tgt := 269) eL_jobs_264 (by decide) (by omega) (fun c264 => ?_) (fun c264 => ?_)
                                    · refine xs_iinc_1 eL_jobs_269 rfl ?_
                                      refine xa_goto (tgt := 2) eL_jobs_272 (by decide) ?_
                                      exact ih (i + 1) (by omega) (by omega) _ _ _ _ rfl rfl rfl rfl
                                    · exfalso; omega
                            · exfalso; omega
        · refine xs_iload_4 eL_jobs_70 ?_
          refine xa_iconst eL_jobs_72 ?_
          refine xa_icmp_ne (tgt := 122) eL_jobs_73 (by decide) (by omega) (by omega) (fun c73 => ?_) (fun c73 => ?_)
          · exfalso; omega
          · refine xs_iload_2 eL_jobs_76 ?_
            refine xa_iconst eL_jobs_77 ?_
            refine xa_icmp_ne (tgt := 122) eL_jobs_78 (by decide) (by omega) (by omega) (fun c78 => ?_) (fun c78 => ?_)
            · exfalso; omega
            · refine xs_aload_0 eL_jobs_81 ?_
              refine g_X9_0 eL_jobs_82 lRL_10 ?_
              refine xs_iload_1 eL_jobs_85 ?_
              refine xa_bipush eL_jobs_86 (by decide) ?_
              refine xbi_W30 (mi' := mL_told) (y := yL_told) eL_jobs_88 (xw_4 lRL_171 wy_L_told) rfl ⟨wd_L_told, by decide, by decide⟩ (Nat.le_of_ble_eq_true rfl) rfl (wt_9 hB hV hT (show i < N by omega) ?_)
              refine xa_iconst eL_jobs_91 ?_
              refine xa_icmp_ne (tgt := 122) eL_jobs_92 (by decide) (by omega) (by omega) (fun c92 => ?_) (fun c92 => ?_)
              · exfalso; omega
              · refine xs_aload_0 eL_jobs_95 ?_
                refine g_X9_0 eL_jobs_96 lRL_10 ?_
                refine xs_iload_1 eL_jobs_99 ?_
                refine xa_bipush eL_jobs_100 (by decide) ?_
                refine xbi_W30 (mi' := mL_told) (y := yL_told) eL_jobs_102 (xw_4 lRL_171 wy_L_told) rfl ⟨wd_L_told, by decide, by decide⟩ (Nat.le_of_ble_eq_true rfl) rfl (wt_10 hB hV hT (show i < N by omega) ?_)
                refine xa_iconst eL_jobs_105 ?_
                refine xa_icmp_ne (tgt := 122) eL_jobs_106 (by decide) (by omega) (by omega) (fun c106 => ?_) (fun c106 => ?_)
                · exfalso; omega
                · refine xs_aload_0 eL_jobs_109 ?_
                  refine g_X9_0 eL_jobs_110 lRL_10 ?_
                  refine xs_iload_1 eL_jobs_113 ?_
                  refine xa_bipush eL_jobs_114 (by decide) ?_
                  refine xbi_W30 (mi' := mL_told) (y := yL_told) eL_jobs_116 (xw_4 lRL_171 wy_L_told) rfl ⟨wd_L_told, by decide, by decide⟩ (Nat.le_of_ble_eq_true rfl) rfl (wt_11 hB hV hT (show i < N by omega) ?_)
                  refine xa_if_eq (tgt := 269) eL_jobs_119 (by decide) (by omega) (fun c119 => ?_) (fun c119 => ?_)
                  · refine xs_iinc_1 eL_jobs_269 rfl ?_
                    refine xa_goto (tgt := 2) eL_jobs_272 (by decide) ?_
                    exact ih (i + 1) (by omega) (by omega) _ _ _ _ rfl rfl rfl rfl
                  · exfalso; omega
      · obtain ⟨r1, r2, r3, r4, r5, r6, r7, r8, r9, r10, r11, r12, r13, r14, r15, r16, r17, r18, r19⟩ := row_f hV g hE (show i < N by omega)
        refine xs_istore_2 eL_jobs_24 rfl ?_
        refine xs_aload_0 eL_jobs_25 ?_
        refine g_X9_0 eL_jobs_26 lRL_10 ?_
        refine xs_iload_1 eL_jobs_29 ?_
        refine xa_bipush eL_jobs_30 (by decide) ?_
        refine xbi_W30 (mi' := mL_told) (y := yL_told) eL_jobs_32 (xw_4 lRL_171 wy_L_told) rfl ⟨wd_L_told, by decide, by decide⟩ (Nat.le_of_ble_eq_true rfl) rfl (wt_7 hB hV hT (show i < N by omega) ?_)
        first | rw [if_pos ht] | rw [if_neg ht]
        refine xs_istore_3 eL_jobs_35 rfl ?_
        refine xs_aload_0 eL_jobs_36 ?_
        refine g_X9_0 eL_jobs_37 lRL_10 ?_
        refine xs_iload_1 eL_jobs_40 ?_
        refine xa_iconst eL_jobs_41 ?_
        refine xbi_W30 (mi' := mL_told) (y := yL_told) eL_jobs_42 (xw_4 lRL_171 wy_L_told) rfl ⟨wd_L_told, by decide, by decide⟩ (Nat.le_of_ble_eq_true rfl) rfl (wt_5 hB hV hT (show i < N by omega) ?_)
        refine xs_istore_4 eL_jobs_45 rfl ?_
        refine xs_aload_0 eL_jobs_47 ?_
        refine g_X9_0 eL_jobs_48 lRL_10 ?_
        refine xa_iconst eL_jobs_51 ?_
        refine xbi_W20 (mi' := mL_count) (y := yL_count) eL_jobs_52 (xw_4 lRL_146 wy_L_count) rfl ⟨wd_L_count, by decide, by decide⟩ (Nat.le_of_ble_eq_true rfl) rfl (wc_0 hB hV hT ?_)
        refine xs_istore_5 eL_jobs_55 rfl ?_
        refine xs_aload_0 eL_jobs_57 ?_
        refine g_X9_0 eL_jobs_58 lRL_10 ?_
        refine xs_iload_1 eL_jobs_61 ?_
        refine xa_iconst eL_jobs_62 ?_
        refine xbi_W30 (mi' := mL_told) (y := yL_told) eL_jobs_63 (xw_4 lRL_171 wy_L_told) rfl ⟨wd_L_told, by decide, by decide⟩ (Nat.le_of_ble_eq_true rfl) rfl (wt_0 hB hV hT (show i < N by omega) ?_)
        refine xa_iconst eL_jobs_66 ?_
        refine xa_icmp_ne (tgt := 124) eL_jobs_67 (by decide) (by omega) (by omega) (fun c67 => ?_) (fun c67 => ?_)
        · refine xs_iload_4 eL_jobs_124 ?_
          refine xs_iload_5 eL_jobs_126 ?_
          refine xa_icmp_lt (tgt := 213) eL_jobs_128 (by decide) (by omega) (by omega) (fun c128 => ?_) (fun c128 => ?_)
          · exfalso; omega
          · refine xs_iload_4 eL_jobs_131 ?_
            refine xs_iload_5 eL_jobs_133 ?_
            refine xs_aload_0 eL_jobs_135 ?_
            refine g_X9_0 eL_jobs_136 lRL_10 ?_
            refine xs_iload_1 eL_jobs_139 ?_
            refine xa_iconst eL_jobs_140 ?_
            refine xbi_W30 (mi' := mL_told) (y := yL_told) eL_jobs_141 (xw_4 lRL_171 wy_L_told) rfl ⟨wd_L_told, by decide, by decide⟩ (Nat.le_of_ble_eq_true rfl) rfl (wt_2 hB hV hT (show i < N by omega) ?_)
            refine xa_iadd eL_jobs_144 ?_
            refine xa_icmp_gt (tgt := 213) eL_jobs_145 (by decide) (by omega) (by omega) (fun c145 => ?_) (fun c145 => ?_)
            · exfalso; omega
            · refine xs_iload_2 eL_jobs_148 ?_
              refine xs_aload_0 eL_jobs_149 ?_
              refine g_X9_0 eL_jobs_150 lRL_10 ?_
              refine xs_iload_1 eL_jobs_153 ?_
              refine xa_iconst eL_jobs_154 ?_
              refine xbi_W30 (mi' := mL_told) (y := yL_told) eL_jobs_155 (xw_4 lRL_171 wy_L_told) rfl ⟨wd_L_told, by decide, by decide⟩ (Nat.le_of_ble_eq_true rfl) rfl (wt_3 hB hV hT (show i < N by omega) ?_)
              refine xa_icmp_gt (tgt := 213) eL_jobs_158 (by decide) (by omega) (by omega) (fun c158 => ?_) (fun c158 => ?_)
              · exfalso; omega
              · refine xs_iload_2 eL_jobs_161 ?_
                refine xa_if_ge (tgt := 169) eL_jobs_162 (by decide) (by omega) (fun c162 => ?_) (fun c162 => ?_)
                · refine xa_iconst eL_jobs_169 ?_
                  refine xs_iload_3 eL_jobs_170 ?_
                  refine xa_if_ge (tgt := 178) eL_jobs_171 (by decide) (by omega) (fun c171 => ?_) (fun c171 => ?_)
                  · refine xa_iconst eL_jobs_178 ?_
                    refine xa_icmp_ne (tgt := 213) eL_jobs_179 (by decide) (by omega) (by omega) (fun c179 => ?_) (fun c179 => ?_)
                    · exfalso; omega
                    · refine xs_iload_3 eL_jobs_182 ?_
                      refine xa_if_lt (tgt := 215) eL_jobs_183 (by decide) (by omega) (fun c183 => ?_) (fun c183 => ?_)
                      · refine xs_aload_0 eL_jobs_215 ?_
                        refine g_X9_0 eL_jobs_216 lRL_10 ?_
                        refine xs_iload_1 eL_jobs_219 ?_
                        refine xa_bipush eL_jobs_220 (by decide) ?_
                        refine xbi_W30 (mi' := mL_told) (y := yL_told) eL_jobs_222 (xw_4 lRL_171 wy_L_told) rfl ⟨wd_L_told, by decide, by decide⟩ (Nat.le_of_ble_eq_true rfl) rfl (wt_10 hB hV hT (show i < N by omega) ?_)
                        refine xa_if_ge (tgt := 232) eL_jobs_225 (by decide) (by omega) (fun c225 => ?_) (fun c225 => ?_)
                        · refine xa_iconst eL_jobs_232 ?_
                          refine xs_aload_0 eL_jobs_233 ?_
                          refine g_X9_0 eL_jobs_234 lRL_10 ?_
                          refine xs_iload_1 eL_jobs_237 ?_
                          refine xa_bipush eL_jobs_238 (by decide) ?_
                          refine xbi_W30 (mi' := mL_told) (y := yL_told) eL_jobs_240 (xw_4 lRL_171 wy_L_told) rfl ⟨wd_L_told, by decide, by decide⟩ (Nat.le_of_ble_eq_true rfl) rfl (wt_11 hB hV hT (show i < N by omega) ?_)
                          refine xa_if_ne (tgt := 250) eL_jobs_243 (by decide) (by omega) (fun c243 => ?_) (fun c243 => ?_)
                          · refine xa_iconst eL_jobs_250 ?_
                            refine xa_icmp_ne (tgt := 267) eL_jobs_251 (by decide) (by omega) (by omega) (fun c251 => ?_) (fun c251 => ?_)
                            · exfalso; omega
                            · refine xs_aload_0 eL_jobs_254 ?_
                              refine g_X9_0 eL_jobs_255 lRL_10 ?_
                              refine xs_iload_1 eL_jobs_258 ?_
                              refine xa_bipush eL_jobs_259 (by decide) ?_
                              refine xbi_W30 (mi' := mL_told) (y := yL_told) eL_jobs_261 (xw_4 lRL_171 wy_L_told) rfl ⟨wd_L_told, by decide, by decide⟩ (Nat.le_of_ble_eq_true rfl) rfl (wt_16 hB hV hT (show i < N by omega) ?_)
                              refine xa_if_eq (tgt := 269) eL_jobs_264 (by decide) (by omega) (fun c264 => ?_) (fun c264 => ?_)
                              · refine xs_iinc_1 eL_jobs_269 rfl ?_
                                refine xa_goto (tgt := 2) eL_jobs_272 (by decide) ?_
                                exact ih (i + 1) (by omega) (by omega) _ _ _ _ rfl rfl rfl rfl
                              · exfalso; omega
                          · refine xa_iconst eL_jobs_246 ?_
                            refine xa_goto (tgt := 251) eL_jobs_247 (by decide) ?_
                            refine xa_icmp_ne (tgt := 267) eL_jobs_251 (by decide) (by omega) (by omega) (fun c251 => ?_) (fun c251 => ?_)
                            · exfalso; omega
                            · refine xs_aload_0 eL_jobs_254 ?_
                              refine g_X9_0 eL_jobs_255 lRL_10 ?_
                              refine xs_iload_1 eL_jobs_258 ?_
                              refine xa_bipush eL_jobs_259 (by decide) ?_
                              refine xbi_W30 (mi' := mL_told) (y := yL_told) eL_jobs_261 (xw_4 lRL_171 wy_L_told) rfl ⟨wd_L_told, by decide, by decide⟩ (Nat.le_of_ble_eq_true rfl) rfl (wt_16 hB hV hT (show i < N by omega) ?_)
                              refine xa_if_eq (tgt := 269) eL_jobs_264 (by decide) (by omega) (fun c264 => ?_) (fun c264 => ?_)
                              · refine xs_iinc_1 eL_jobs_269 rfl ?_
                                refine xa_goto (tgt := 2) eL_jobs_272 (by decide) ?_
                                exact ih (i + 1) (by omega) (by omega) _ _ _ _ rfl rfl rfl rfl
                              · exfalso; omega
                        · refine xa_iconst eL_jobs_228 ?_
                          refine xa_goto (tgt := 233) eL_jobs_229 (by decide) ?_
                          refine xs_aload_0 eL_jobs_233 ?_
                          refine g_X9_0 eL_jobs_234 lRL_10 ?_
                          refine xs_iload_1 eL_jobs_237 ?_
                          refine xa_bipush eL_jobs_238 (by decide) ?_
                          refine xbi_W30 (mi' := mL_told) (y := yL_told) eL_jobs_240 (xw_4 lRL_171 wy_L_told) rfl ⟨wd_L_told, by decide, by decide⟩ (Nat.le_of_ble_eq_true rfl) rfl (wt_11 hB hV hT (show i < N by omega) ?_)
                          refine xa_if_ne (tgt := 250) eL_jobs_243 (by decide) (by omega) (fun c243 => ?_) (fun c243 => ?_)
                          · refine xa_iconst eL_jobs_250 ?_
                            refine xa_icmp_ne (tgt := 267) eL_jobs_251 (by decide) (by omega) (by omega) (fun c251 => ?_) (fun c251 => ?_)
                            · exfalso; omega
                            · refine xs_aload_0 eL_jobs_254 ?_
                              refine g_X9_0 eL_jobs_255 lRL_10 ?_
                              refine xs_iload_1 eL_jobs_258 ?_
                              refine xa_bipush eL_jobs_259 (by decide) ?_
                              refine xbi_W30 (mi' := mL_told) (y := yL_told) eL_jobs_261 (xw_4 lRL_171 wy_L_told) rfl ⟨wd_L_told, by decide, by decide⟩ (Nat.le_of_ble_eq_true rfl) rfl (wt_16 hB hV hT (show i < N by omega) ?_)
                              refine xa_if_eq (tgt := 269) eL_jobs_264 (by decide) (by omega) (fun c264 => ?_) (fun c264 => ?_)
                              · refine xs_iinc_1 eL_jobs_269 rfl ?_
                                refine xa_goto (tgt := 2) eL_jobs_272 (by decide) ?_
                                exact ih (i + 1) (by omega) (by omega) _ _ _ _ rfl rfl rfl rfl
                              · exfalso; omega
                          · refine xa_iconst eL_jobs_246 ?_
                            refine xa_goto (tgt := 251) eL_jobs_247 (by decide) ?_
                            refine xa_icmp_ne (tgt := 267) eL_jobs_251 (by decide) (by omega) (by omega) (fun c251 => ?_) (fun c251 => ?_)
                            · exfalso; omega
                            · refine xs_aload_0 eL_jobs_254 ?_
                              refine g_X9_0 eL_jobs_255 lRL_10 ?_
                              refine xs_iload_1 eL_jobs_258 ?_
                              refine xa_bipush eL_jobs_259 (by decide) ?_
                              refine xbi_W30 (mi' := mL_told) (y := yL_told) eL_jobs_261 (xw_4 lRL_171 wy_L_told) rfl ⟨wd_L_told, by decide, by decide⟩ (Nat.le_of_ble_eq_true rfl) rfl (wt_16 hB hV hT (show i < N by omega) ?_)
                              refine xa_if_eq (tgt := 269) eL_jobs_264 (by decide) (by omega) (fun c264 => ?_) (fun c264 => ?_)
                              · refine xs_iinc_1 eL_jobs_269 rfl ?_
                                refine xa_goto (tgt := 2) eL_jobs_272 (by decide) ?_
                                exact ih (i + 1) (by omega) (by omega) _ _ _ _ rfl rfl rfl rfl
                              · exfalso; omega
                      · refine xs_iload_3 eL_jobs_186 ?_
                        refine xs_iload_5 eL_jobs_187 ?_
                        refine xa_icmp_le (tgt := 213) eL_jobs_189 (by decide) (by omega) (by omega) (fun c189 => ?_) (fun c189 => ?_)
                        · exfalso; omega
                        · refine xs_iload_2 eL_jobs_192 ?_
                          refine xs_iload_3 eL_jobs_193 ?_
                          refine xs_iload_5 eL_jobs_194 ?_
                          refine xa_isub eL_jobs_196 ?_
                          refine xa_icmp_gt (tgt := 213) eL_jobs_197 (by decide) (by omega) (by omega) (fun c197 => ?_) (fun c197 => ?_)
                          · exfalso; omega
                          · refine xs_aload_0 eL_jobs_200 ?_
                            refine g_X9_0 eL_jobs_201 lRL_10 ?_
                            refine xs_iload_1 eL_jobs_204 ?_
                            refine xa_bipush eL_jobs_205 (by decide) ?_
                            refine xbi_W30 (mi' := mL_told) (y := yL_told) eL_jobs_207 (xw_4 lRL_171 wy_L_told) rfl ⟨wd_L_told, by decide, by decide⟩ (Nat.le_of_ble_eq_true rfl) rfl (wt_8 hB hV hT (show i < N by omega) ?_)
                            first | rw [if_pos ht] | rw [if_neg ht]
                            refine xa_if_ge (tgt := 215) eL_jobs_210 (by decide) (by omega) (fun c210 => ?_) (fun c210 => ?_)
                            · refine xs_aload_0 eL_jobs_215 ?_
                              refine g_X9_0 eL_jobs_216 lRL_10 ?_
                              refine xs_iload_1 eL_jobs_219 ?_
                              refine xa_bipush eL_jobs_220 (by decide) ?_
                              refine xbi_W30 (mi' := mL_told) (y := yL_told) eL_jobs_222 (xw_4 lRL_171 wy_L_told) rfl ⟨wd_L_told, by decide, by decide⟩ (Nat.le_of_ble_eq_true rfl) rfl (wt_10 hB hV hT (show i < N by omega) ?_)
                              refine xa_if_ge (tgt := 232) eL_jobs_225 (by decide) (by omega) (fun c225 => ?_) (fun c225 => ?_)
                              · refine xa_iconst eL_jobs_232 ?_
                                refine xs_aload_0 eL_jobs_233 ?_
                                refine g_X9_0 eL_jobs_234 lRL_10 ?_
                                refine xs_iload_1 eL_jobs_237 ?_
                                refine xa_bipush eL_jobs_238 (by decide) ?_
                                refine xbi_W30 (mi' := mL_told) (y := yL_told) eL_jobs_240 (xw_4 lRL_171 wy_L_told) rfl ⟨wd_L_told, by decide, by decide⟩ (Nat.le_of_ble_eq_true rfl) rfl (wt_11 hB hV hT (show i < N by omega) ?_)
                                refine xa_if_ne (tgt := 250) eL_jobs_243 (by decide) (by omega) (fun c243 => ?_) (fun c243 => ?_)
                                · refine xa_iconst eL_jobs_250 ?_
                                  refine xa_icmp_ne (tgt := 267) eL_jobs_251 (by decide) (by omega) (by omega) (fun c251 => ?_) (fun c251 => ?_)
                                  · exfalso; omega
                                  · refine xs_aload_0 eL_jobs_254 ?_
                                    refine g_X9_0 eL_jobs_255 lRL_10 ?_
                                    refine xs_iload_1 eL_jobs_258 ?_
                                    refine xa_bipush eL_jobs_259 (by decide) ?_
                                    refine xbi_W30 (mi' := mL_told) (y := yL_told) eL_jobs_261 (xw_4 lRL_171 wy_L_told) rfl ⟨wd_L_told, by decide, by decide⟩ (Nat.le_of_ble_eq_true rfl) rfl (wt_16 hB hV hT (show i < N by omega) ?_)
                                    refine xa_if_eq (tgt := 269) eL_jobs_264 (by decide) (by omega) (fun c264 => ?_) (fun c264 => ?_)
                                    · refine xs_iinc_1 eL_jobs_269 rfl ?_
                                      refine xa_goto (tgt := 2) eL_jobs_272 (by decide) ?_
                                      exact ih (i + 1) (by omega) (by omega) _ _ _ _ rfl rfl rfl rfl
                                    · exfalso; omega
                                · refine xa_iconst eL_jobs_246 ?_
                                  refine xa_goto (tgt := 251) eL_jobs_247 (by decide) ?_
                                  refine xa_icmp_ne (tgt := 267) eL_jobs_251 (by decide) (by omega) (by omega) (fun c251 => ?_) (fun c251 => ?_)
                                  · exfalso; omega
                                  · refine xs_aload_0 eL_jobs_254 ?_
                                    refine g_X9_0 eL_jobs_255 lRL_10 ?_
                                    refine xs_iload_1 eL_jobs_258 ?_
                                    refine xa_bipush eL_jobs_259 (by decide) ?_
                                    refine xbi_W30 (mi' := mL_told) (y := yL_told) eL_jobs_261 (xw_4 lRL_171 wy_L_told) rfl ⟨wd_L_told, by decide, by decide⟩ (Nat.le_of_ble_eq_true rfl) rfl (wt_16 hB hV hT (show i < N by omega) ?_)
                                    refine xa_if_eq (tgt := 269) eL_jobs_264 (by decide) (by omega) (fun c264 => ?_) (fun c264 => ?_)
                                    · refine xs_iinc_1 eL_jobs_269 rfl ?_
                                      refine xa_goto (tgt := 2) eL_jobs_272 (by decide) ?_
                                      exact ih (i + 1) (by omega) (by omega) _ _ _ _ rfl rfl rfl rfl
                                    · exfalso; omega
                              · refine xa_iconst eL_jobs_228 ?_
                                refine xa_goto (tgt := 233) eL_jobs_229 (by decide) ?_
                                refine xs_aload_0 eL_jobs_233 ?_
                                refine g_X9_0 eL_jobs_234 lRL_10 ?_
                                refine xs_iload_1 eL_jobs_237 ?_
                                refine xa_bipush eL_jobs_238 (by decide) ?_
                                refine xbi_W30 (mi' := mL_told) (y := yL_told) eL_jobs_240 (xw_4 lRL_171 wy_L_told) rfl ⟨wd_L_told, by decide, by decide⟩ (Nat.le_of_ble_eq_true rfl) rfl (wt_11 hB hV hT (show i < N by omega) ?_)
                                refine xa_if_ne (tgt := 250) eL_jobs_243 (by decide) (by omega) (fun c243 => ?_) (fun c243 => ?_)
                                · refine xa_iconst eL_jobs_250 ?_
                                  refine xa_icmp_ne (tgt := 267) eL_jobs_251 (by decide) (by omega) (by omega) (fun c251 => ?_) (fun c251 => ?_)
                                  · exfalso; omega
                                  · refine xs_aload_0 eL_jobs_254 ?_
                                    refine g_X9_0 eL_jobs_255 lRL_10 ?_
                                    refine xs_iload_1 eL_jobs_258 ?_
                                    refine xa_bipush eL_jobs_259 (by decide) ?_
                                    refine xbi_W30 (mi' := mL_told) (y := yL_told) eL_jobs_261 (xw_4 lRL_171 wy_L_told) rfl ⟨wd_L_told, by decide, by decide⟩ (Nat.le_of_ble_eq_true rfl) rfl (wt_16 hB hV hT (show i < N by omega) ?_)
                                    refine xa_if_eq (tgt := 269) eL_jobs_264 (by decide) (by omega) (fun c264 => ?_) (fun c264 => ?_)
                                    · refine xs_iinc_1 eL_jobs_269 rfl ?_
                                      refine xa_goto (tgt := 2) eL_jobs_272 (by decide) ?_
                                      exact ih (i + 1) (by omega) (by omega) _ _ _ _ rfl rfl rfl rfl
                                    · exfalso; omega
                                · refine xa_iconst eL_jobs_246 ?_
                                  refine xa_goto (tgt := 251) eL_jobs_247 (by decide) ?_
                                  refine xa_icmp_ne (tgt := 267) eL_jobs_251 (by decide) (by omega) (by omega) (fun c251 => ?_) (fun c251 => ?_)
                                  · exfalso; omega
                                  · refine xs_aload_0 eL_jobs_254 ?_
                                    refine g_X9_0 eL_jobs_255 lRL_10 ?_
                                    refine xs_iload_1 eL_jobs_258 ?_
                                    refine xa_bipush eL_jobs_259 (by decide) ?_
                                    refine xbi_W30 (mi' := mL_told) (y := yL_told) eL_jobs_261 (xw_4 lRL_171 wy_L_told) rfl ⟨wd_L_told, by decide, by decide⟩ (Nat.le_of_ble_eq_true rfl) rfl (wt_16 hB hV hT (show i < N by omega) ?_)
                                    refine xa_if_eq (tgt := 269) eL_jobs_264 (by decide) (by omega) (fun c264 => ?_) (fun c264 => ?_)
                                    · refine xs_iinc_1 eL_jobs_269 rfl ?_
                                      refine xa_goto (tgt := 2) eL_jobs_272 (by decide) ?_
                                      exact ih (i + 1) (by omega) (by omega) _ _ _ _ rfl rfl rfl rfl
                                    · exfalso; omega
                            · exfalso; omega
                  · refine xa_iconst eL_jobs_174 ?_
                    refine xa_goto (tgt := 179) eL_jobs_175 (by decide) ?_
                    refine xa_icmp_ne (tgt := 213) eL_jobs_179 (by decide) (by omega) (by omega) (fun c179 => ?_) (fun c179 => ?_)
                    · exfalso; omega
                    · refine xs_iload_3 eL_jobs_182 ?_
                      refine xa_if_lt (tgt := 215) eL_jobs_183 (by decide) (by omega) (fun c183 => ?_) (fun c183 => ?_)
                      · refine xs_aload_0 eL_jobs_215 ?_
                        refine g_X9_0 eL_jobs_216 lRL_10 ?_
                        refine xs_iload_1 eL_jobs_219 ?_
                        refine xa_bipush eL_jobs_220 (by decide) ?_
                        refine xbi_W30 (mi' := mL_told) (y := yL_told) eL_jobs_222 (xw_4 lRL_171 wy_L_told) rfl ⟨wd_L_told, by decide, by decide⟩ (Nat.le_of_ble_eq_true rfl) rfl (wt_10 hB hV hT (show i < N by omega) ?_)
                        refine xa_if_ge (tgt := 232) eL_jobs_225 (by decide) (by omega) (fun c225 => ?_) (fun c225 => ?_)
                        · refine xa_iconst eL_jobs_232 ?_
                          refine xs_aload_0 eL_jobs_233 ?_
                          refine g_X9_0 eL_jobs_234 lRL_10 ?_
                          refine xs_iload_1 eL_jobs_237 ?_
                          refine xa_bipush eL_jobs_238 (by decide) ?_
                          refine xbi_W30 (mi' := mL_told) (y := yL_told) eL_jobs_240 (xw_4 lRL_171 wy_L_told) rfl ⟨wd_L_told, by decide, by decide⟩ (Nat.le_of_ble_eq_true rfl) rfl (wt_11 hB hV hT (show i < N by omega) ?_)
                          refine xa_if_ne (tgt := 250) eL_jobs_243 (by decide) (by omega) (fun c243 => ?_) (fun c243 => ?_)
                          · refine xa_iconst eL_jobs_250 ?_
                            refine xa_icmp_ne (tgt := 267) eL_jobs_251 (by decide) (by omega) (by omega) (fun c251 => ?_) (fun c251 => ?_)
                            · exfalso; omega
                            · refine xs_aload_0 eL_jobs_254 ?_
                              refine g_X9_0 eL_jobs_255 lRL_10 ?_
                              refine xs_iload_1 eL_jobs_258 ?_
                              refine xa_bipush eL_jobs_259 (by decide) ?_
                              refine xbi_W30 (mi' := mL_told) (y := yL_told) eL_jobs_261 (xw_4 lRL_171 wy_L_told) rfl ⟨wd_L_told, by decide, by decide⟩ (Nat.le_of_ble_eq_true rfl) rfl (wt_16 hB hV hT (show i < N by omega) ?_)
                              refine xa_if_eq (tgt := 269) eL_jobs_264 (by decide) (by omega) (fun c264 => ?_) (fun c264 => ?_)
                              · refine xs_iinc_1 eL_jobs_269 rfl ?_
                                refine xa_goto (tgt := 2) eL_jobs_272 (by decide) ?_
                                exact ih (i + 1) (by omega) (by omega) _ _ _ _ rfl rfl rfl rfl
                              · exfalso; omega
                          · refine xa_iconst eL_jobs_246 ?_
                            refine xa_goto (tgt := 251) eL_jobs_247 (by decide) ?_
                            refine xa_icmp_ne (tgt := 267) eL_jobs_251 (by decide) (by omega) (by omega) (fun c251 => ?_) (fun c251 => ?_)
                            · exfalso; omega
                            · refine xs_aload_0 eL_jobs_254 ?_
                              refine g_X9_0 eL_jobs_255 lRL_10 ?_
                              refine xs_iload_1 eL_jobs_258 ?_
                              refine xa_bipush eL_jobs_259 (by decide) ?_
                              refine xbi_W30 (mi' := mL_told) (y := yL_told) eL_jobs_261 (xw_4 lRL_171 wy_L_told) rfl ⟨wd_L_told, by decide, by decide⟩ (Nat.le_of_ble_eq_true rfl) rfl (wt_16 hB hV hT (show i < N by omega) ?_)
                              refine xa_if_eq (tgt := 269) eL_jobs_264 (by decide) (by omega) (fun c264 => ?_) (fun c264 => ?_)
                              · refine xs_iinc_1 eL_jobs_269 rfl ?_
                                refine xa_goto (tgt := 2) eL_jobs_272 (by decide) ?_
                                exact ih (i + 1) (by omega) (by omega) _ _ _ _ rfl rfl rfl rfl
                              · exfalso; omega
                        · refine xa_iconst eL_jobs_228 ?_
                          refine xa_goto (tgt := 233) eL_jobs_229 (by decide) ?_
                          refine xs_aload_0 eL_jobs_233 ?_
                          refine g_X9_0 eL_jobs_234 lRL_10 ?_
                          refine xs_iload_1 eL_jobs_237 ?_
                          refine xa_bipush eL_jobs_238 (by decide) ?_
                          refine xbi_W30 (mi' := mL_told) (y := yL_told) eL_jobs_240 (xw_4 lRL_171 wy_L_told) rfl ⟨wd_L_told, by decide, by decide⟩ (Nat.le_of_ble_eq_true rfl) rfl (wt_11 hB hV hT (show i < N by omega) ?_)
                          refine xa_if_ne (tgt := 250) eL_jobs_243 (by decide) (by omega) (fun c243 => ?_) (fun c243 => ?_)
                          · refine xa_iconst eL_jobs_250 ?_
                            refine xa_icmp_ne (tgt := 267) eL_jobs_251 (by decide) (by omega) (by omega) (fun c251 => ?_) (fun c251 => ?_)
                            · exfalso; omega
                            · refine xs_aload_0 eL_jobs_254 ?_
                              refine g_X9_0 eL_jobs_255 lRL_10 ?_
                              refine xs_iload_1 eL_jobs_258 ?_
                              refine xa_bipush eL_jobs_259 (by decide) ?_
                              refine xbi_W30 (mi' := mL_told) (y := yL_told) eL_jobs_261 (xw_4 lRL_171 wy_L_told) rfl ⟨wd_L_told, by decide, by decide⟩ (Nat.le_of_ble_eq_true rfl) rfl (wt_16 hB hV hT (show i < N by omega) ?_)
                              refine xa_if_eq (tgt := 269) eL_jobs_264 (by decide) (by omega) (fun c264 => ?_) (fun c264 => ?_)
                              · refine xs_iinc_1 eL_jobs_269 rfl ?_
                                refine xa_goto (tgt := 2) eL_jobs_272 (by decide) ?_
                                exact ih (i + 1) (by omega) (by omega) _ _ _ _ rfl rfl rfl rfl
                              · exfalso; omega
                          · refine xa_iconst eL_jobs_246 ?_
                            refine xa_goto (tgt := 251) eL_jobs_247 (by decide) ?_
                            refine xa_icmp_ne (tgt := 267) eL_jobs_251 (by decide) (by omega) (by omega) (fun c251 => ?_) (fun c251 => ?_)
                            · exfalso; omega
                            · refine xs_aload_0 eL_jobs_254 ?_
                              refine g_X9_0 eL_jobs_255 lRL_10 ?_
                              refine xs_iload_1 eL_jobs_258 ?_
                              refine xa_bipush eL_jobs_259 (by decide) ?_
                              refine xbi_W30 (mi' := mL_told) (y := yL_told) eL_jobs_261 (xw_4 lRL_171 wy_L_told) rfl ⟨wd_L_told, by decide, by decide⟩ (Nat.le_of_ble_eq_true rfl) rfl (wt_16 hB hV hT (show i < N by omega) ?_)
                              refine xa_if_eq (tgt := 269) eL_jobs_264 (by decide) (by omega) (fun c264 => ?_) (fun c264 => ?_)
                              · refine xs_iinc_1 eL_jobs_269 rfl ?_
                                refine xa_goto (tgt := 2) eL_jobs_272 (by decide) ?_
                                exact ih (i + 1) (by omega) (by omega) _ _ _ _ rfl rfl rfl rfl
                              · exfalso; omega
                      · refine xs_iload_3 eL_jobs_186 ?_
                        refine xs_iload_5 eL_jobs_187 ?_
                        refine xa_icmp_le (tgt := 213) eL_jobs_189 (by decide) (by omega) (by omega) (fun c189 => ?_) (fun c189 => ?_)
                        · exfalso; omega
                        · refine xs_iload_2 eL_jobs_192 ?_
                          refine xs_iload_3 eL_jobs_193 ?_
                          refine xs_iload_5 eL_jobs_194 ?_
                          refine xa_isub eL_jobs_196 ?_
                          refine xa_icmp_gt (tgt := 213) eL_jobs_197 (by decide) (by omega) (by omega) (fun c197 => ?_) (fun c197 => ?_)
                          · exfalso; omega
                          · refine xs_aload_0 eL_jobs_200 ?_
                            refine g_X9_0 eL_jobs_201 lRL_10 ?_
                            refine xs_iload_1 eL_jobs_204 ?_
                            refine xa_bipush eL_jobs_205 (by decide) ?_
                            refine xbi_W30 (mi' := mL_told) (y := yL_told) eL_jobs_207 (xw_4 lRL_171 wy_L_told) rfl ⟨wd_L_told, by decide, by decide⟩ (Nat.le_of_ble_eq_true rfl) rfl (wt_8 hB hV hT (show i < N by omega) ?_)
                            first | rw [if_pos ht] | rw [if_neg ht]
                            refine xa_if_ge (tgt := 215) eL_jobs_210 (by decide) (by omega) (fun c210 => ?_) (fun c210 => ?_)
                            · refine xs_aload_0 eL_jobs_215 ?_
                              refine g_X9_0 eL_jobs_216 lRL_10 ?_
                              refine xs_iload_1 eL_jobs_219 ?_
                              refine xa_bipush eL_jobs_220 (by decide) ?_
                              refine xbi_W30 (mi' := mL_told) (y := yL_told) eL_jobs_222 (xw_4 lRL_171 wy_L_told) rfl ⟨wd_L_told, by decide, by decide⟩ (Nat.le_of_ble_eq_true rfl) rfl (wt_10 hB hV hT (show i < N by omega) ?_)
                              refine xa_if_ge (tgt := 232) eL_jobs_225 (by decide) (by omega) (fun c225 => ?_) (fun c225 => ?_)
                              · refine xa_iconst eL_jobs_232 ?_
                                refine xs_aload_0 eL_jobs_233 ?_
                                refine g_X9_0 eL_jobs_234 lRL_10 ?_
                                refine xs_iload_1 eL_jobs_237 ?_
                                refine xa_bipush eL_jobs_238 (by decide) ?_
                                refine xbi_W30 (mi' := mL_told) (y := yL_told) eL_jobs_240 (xw_4 lRL_171 wy_L_told) rfl ⟨wd_L_told, by decide, by decide⟩ (Nat.le_of_ble_eq_true rfl) rfl (wt_11 hB hV hT (show i < N by omega) ?_)
                                refine xa_if_ne (tgt := 250) eL_jobs_243 (by decide) (by omega) (fun c243 => ?_) (fun c243 => ?_)
                                · refine xa_iconst eL_jobs_250 ?_
                                  refine xa_icmp_ne (tgt := 267) eL_jobs_251 (by decide) (by omega) (by omega) (fun c251 => ?_) (fun c251 => ?_)
                                  · exfalso; omega
                                  · refine xs_aload_0 eL_jobs_254 ?_
                                    refine g_X9_0 eL_jobs_255 lRL_10 ?_
                                    refine xs_iload_1 eL_jobs_258 ?_
                                    refine xa_bipush eL_jobs_259 (by decide) ?_
                                    refine xbi_W30 (mi' := mL_told) (y := yL_told) eL_jobs_261 (xw_4 lRL_171 wy_L_told) rfl ⟨wd_L_told, by decide, by decide⟩ (Nat.le_of_ble_eq_true rfl) rfl (wt_16 hB hV hT (show i < N by omega) ?_)
                                    refine xa_if_eq (tgt := 269) eL_jobs_264 (by decide) (by omega) (fun c264 => ?_) (fun c264 => ?_)
                                    · refine xs_iinc_1 eL_jobs_269 rfl ?_
                                      refine xa_goto (tgt := 2) eL_jobs_272 (by decide) ?_
                                      exact ih (i + 1) (by omega) (by omega) _ _ _ _ rfl rfl rfl rfl
                                    · exfalso; omega
                                · refine xa_iconst eL_jobs_246 ?_
                                  refine xa_goto (tgt := 251) eL_jobs_247 (by decide) ?_
                                  refine xa_icmp_ne (tgt := 267) eL_jobs_251 (by decide) (by omega) (by omega) (fun c251 => ?_) (fun c251 => ?_)
                                  · exfalso; omega
                                  · refine xs_aload_0 eL_jobs_254 ?_
                                    refine g_X9_0 eL_jobs_255 lRL_10 ?_
                                    refine xs_iload_1 eL_jobs_258 ?_
                                    refine xa_bipush eL_jobs_259 (by decide) ?_
                                    refine xbi_W30 (mi' := mL_told) (y := yL_told) eL_jobs_261 (xw_4 lRL_171 wy_L_told) rfl ⟨wd_L_told, by decide, by decide⟩ (Nat.le_of_ble_eq_true rfl) rfl (wt_16 hB hV hT (show i < N by omega) ?_)
                                    refine xa_if_eq (tgt := 269) eL_jobs_264 (by decide) (by omega) (fun c264 => ?_) (fun c264 => ?_)
                                    · refine xs_iinc_1 eL_jobs_269 rfl ?_
                                      refine xa_goto (tgt := 2) eL_jobs_272 (by decide) ?_
                                      exact ih (i + 1) (by omega) (by omega) _ _ _ _ rfl rfl rfl rfl
                                    · exfalso; omega
                              · refine xa_iconst eL_jobs_228 ?_
                                refine xa_goto (tgt := 233) eL_jobs_229 (by decide) ?_
                                refine xs_aload_0 eL_jobs_233 ?_
                                refine g_X9_0 eL_jobs_234 lRL_10 ?_
                                refine xs_iload_1 eL_jobs_237 ?_
                                refine xa_bipush eL_jobs_238 (by decide) ?_
                                refine xbi_W30 (mi' := mL_told) (y := yL_told) eL_jobs_240 (xw_4 lRL_171 wy_L_told) rfl ⟨wd_L_told, by decide, by decide⟩ (Nat.le_of_ble_eq_true rfl) rfl (wt_11 hB hV hT (show i < N by omega) ?_)
                                refine xa_if_ne (tgt := 250) eL_jobs_243 (by decide) (by omega) (fun c243 => ?_) (fun c243 => ?_)
                                · refine xa_iconst eL_jobs_250 ?_
                                  refine xa_icmp_ne (tgt := 267) eL_jobs_251 (by decide) (by omega) (by omega) (fun c251 => ?_) (fun c251 => ?_)
                                  · exfalso; omega
                                  · refine xs_aload_0 eL_jobs_254 ?_
                                    refine g_X9_0 eL_jobs_255 lRL_10 ?_
                                    refine xs_iload_1 eL_jobs_258 ?_
                                    refine xa_bipush eL_jobs_259 (by decide) ?_
                                    refine xbi_W30 (mi' := mL_told) (y := yL_told) eL_jobs_261 (xw_4 lRL_171 wy_L_told) rfl ⟨wd_L_told, by decide, by decide⟩ (Nat.le_of_ble_eq_true rfl) rfl (wt_16 hB hV hT (show i < N by omega) ?_)
                                    refine xa_if_eq (tgt := 269) eL_jobs_264 (by decide) (by omega) (fun c264 => ?_) (fun c264 => ?_)
                                    · refine xs_iinc_1 eL_jobs_269 rfl ?_
                                      refine xa_goto (tgt := 2) eL_jobs_272 (by decide) ?_
                                      exact ih (i + 1) (by omega) (by omega) _ _ _ _ rfl rfl rfl rfl
                                    · exfalso; omega
                                · refine xa_iconst eL_jobs_246 ?_
                                  refine xa_goto (tgt := 251) eL_jobs_247 (by decide) ?_
                                  refine xa_icmp_ne (tgt := 267) eL_jobs_251 (by decide) (by omega) (by omega) (fun c251 => ?_) (fun c251 => ?_)
                                  · exfalso; omega
                                  · refine xs_aload_0 eL_jobs_254 ?_
                                    refine g_X9_0 eL_jobs_255 lRL_10 ?_
                                    refine xs_iload_1 eL_jobs_258 ?_
                                    refine xa_bipush eL_jobs_259 (by decide) ?_
                                    refine xbi_W30 (mi' := mL_told) (y := yL_told) eL_jobs_261 (xw_4 lRL_171 wy_L_told) rfl ⟨wd_L_told, by decide, by decide⟩ (Nat.le_of_ble_eq_true rfl) rfl (wt_16 hB hV hT (show i < N by omega) ?_)
                                    refine xa_if_eq (tgt := 269) eL_jobs_264 (by decide) (by omega) (fun c264 => ?_) (fun c264 => ?_)
                                    · refine xs_iinc_1 eL_jobs_269 rfl ?_
                                      refine xa_goto (tgt := 2) eL_jobs_272 (by decide) ?_
                                      exact ih (i + 1) (by omega) (by omega) _ _ _ _ rfl rfl rfl rfl
                                    · exfalso; omega
                            · exfalso; omega
                · refine xa_iconst eL_jobs_165 ?_
                  refine xa_goto (tgt := 170) eL_jobs_166 (by decide) ?_
                  refine xs_iload_3 eL_jobs_170 ?_
                  refine xa_if_ge (tgt := 178) eL_jobs_171 (by decide) (by omega) (fun c171 => ?_) (fun c171 => ?_)
                  · refine xa_iconst eL_jobs_178 ?_
                    refine xa_icmp_ne (tgt := 213) eL_jobs_179 (by decide) (by omega) (by omega) (fun c179 => ?_) (fun c179 => ?_)
                    · exfalso; omega
                    · refine xs_iload_3 eL_jobs_182 ?_
                      refine xa_if_lt (tgt := 215) eL_jobs_183 (by decide) (by omega) (fun c183 => ?_) (fun c183 => ?_)
                      · refine xs_aload_0 eL_jobs_215 ?_
                        refine g_X9_0 eL_jobs_216 lRL_10 ?_
                        refine xs_iload_1 eL_jobs_219 ?_
                        refine xa_bipush eL_jobs_220 (by decide) ?_
                        refine xbi_W30 (mi' := mL_told) (y := yL_told) eL_jobs_222 (xw_4 lRL_171 wy_L_told) rfl ⟨wd_L_told, by decide, by decide⟩ (Nat.le_of_ble_eq_true rfl) rfl (wt_10 hB hV hT (show i < N by omega) ?_)
                        refine xa_if_ge (tgt := 232) eL_jobs_225 (by decide) (by omega) (fun c225 => ?_) (fun c225 => ?_)
                        · refine xa_iconst eL_jobs_232 ?_
                          refine xs_aload_0 eL_jobs_233 ?_
                          refine g_X9_0 eL_jobs_234 lRL_10 ?_
                          refine xs_iload_1 eL_jobs_237 ?_
                          refine xa_bipush eL_jobs_238 (by decide) ?_
                          refine xbi_W30 (mi' := mL_told) (y := yL_told) eL_jobs_240 (xw_4 lRL_171 wy_L_told) rfl ⟨wd_L_told, by decide, by decide⟩ (Nat.le_of_ble_eq_true rfl) rfl (wt_11 hB hV hT (show i < N by omega) ?_)
                          refine xa_if_ne (tgt := 250) eL_jobs_243 (by decide) (by omega) (fun c243 => ?_) (fun c243 => ?_)
                          · refine xa_iconst eL_jobs_250 ?_
                            refine xa_icmp_ne (tgt := 267) eL_jobs_251 (by decide) (by omega) (by omega) (fun c251 => ?_) (fun c251 => ?_)
                            · exfalso; omega
                            · refine xs_aload_0 eL_jobs_254 ?_
                              refine g_X9_0 eL_jobs_255 lRL_10 ?_
                              refine xs_iload_1 eL_jobs_258 ?_
                              refine xa_bipush eL_jobs_259 (by decide) ?_
                              refine xbi_W30 (mi' := mL_told) (y := yL_told) eL_jobs_261 (xw_4 lRL_171 wy_L_told) rfl ⟨wd_L_told, by decide, by decide⟩ (Nat.le_of_ble_eq_true rfl) rfl (wt_16 hB hV hT (show i < N by omega) ?_)
                              refine xa_if_eq (tgt := 269) eL_jobs_264 (by decide) (by omega) (fun c264 => ?_) (fun c264 => ?_)
                              · refine xs_iinc_1 eL_jobs_269 rfl ?_
                                refine xa_goto (tgt := 2) eL_jobs_272 (by decide) ?_
                                exact ih (i + 1) (by omega) (by omega) _ _ _ _ rfl rfl rfl rfl
                              · exfalso; omega
                          · refine xa_iconst eL_jobs_246 ?_
                            refine xa_goto (tgt := 251) eL_jobs_247 (by decide) ?_
                            refine xa_icmp_ne (tgt := 267) eL_jobs_251 (by decide) (by omega) (by omega) (fun c251 => ?_) (fun c251 => ?_)
                            · exfalso; omega
                            · refine xs_aload_0 eL_jobs_254 ?_
                              refine g_X9_0 eL_jobs_255 lRL_10 ?_
                              refine xs_iload_1 eL_jobs_258 ?_
                              refine xa_bipush eL_jobs_259 (by decide) ?_
                              refine xbi_W30 (mi' := mL_told) (y := yL_told) eL_jobs_261 (xw_4 lRL_171 wy_L_told) rfl ⟨wd_L_told, by decide, by decide⟩ (Nat.le_of_ble_eq_true rfl) rfl (wt_16 hB hV hT (show i < N by omega) ?_)
                              refine xa_if_eq (tgt := 269) eL_jobs_264 (by decide) (by omega) (fun c264 => ?_) (fun c264 => ?_)
                              · refine xs_iinc_1 eL_jobs_269 rfl ?_
                                refine xa_goto (tgt := 2) eL_jobs_272 (by decide) ?_
                                exact ih (i + 1) (by omega) (by omega) _ _ _ _ rfl rfl rfl rfl
                              · exfalso; omega
                        · refine xa_iconst eL_jobs_228 ?_
                          refine xa_goto (tgt := 233) eL_jobs_229 (by decide) ?_
                          refine xs_aload_0 eL_jobs_233 ?_
                          refine g_X9_0 eL_jobs_234 lRL_10 ?_
                          refine xs_iload_1 eL_jobs_237 ?_
                          refine xa_bipush eL_jobs_238 (by decide) ?_
                          refine xbi_W30 (mi' := mL_told) (y := yL_told) eL_jobs_240 (xw_4 lRL_171 wy_L_told) rfl ⟨wd_L_told, by decide, by decide⟩ (Nat.le_of_ble_eq_true rfl) rfl (wt_11 hB hV hT (show i < N by omega) ?_)
                          refine xa_if_ne (tgt := 250) eL_jobs_243 (by decide) (by omega) (fun c243 => ?_) (fun c243 => ?_)
                          · refine xa_iconst eL_jobs_250 ?_
                            refine xa_icmp_ne (tgt := 267) eL_jobs_251 (by decide) (by omega) (by omega) (fun c251 => ?_) (fun c251 => ?_)
                            · exfalso; omega
                            · refine xs_aload_0 eL_jobs_254 ?_
                              refine g_X9_0 eL_jobs_255 lRL_10 ?_
                              refine xs_iload_1 eL_jobs_258 ?_
                              refine xa_bipush eL_jobs_259 (by decide) ?_
                              refine xbi_W30 (mi' := mL_told) (y := yL_told) eL_jobs_261 (xw_4 lRL_171 wy_L_told) rfl ⟨wd_L_told, by decide, by decide⟩ (Nat.le_of_ble_eq_true rfl) rfl (wt_16 hB hV hT (show i < N by omega) ?_)
                              refine xa_if_eq (tgt := 269) eL_jobs_264 (by decide) (by omega) (fun c264 => ?_) (fun c264 => ?_)
                              · refine xs_iinc_1 eL_jobs_269 rfl ?_
                                refine xa_goto (tgt := 2) eL_jobs_272 (by decide) ?_
                                exact ih (i + 1) (by omega) (by omega) _ _ _ _ rfl rfl rfl rfl
                              · exfalso; omega
                          · refine xa_iconst eL_jobs_246 ?_
                            refine xa_goto (tgt := 251) eL_jobs_247 (by decide) ?_
                            refine xa_icmp_ne (tgt := 267) eL_jobs_251 (by decide) (by omega) (by omega) (fun c251 => ?_) (fun c251 => ?_)
                            · exfalso; omega
                            · refine xs_aload_0 eL_jobs_254 ?_
                              refine g_X9_0 eL_jobs_255 lRL_10 ?_
                              refine xs_iload_1 eL_jobs_258 ?_
                              refine xa_bipush eL_jobs_259 (by decide) ?_
                              refine xbi_W30 (mi' := mL_told) (y := yL_told) eL_jobs_261 (xw_4 lRL_171 wy_L_told) rfl ⟨wd_L_told, by decide, by decide⟩ (Nat.le_of_ble_eq_true rfl) rfl (wt_16 hB hV hT (show i < N by omega) ?_)
                              refine xa_if_eq (tgt := 269) eL_jobs_264 (by decide) (by omega) (fun c264 => ?_) (fun c264 => ?_)
                              · refine xs_iinc_1 eL_jobs_269 rfl ?_
                                refine xa_goto (tgt := 2) eL_jobs_272 (by decide) ?_
                                exact ih (i + 1) (by omega) (by omega) _ _ _ _ rfl rfl rfl rfl
                              · exfalso; omega
                      · refine xs_iload_3 eL_jobs_186 ?_
                        refine xs_iload_5 eL_jobs_187 ?_
                        refine xa_icmp_le (tgt := 213) eL_jobs_189 (by decide) (by omega) (by omega) (fun c189 => ?_) (fun c189 => ?_)
                        · exfalso; omega
                        · refine xs_iload_2 eL_jobs_192 ?_
                          refine xs_iload_3 eL_jobs_193 ?_
                          refine xs_iload_5 eL_jobs_194 ?_
                          refine xa_isub eL_jobs_196 ?_
                          refine xa_icmp_gt (tgt := 213) eL_jobs_197 (by decide) (by omega) (by omega) (fun c197 => ?_) (fun c197 => ?_)
                          · exfalso; omega
                          · refine xs_aload_0 eL_jobs_200 ?_
                            refine g_X9_0 eL_jobs_201 lRL_10 ?_
                            refine xs_iload_1 eL_jobs_204 ?_
                            refine xa_bipush eL_jobs_205 (by decide) ?_
                            refine xbi_W30 (mi' := mL_told) (y := yL_told) eL_jobs_207 (xw_4 lRL_171 wy_L_told) rfl ⟨wd_L_told, by decide, by decide⟩ (Nat.le_of_ble_eq_true rfl) rfl (wt_8 hB hV hT (show i < N by omega) ?_)
                            first | rw [if_pos ht] | rw [if_neg ht]
                            refine xa_if_ge (tgt := 215) eL_jobs_210 (by decide) (by omega) (fun c210 => ?_) (fun c210 => ?_)
                            · refine xs_aload_0 eL_jobs_215 ?_
                              refine g_X9_0 eL_jobs_216 lRL_10 ?_
                              refine xs_iload_1 eL_jobs_219 ?_
                              refine xa_bipush eL_jobs_220 (by decide) ?_
                              refine xbi_W30 (mi' := mL_told) (y := yL_told) eL_jobs_222 (xw_4 lRL_171 wy_L_told) rfl ⟨wd_L_told, by decide, by decide⟩ (Nat.le_of_ble_eq_true rfl) rfl (wt_10 hB hV hT (show i < N by omega) ?_)
                              refine xa_if_ge (tgt := 232) eL_jobs_225 (by decide) (by omega) (fun c225 => ?_) (fun c225 => ?_)
                              · refine xa_iconst eL_jobs_232 ?_
                                refine xs_aload_0 eL_jobs_233 ?_
                                refine g_X9_0 eL_jobs_234 lRL_10 ?_
                                refine xs_iload_1 eL_jobs_237 ?_
                                refine xa_bipush eL_jobs_238 (by decide) ?_
                                refine xbi_W30 (mi' := mL_told) (y := yL_told) eL_jobs_240 (xw_4 lRL_171 wy_L_told) rfl ⟨wd_L_told, by decide, by decide⟩ (Nat.le_of_ble_eq_true rfl) rfl (wt_11 hB hV hT (show i < N by omega) ?_)
                                refine xa_if_ne (tgt := 250) eL_jobs_243 (by decide) (by omega) (fun c243 => ?_) (fun c243 => ?_)
                                · refine xa_iconst eL_jobs_250 ?_
                                  refine xa_icmp_ne (tgt := 267) eL_jobs_251 (by decide) (by omega) (by omega) (fun c251 => ?_) (fun c251 => ?_)
                                  · exfalso; omega
                                  · refine xs_aload_0 eL_jobs_254 ?_
                                    refine g_X9_0 eL_jobs_255 lRL_10 ?_
                                    refine xs_iload_1 eL_jobs_258 ?_
                                    refine xa_bipush eL_jobs_259 (by decide) ?_
                                    refine xbi_W30 (mi' := mL_told) (y := yL_told) eL_jobs_261 (xw_4 lRL_171 wy_L_told) rfl ⟨wd_L_told, by decide, by decide⟩ (Nat.le_of_ble_eq_true rfl) rfl (wt_16 hB hV hT (show i < N by omega) ?_)
                                    refine xa_if_eq (tgt := 269) eL_jobs_264 (by decide) (by omega) (fun c264 => ?_) (fun c264 => ?_)
                                    · refine xs_iinc_1 eL_jobs_269 rfl ?_
                                      refine xa_goto (tgt := 2) eL_jobs_272 (by decide) ?_
                                      exact ih (i + 1) (by omega) (by omega) _ _ _ _ rfl rfl rfl rfl
                                    · exfalso; omega
                                · refine xa_iconst eL_jobs_246 ?_
                                  refine xa_goto (tgt := 251) eL_jobs_247 (by decide) ?_
                                  refine xa_icmp_ne (tgt := 267) eL_jobs_251 (by decide) (by omega) (by omega) (fun c251 => ?_) (fun c251 => ?_)
                                  · exfalso; omega
                                  · refine xs_aload_0 eL_jobs_254 ?_
                                    refine g_X9_0 eL_jobs_255 lRL_10 ?_
                                    refine xs_iload_1 eL_jobs_258 ?_
                                    refine xa_bipush eL_jobs_259 (by decide) ?_
                                    refine xbi_W30 (mi' := mL_told) (y := yL_told) eL_jobs_261 (xw_4 lRL_171 wy_L_told) rfl ⟨wd_L_told, by decide, by decide⟩ (Nat.le_of_ble_eq_true rfl) rfl (wt_16 hB hV hT (show i < N by omega) ?_)
                                    refine xa_if_eq (tgt := 269) eL_jobs_264 (by decide) (by omega) (fun c264 => ?_) (fun c264 => ?_)
                                    · refine xs_iinc_1 eL_jobs_269 rfl ?_
                                      refine xa_goto (tgt := 2) eL_jobs_272 (by decide) ?_
                                      exact ih (i + 1) (by omega) (by omega) _ _ _ _ rfl rfl rfl rfl
                                    · exfalso; omega
                              · refine xa_iconst eL_jobs_228 ?_
                                refine xa_goto (tgt := 233) eL_jobs_229 (by decide) ?_
                                refine xs_aload_0 eL_jobs_233 ?_
                                refine g_X9_0 eL_jobs_234 lRL_10 ?_
                                refine xs_iload_1 eL_jobs_237 ?_
                                refine xa_bipush eL_jobs_238 (by decide) ?_
                                refine xbi_W30 (mi' := mL_told) (y := yL_told) eL_jobs_240 (xw_4 lRL_171 wy_L_told) rfl ⟨wd_L_told, by decide, by decide⟩ (Nat.le_of_ble_eq_true rfl) rfl (wt_11 hB hV hT (show i < N by omega) ?_)
                                refine xa_if_ne (tgt := 250) eL_jobs_243 (by decide) (by omega) (fun c243 => ?_) (fun c243 => ?_)
                                · refine xa_iconst eL_jobs_250 ?_
                                  refine xa_icmp_ne (tgt := 267) eL_jobs_251 (by decide) (by omega) (by omega) (fun c251 => ?_) (fun c251 => ?_)
                                  · exfalso; omega
                                  · refine xs_aload_0 eL_jobs_254 ?_
                                    refine g_X9_0 eL_jobs_255 lRL_10 ?_
                                    refine xs_iload_1 eL_jobs_258 ?_
                                    refine xa_bipush eL_jobs_259 (by decide) ?_
                                    refine xbi_W30 (mi' := mL_told) (y := yL_told) eL_jobs_261 (xw_4 lRL_171 wy_L_told) rfl ⟨wd_L_told, by decide, by decide⟩ (Nat.le_of_ble_eq_true rfl) rfl (wt_16 hB hV hT (show i < N by omega) ?_)
                                    refine xa_if_eq (tgt := 269) eL_jobs_264 (by decide) (by omega) (fun c264 => ?_) (fun c264 => ?_)
                                    · refine xs_iinc_1 eL_jobs_269 rfl ?_
                                      refine xa_goto (tgt := 2) eL_jobs_272 (by decide) ?_
                                      exact ih (i + 1) (by omega) (by omega) _ _ _ _ rfl rfl rfl rfl
                                    · exfalso; omega
                                · refine xa_iconst eL_jobs_246 ?_
                                  refine xa_goto (tgt := 251) eL_jobs_247 (by decide) ?_
                                  refine xa_icmp_ne (tgt := 267) eL_jobs_251 (by decide) (by omega) (by omega) (fun c251 => ?_) (fun c251 => ?_)
                                  · exfalso; omega
                                  · refine xs_aload_0 eL_jobs_254 ?_
                                    refine g_X9_0 eL_jobs_255 lRL_10 ?_
                                    refine xs_iload_1 eL_jobs_258 ?_
                                    refine xa_bipush eL_jobs_259 (by decide) ?_
                                    refine xbi_W30 (mi' := mL_told) (y := yL_told) eL_jobs_261 (xw_4 lRL_171 wy_L_told) rfl ⟨wd_L_told, by decide, by decide⟩ (Nat.le_of_ble_eq_true rfl) rfl (wt_16 hB hV hT (show i < N by omega) ?_)
                                    refine xa_if_eq (tgt := 269) eL_jobs_264 (by decide) (by omega) (fun c264 => ?_) (fun c264 => ?_)
                                    · refine xs_iinc_1 eL_jobs_269 rfl ?_
                                      refine xa_goto (tgt := 2) eL_jobs_272 (by decide) ?_
                                      exact ih (i + 1) (by omega) (by omega) _ _ _ _ rfl rfl rfl rfl
                                    · exfalso; omega
                            · exfalso; omega
                  · refine xa_iconst eL_jobs_174 ?_
                    refine xa_goto (tgt := 179) eL_jobs_175 (by decide) ?_
                    refine xa_icmp_ne (tgt := 213) eL_jobs_179 (by decide) (by omega) (by omega) (fun c179 => ?_) (fun c179 => ?_)
                    · exfalso; omega
                    · refine xs_iload_3 eL_jobs_182 ?_
                      refine xa_if_lt (tgt := 215) eL_jobs_183 (by decide) (by omega) (fun c183 => ?_) (fun c183 => ?_)
                      · refine xs_aload_0 eL_jobs_215 ?_
                        refine g_X9_0 eL_jobs_216 lRL_10 ?_
                        refine xs_iload_1 eL_jobs_219 ?_
                        refine xa_bipush eL_jobs_220 (by decide) ?_
                        refine xbi_W30 (mi' := mL_told) (y := yL_told) eL_jobs_222 (xw_4 lRL_171 wy_L_told) rfl ⟨wd_L_told, by decide, by decide⟩ (Nat.le_of_ble_eq_true rfl) rfl (wt_10 hB hV hT (show i < N by omega) ?_)
                        refine xa_if_ge (tgt := 232) eL_jobs_225 (by decide) (by omega) (fun c225 => ?_) (fun c225 => ?_)
                        · refine xa_iconst eL_jobs_232 ?_
                          refine xs_aload_0 eL_jobs_233 ?_
                          refine g_X9_0 eL_jobs_234 lRL_10 ?_
                          refine xs_iload_1 eL_jobs_237 ?_
                          refine xa_bipush eL_jobs_238 (by decide) ?_
                          refine xbi_W30 (mi' := mL_told) (y := yL_told) eL_jobs_240 (xw_4 lRL_171 wy_L_told) rfl ⟨wd_L_told, by decide, by decide⟩ (Nat.le_of_ble_eq_true rfl) rfl (wt_11 hB hV hT (show i < N by omega) ?_)
                          refine xa_if_ne (tgt := 250) eL_jobs_243 (by decide) (by omega) (fun c243 => ?_) (fun c243 => ?_)
                          · refine xa_iconst eL_jobs_250 ?_
                            refine xa_icmp_ne (tgt := 267) eL_jobs_251 (by decide) (by omega) (by omega) (fun c251 => ?_) (fun c251 => ?_)
                            · exfalso; omega
                            · refine xs_aload_0 eL_jobs_254 ?_
                              refine g_X9_0 eL_jobs_255 lRL_10 ?_
                              refine xs_iload_1 eL_jobs_258 ?_
                              refine xa_bipush eL_jobs_259 (by decide) ?_
                              refine xbi_W30 (mi' := mL_told) (y := yL_told) eL_jobs_261 (xw_4 lRL_171 wy_L_told) rfl ⟨wd_L_told, by decide, by decide⟩ (Nat.le_of_ble_eq_true rfl) rfl (wt_16 hB hV hT (show i < N by omega) ?_)
                              refine xa_if_eq (tgt := 269) eL_jobs_264 (by decide) (by omega) (fun c264 => ?_) (fun c264 => ?_)
                              · refine xs_iinc_1 eL_jobs_269 rfl ?_
                                refine xa_goto (tgt := 2) eL_jobs_272 (by decide) ?_
                                exact ih (i + 1) (by omega) (by omega) _ _ _ _ rfl rfl rfl rfl
                              · exfalso; omega
                          · refine xa_iconst eL_jobs_246 ?_
                            refine xa_goto (tgt := 251) eL_jobs_247 (by decide) ?_
                            refine xa_icmp_ne (tgt := 267) eL_jobs_251 (by decide) (by omega) (by omega) (fun c251 => ?_) (fun c251 => ?_)
                            · exfalso; omega
                            · refine xs_aload_0 eL_jobs_254 ?_
                              refine g_X9_0 eL_jobs_255 lRL_10 ?_
                              refine xs_iload_1 eL_jobs_258 ?_
                              refine xa_bipush eL_jobs_259 (by decide) ?_
                              refine xbi_W30 (mi' := mL_told) (y := yL_told) eL_jobs_261 (xw_4 lRL_171 wy_L_told) rfl ⟨wd_L_told, by decide, by decide⟩ (Nat.le_of_ble_eq_true rfl) rfl (wt_16 hB hV hT (show i < N by omega) ?_)
                              refine xa_if_eq (tgt := 269) eL_jobs_264 (by decide) (by omega) (fun c264 => ?_) (fun c264 => ?_)
                              · refine xs_iinc_1 eL_jobs_269 rfl ?_
                                refine xa_goto (tgt := 2) eL_jobs_272 (by decide) ?_
                                exact ih (i + 1) (by omega) (by omega) _ _ _ _ rfl rfl rfl rfl
                              · exfalso; omega
                        · refine xa_iconst eL_jobs_228 ?_
                          refine xa_goto (tgt := 233) eL_jobs_229 (by decide) ?_
                          refine xs_aload_0 eL_jobs_233 ?_
                          refine g_X9_0 eL_jobs_234 lRL_10 ?_
                          refine xs_iload_1 eL_jobs_237 ?_
                          refine xa_bipush eL_jobs_238 (by decide) ?_
                          refine xbi_W30 (mi' := mL_told) (y := yL_told) eL_jobs_240 (xw_4 lRL_171 wy_L_told) rfl ⟨wd_L_told, by decide, by decide⟩ (Nat.le_of_ble_eq_true rfl) rfl (wt_11 hB hV hT (show i < N by omega) ?_)
                          refine xa_if_ne (tgt := 250) eL_jobs_243 (by decide) (by omega) (fun c243 => ?_) (fun c243 => ?_)
                          · refine xa_iconst eL_jobs_250 ?_
                            refine xa_icmp_ne (tgt := 267) eL_jobs_251 (by decide) (by omega) (by omega) (fun c251 => ?_) (fun c251 => ?_)
                            · exfalso; omega
                            · refine xs_aload_0 eL_jobs_254 ?_
                              refine g_X9_0 eL_jobs_255 lRL_10 ?_
                              refine xs_iload_1 eL_jobs_258 ?_
                              refine xa_bipush eL_jobs_259 (by decide) ?_
                              refine xbi_W30 (mi' := mL_told) (y := yL_told) eL_jobs_261 (xw_4 lRL_171 wy_L_told) rfl ⟨wd_L_told, by decide, by decide⟩ (Nat.le_of_ble_eq_true rfl) rfl (wt_16 hB hV hT (show i < N by omega) ?_)
                              refine xa_if_eq (tgt := 269) eL_jobs_264 (by decide) (by omega) (fun c264 => ?_) (fun c264 => ?_)
                              · refine xs_iinc_1 eL_jobs_269 rfl ?_
                                refine xa_goto (tgt := 2) eL_jobs_272 (by decide) ?_
                                exact ih (i + 1) (by omega) (by omega) _ _ _ _ rfl rfl rfl rfl
                              · exfalso; omega
                          · refine xa_iconst eL_jobs_246 ?_
                            refine xa_goto (tgt := 251) eL_jobs_247 (by decide) ?_
                            refine xa_icmp_ne (tgt := 267) eL_jobs_251 (by decide) (by omega) (by omega) (fun c251 => ?_) (fun c251 => ?_)
                            · exfalso; omega
                            · refine xs_aload_0 eL_jobs_254 ?_
                              refine g_X9_0 eL_jobs_255 lRL_10 ?_
                              refine xs_iload_1 eL_jobs_258 ?_
                              refine xa_bipush eL_jobs_259 (by decide) ?_
                              refine xbi_W30 (mi' := mL_told) (y := yL_told) eL_jobs_261 (xw_4 lRL_171 wy_L_told) rfl ⟨wd_L_told, by decide, by decide⟩ (Nat.le_of_ble_eq_true rfl) rfl (wt_16 hB hV hT (show i < N by omega) ?_)
                              refine xa_if_eq (tgt := 269) eL_jobs_264 (by decide) (by omega) (fun c264 => ?_) (fun c264 => ?_)
                              · refine xs_iinc_1 eL_jobs_269 rfl ?_
                                refine xa_goto (tgt := 2) eL_jobs_272 (by decide) ?_
                                exact ih (i + 1) (by omega) (by omega) _ _ _ _ rfl rfl rfl rfl
                              · exfalso; omega
                      · refine xs_iload_3 eL_jobs_186 ?_
                        refine xs_iload_5 eL_jobs_187 ?_
                        refine xa_icmp_le (tgt := 213) eL_jobs_189 (by decide) (by omega) (by omega) (fun c189 => ?_) (fun c189 => ?_)
                        · exfalso; omega
                        · refine xs_iload_2 eL_jobs_192 ?_
                          refine xs_iload_3 eL_jobs_193 ?_
                          refine xs_iload_5 eL_jobs_194 ?_
                          refine xa_isub eL_jobs_196 ?_
                          refine xa_icmp_gt (tgt := 213) eL_jobs_197 (by decide) (by omega) (by omega) (fun c197 => ?_) (fun c197 => ?_)
                          · exfalso; omega
                          · refine xs_aload_0 eL_jobs_200 ?_
                            refine g_X9_0 eL_jobs_201 lRL_10 ?_
                            refine xs_iload_1 eL_jobs_204 ?_
                            refine xa_bipush eL_jobs_205 (by decide) ?_
                            refine xbi_W30 (mi' := mL_told) (y := yL_told) eL_jobs_207 (xw_4 lRL_171 wy_L_told) rfl ⟨wd_L_told, by decide, by decide⟩ (Nat.le_of_ble_eq_true rfl) rfl (wt_8 hB hV hT (show i < N by omega) ?_)
                            first | rw [if_pos ht] | rw [if_neg ht]
                            refine xa_if_ge (tgt := 215) eL_jobs_210 (by decide) (by omega) (fun c210 => ?_) (fun c210 => ?_)
                            · refine xs_aload_0 eL_jobs_215 ?_
                              refine g_X9_0 eL_jobs_216 lRL_10 ?_
                              refine xs_iload_1 eL_jobs_219 ?_
                              refine xa_bipush eL_jobs_220 (by decide) ?_
                              refine xbi_W30 (mi' := mL_told) (y := yL_told) eL_jobs_222 (xw_4 lRL_171 wy_L_told) rfl ⟨wd_L_told, by decide, by decide⟩ (Nat.le_of_ble_eq_true rfl) rfl (wt_10 hB hV hT (show i < N by omega) ?_)
                              refine xa_if_ge (tgt := 232) eL_jobs_225 (by decide) (by omega) (fun c225 => ?_) (fun c225 => ?_)
                              · refine xa_iconst eL_jobs_232 ?_
                                refine xs_aload_0 eL_jobs_233 ?_
                                refine g_X9_0 eL_jobs_234 lRL_10 ?_
                                refine xs_iload_1 eL_jobs_237 ?_
                                refine xa_bipush eL_jobs_238 (by decide) ?_
                                refine xbi_W30 (mi' := mL_told) (y := yL_told) eL_jobs_240 (xw_4 lRL_171 wy_L_told) rfl ⟨wd_L_told, by decide, by decide⟩ (Nat.le_of_ble_eq_true rfl) rfl (wt_11 hB hV hT (show i < N by omega) ?_)
                                refine xa_if_ne (tgt := 250) eL_jobs_243 (by decide) (by omega) (fun c243 => ?_) (fun c243 => ?_)
                                · refine xa_iconst eL_jobs_250 ?_
                                  refine xa_icmp_ne (tgt := 267) eL_jobs_251 (by decide) (by omega) (by omega) (fun c251 => ?_) (fun c251 => ?_)
                                  · exfalso; omega
                                  · refine xs_aload_0 eL_jobs_254 ?_
                                    refine g_X9_0 eL_jobs_255 lRL_10 ?_
                                    refine xs_iload_1 eL_jobs_258 ?_
                                    refine xa_bipush eL_jobs_259 (by decide) ?_
                                    refine xbi_W30 (mi' := mL_told) (y := yL_told) eL_jobs_261 (xw_4 lRL_171 wy_L_told) rfl ⟨wd_L_told, by decide, by decide⟩ (Nat.le_of_ble_eq_true rfl) rfl (wt_16 hB hV hT (show i < N by omega) ?_)
                                    refine xa_if_eq (tgt := 269) eL_jobs_264 (by decide) (by omega) (fun c264 => ?_) (fun c264 => ?_)
                                    · refine xs_iinc_1 eL_jobs_269 rfl ?_
                                      refine xa_goto (tgt := 2) eL_jobs_272 (by decide) ?_
                                      exact ih (i + 1) (by omega) (by omega) _ _ _ _ rfl rfl rfl rfl
                                    · exfalso; omega
                                · refine xa_iconst eL_jobs_246 ?_
                                  refine xa_goto (tgt := 251) eL_jobs_247 (by decide) ?_
                                  refine xa_icmp_ne (tgt := 267) eL_jobs_251 (by decide) (by omega) (by omega) (fun c251 => ?_) (fun c251 => ?_)
                                  · exfalso; omega
                                  · refine xs_aload_0 eL_jobs_254 ?_
                                    refine g_X9_0 eL_jobs_255 lRL_10 ?_
                                    refine xs_iload_1 eL_jobs_258 ?_
                                    refine xa_bipush eL_jobs_259 (by decide) ?_
                                    refine xbi_W30 (mi' := mL_told) (y := yL_told) eL_jobs_261 (xw_4 lRL_171 wy_L_told) rfl ⟨wd_L_told, by decide, by decide⟩ (Nat.le_of_ble_eq_true rfl) rfl (wt_16 hB hV hT (show i < N by omega) ?_)
                                    refine xa_if_eq (tgt := 269) eL_jobs_264 (by decide) (by omega) (fun c264 => ?_) (fun c264 => ?_)
                                    · refine xs_iinc_1 eL_jobs_269 rfl ?_
                                      refine xa_goto (tgt := 2) eL_jobs_272 (by decide) ?_
                                      exact ih (i + 1) (by omega) (by omega) _ _ _ _ rfl rfl rfl rfl
                                    · exfalso; omega
                              · refine xa_iconst eL_jobs_228 ?_
                                refine xa_goto (tgt := 233) eL_jobs_229 (by decide) ?_
                                refine xs_aload_0 eL_jobs_233 ?_
                                refine g_X9_0 eL_jobs_234 lRL_10 ?_
                                refine xs_iload_1 eL_jobs_237 ?_
                                refine xa_bipush eL_jobs_238 (by decide) ?_
                                refine xbi_W30 (mi' := mL_told) (y := yL_told) eL_jobs_240 (xw_4 lRL_171 wy_L_told) rfl ⟨wd_L_told, by decide, by decide⟩ (Nat.le_of_ble_eq_true rfl) rfl (wt_11 hB hV hT (show i < N by omega) ?_)
                                refine xa_if_ne (tgt := 250) eL_jobs_243 (by decide) (by omega) (fun c243 => ?_) (fun c243 => ?_)
                                · refine xa_iconst eL_jobs_250 ?_
                                  refine xa_icmp_ne (tgt := 267) eL_jobs_251 (by decide) (by omega) (by omega) (fun c251 => ?_) (fun c251 => ?_)
                                  · exfalso; omega
                                  · refine xs_aload_0 eL_jobs_254 ?_
                                    refine g_X9_0 eL_jobs_255 lRL_10 ?_
                                    refine xs_iload_1 eL_jobs_258 ?_
                                    refine xa_bipush eL_jobs_259 (by decide) ?_
                                    refine xbi_W30 (mi' := mL_told) (y := yL_told) eL_jobs_261 (xw_4 lRL_171 wy_L_told) rfl ⟨wd_L_told, by decide, by decide⟩ (Nat.le_of_ble_eq_true rfl) rfl (wt_16 hB hV hT (show i < N by omega) ?_)
                                    refine xa_if_eq (tgt := 269) eL_jobs_264 (by decide) (by omega) (fun c264 => ?_) (fun c264 => ?_)
                                    · refine xs_iinc_1 eL_jobs_269 rfl ?_
                                      refine xa_goto (tgt := 2) eL_jobs_272 (by decide) ?_
                                      exact ih (i + 1) (by omega) (by omega) _ _ _ _ rfl rfl rfl rfl
                                    · exfalso; omega
                                · refine xa_iconst eL_jobs_246 ?_
                                  refine xa_goto (tgt := 251) eL_jobs_247 (by decide) ?_
                                  refine xa_icmp_ne (tgt := 267) eL_jobs_251 (by decide) (by omega) (by omega) (fun c251 => ?_) (fun c251 => ?_)
                                  · exfalso; omega
                                  · refine xs_aload_0 eL_jobs_254 ?_
                                    refine g_X9_0 eL_jobs_255 lRL_10 ?_
                                    refine xs_iload_1 eL_jobs_258 ?_
                                    refine xa_bipush eL_jobs_259 (by decide) ?_
                                    refine xbi_W30 (mi' := mL_told) (y := yL_told) eL_jobs_261 (xw_4 lRL_171 wy_L_told) rfl ⟨wd_L_told, by decide, by decide⟩ (Nat.le_of_ble_eq_true rfl) rfl (wt_16 hB hV hT (show i < N by omega) ?_)
                                    refine xa_if_eq (tgt := 269) eL_jobs_264 (by decide) (by omega) (fun c264 => ?_) (fun c264 => ?_)
                                    · refine xs_iinc_1 eL_jobs_269 rfl ?_
                                      refine xa_goto (tgt := 2) eL_jobs_272 (by decide) ?_
                                      exact ih (i + 1) (by omega) (by omega) _ _ _ _ rfl rfl rfl rfl
                                    · exfalso; omega
                            · exfalso; omega
        · refine xs_iload_4 eL_jobs_70 ?_
          refine xa_iconst eL_jobs_72 ?_
          refine xa_icmp_ne (tgt := 122) eL_jobs_73 (by decide) (by omega) (by omega) (fun c73 => ?_) (fun c73 => ?_)
          · exfalso; omega
          · refine xs_iload_2 eL_jobs_76 ?_
            refine xa_iconst eL_jobs_77 ?_
            refine xa_icmp_ne (tgt := 122) eL_jobs_78 (by decide) (by omega) (by omega) (fun c78 => ?_) (fun c78 => ?_)
            · exfalso; omega
            · refine xs_aload_0 eL_jobs_81 ?_
              refine g_X9_0 eL_jobs_82 lRL_10 ?_
              refine xs_iload_1 eL_jobs_85 ?_
              refine xa_bipush eL_jobs_86 (by decide) ?_
              refine xbi_W30 (mi' := mL_told) (y := yL_told) eL_jobs_88 (xw_4 lRL_171 wy_L_told) rfl ⟨wd_L_told, by decide, by decide⟩ (Nat.le_of_ble_eq_true rfl) rfl (wt_9 hB hV hT (show i < N by omega) ?_)
              refine xa_iconst eL_jobs_91 ?_
              refine xa_icmp_ne (tgt := 122) eL_jobs_92 (by decide) (by omega) (by omega) (fun c92 => ?_) (fun c92 => ?_)
              · exfalso; omega
              · refine xs_aload_0 eL_jobs_95 ?_
                refine g_X9_0 eL_jobs_96 lRL_10 ?_
                refine xs_iload_1 eL_jobs_99 ?_
                refine xa_bipush eL_jobs_100 (by decide) ?_
                refine xbi_W30 (mi' := mL_told) (y := yL_told) eL_jobs_102 (xw_4 lRL_171 wy_L_told) rfl ⟨wd_L_told, by decide, by decide⟩ (Nat.le_of_ble_eq_true rfl) rfl (wt_10 hB hV hT (show i < N by omega) ?_)
                refine xa_iconst eL_jobs_105 ?_
                refine xa_icmp_ne (tgt := 122) eL_jobs_106 (by decide) (by omega) (by omega) (fun c106 => ?_) (fun c106 => ?_)
                · exfalso; omega
                · refine xs_aload_0 eL_jobs_109 ?_
                  refine g_X9_0 eL_jobs_110 lRL_10 ?_
                  refine xs_iload_1 eL_jobs_113 ?_
                  refine xa_bipush eL_jobs_114 (by decide) ?_
                  refine xbi_W30 (mi' := mL_told) (y := yL_told) eL_jobs_116 (xw_4 lRL_171 wy_L_told) rfl ⟨wd_L_told, by decide, by decide⟩ (Nat.le_of_ble_eq_true rfl) rfl (wt_11 hB hV hT (show i < N by omega) ?_)
                  refine xa_if_eq (tgt := 269) eL_jobs_119 (by decide) (by omega) (fun c119 => ?_) (fun c119 => ?_)
                  · refine xs_iinc_1 eL_jobs_269 rfl ?_
                    refine xa_goto (tgt := 2) eL_jobs_272 (by decide) ?_
                    exact ih (i + 1) (by omega) (by omega) _ _ _ _ rfl rfl rfl rfl
                  · exfalso; omega
  refine xa_iconst eL_jobs_0 ?_
  refine xs_istore_1 eL_jobs_1 rfl ?_
  exact lp 0 (by omega) _ _ _ _ rfl rfl rfl rfl
