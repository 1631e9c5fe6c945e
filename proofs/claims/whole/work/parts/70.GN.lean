/-! the reference: numbers -/
theorem rq_f {c : Int} {S : xS} {f : Nat} (h1 : f ≠ 20) (h2 : f ≠ 21) : rqS c S 30 0 f = S 30 0 f := by
  unfold rqS
  split
  · rw [up_f h2, up_f h1]
  · rfl
theorem rq_k {c : Int} {S : xS} {k : Nat} (h : k ≠ 30) : rqS c S k = S k := by
  unfold rqS
  split
  · funext j f; rw [up_k h, up_k h]
  · rfl
theorem rq_20 {c : Int} {S : xS} (hc : c ≠ 0) : rqS c S 30 0 20 ≠ 0 := by
  unfold rqS
  split
  · rw [up_f (by decide), up_same]; exact hc
  · rename_i z; exact z
theorem rq_id {c : Int} {S : xS} (h : S 30 0 20 ≠ 0) : rqS c S = S := by unfold rqS; rw [if_neg h]
theorem b2i_y {P : Prop} [Decidable P] (h : b2i P = 1) : P := by
  by_cases c : P
  · exact c
  · rw [b2i, if_neg c] at h; exact absurd h (by decide)
theorem b2i_n {P : Prop} [Decidable P] (h : b2i P = 0) : ¬ P := by
  by_cases c : P
  · rw [b2i, if_pos c] at h; exact absurd h (by decide)
  · exact c
set_option maxHeartbeats 400000 in
theorem k_X8_parseNumber {w : xW} {S : xS} {B : String → xS → Prop} {A : Int → xS → Prop} {n p : Nat} {lo hi : Int} (hlo : xr lo) (hhi : xr hi) (h15 : S 30 0 15 = (p : Int)) (hn : S 30 0 14 = (n : Int)) (h7 : n ≤ 700) (hB : ∀ i, i < n → 0 ≤ S 41 0 i ∧ S 41 0 i ≤ 255) (hp : p ≤ n) (hq1 : S 30 0 20 = 0 → S 30 0 17 = 3 → lo ≤ S 30 0 19 ∧ S 30 0 19 ≤ hi → A (S 30 0 19) (nxR n p S)) (hq2 : S 30 0 20 = 0 → ¬ S 30 0 17 = 3 → ∀ v, A v (rqS 1 S)) (hq3 : S 30 0 20 = 0 → S 30 0 17 = 3 → ¬ (lo ≤ S 30 0 19 ∧ S 30 0 19 ≤ hi) → ∀ v, A v (rqS 2 S)) (hq4 : ¬ S 30 0 20 = 0 → ∀ v, A v S) : Ki w mX8_parseNumber yX8_parseNumber 0 0 [xp 30 0, xi lo, xi hi] S A B := by
  refine K.of rfl rfl rfl rfl (Nat.le_of_ble_eq_true rfl) rfl ?_
  refine xs_aload_0 eX8_parseNumber_0 ?_
  refine xs_aload_0 eX8_parseNumber_1 ?_
  refine gr_X8_17 eX8_parseNumber_2 lRX8_294 (fun r2 => ?_)
  refine xa_iconst eX8_parseNumber_5 ?_
  refine xa_icmp_ne (tgt := 13) eX8_parseNumber_6 (by decide) (by omega) (by decide) (fun c6 => ?_) (fun c6 => ?_)
  · refine xa_iconst eX8_parseNumber_13 ?_
    refine xa_iconst eX8_parseNumber_14 ?_
    refine xbv_V20 (mi' := mX8_require) (y := yX8_require) eX8_parseNumber_15 (xw_5 lRX8_330 wy_X8_require) rfl ⟨wd_X8_require, by decide, by decide⟩ (by decide) (fun _ => rfl) rfl (Nat.le_of_ble_eq_true rfl) rfl (k_X8_require (Or.inl rfl) (by decide) (fun z => absurd z (by decide)) (fun _ => ?_))
    refine xs_aload_0 eX8_parseNumber_18 ?_
    refine xs_aload_0 eX8_parseNumber_19 ?_
    refine gr_X8_19 eX8_parseNumber_20 lRX8_291 (fun r20 => ?_)
    refine xa_i2l eX8_parseNumber_23 (by omega) ?_
    refine xs_iload_1 eX8_parseNumber_24 ?_
    refine xa_i2l eX8_parseNumber_25 (by omega) ?_
    refine xs_iload_2 eX8_parseNumber_26 ?_
    refine xa_i2l eX8_parseNumber_27 (by omega) ?_
    refine xbi_S30 (mi' := mX8_isBetween) (y := yX8_isBetween) eX8_parseNumber_28 (xw_4 lRX8_61 wy_X8_isBetween) rfl rfl ⟨wd_X8_isBetween, by decide, by decide⟩ (Nat.le_of_ble_eq_true rfl) rfl (k_X8_isBetween (by omega) (by omega) (by omega) ?_)
    refine xa_iconst eX8_parseNumber_31 ?_
    refine xbv_V20 (mi' := mX8_require) (y := yX8_require) eX8_parseNumber_32 (xw_5 lRX8_330 wy_X8_require) rfl ⟨wd_X8_require, by decide, by decide⟩ (by decide) (fun _ => rfl) rfl (Nat.le_of_ble_eq_true rfl) rfl (k_X8_require (b2i_01 _) (by decide) (fun z => ?_) (fun z => ?_))
    · refine xs_aload_0 eX8_parseNumber_35 ?_
      refine gr_X8_19 eX8_parseNumber_36 lRX8_291 (fun r36 => ?_)
      refine xs_istore_3 eX8_parseNumber_39 rfl ?_
      refine xs_aload_0 eX8_parseNumber_40 ?_
      refine xbv_V00 (mi' := mX8_advance) (y := yX8_advance) eX8_parseNumber_41 (xw_5 lRX8_334 wy_X8_advance) rfl ⟨wd_X8_advance, by decide, by decide⟩ (by decide) (fun _ => rfl) rfl (Nat.le_of_ble_eq_true rfl) rfl (f_X8_advance (n := n) (p := p) (by rw [rq_f (by decide) (by decide)]; exact h15) (by rw [rq_f (by decide) (by decide)]; exact hn) h7 (by rw [rq_k (by decide)]; exact hB) hp ?_)
      refine xs_iload_3 eX8_parseNumber_44 ?_
      exact xa_iret eX8_parseNumber_45 rfl ⟨_, rfl, by rw [if_neg (rq_20 (by decide))]; by_cases e : S 30 0 20 = 0; exact hq2 e (by omega) _; exact (by rw [rq_id e]; exact hq4 e _)⟩
    · rw [rq_id (c := 2) (rq_20 (c := 1) (S := S) (by decide))]
      refine xs_aload_0 eX8_parseNumber_35 ?_
      refine gr_X8_19 eX8_parseNumber_36 lRX8_291 (fun r36 => ?_)
      refine xs_istore_3 eX8_parseNumber_39 rfl ?_
      refine xs_aload_0 eX8_parseNumber_40 ?_
      refine xbv_V00 (mi' := mX8_advance) (y := yX8_advance) eX8_parseNumber_41 (xw_5 lRX8_334 wy_X8_advance) rfl ⟨wd_X8_advance, by decide, by decide⟩ (by decide) (fun _ => rfl) rfl (Nat.le_of_ble_eq_true rfl) rfl (f_X8_advance (n := n) (p := p) (by rw [rq_f (by decide) (by decide)]; exact h15) (by rw [rq_f (by decide) (by decide)]; exact hn) h7 (by rw [rq_k (by decide)]; exact hB) hp ?_)
      refine xs_iload_3 eX8_parseNumber_44 ?_
      exact xa_iret eX8_parseNumber_45 rfl ⟨_, rfl, by rw [if_neg (rq_20 (by decide))]; by_cases e : S 30 0 20 = 0; exact hq2 e (by omega) _; exact (by rw [rq_id e]; exact hq4 e _)⟩
  · refine xa_iconst eX8_parseNumber_9 ?_
    refine xa_goto (tgt := 14) eX8_parseNumber_10 (by decide) ?_
    refine xa_iconst eX8_parseNumber_14 ?_
    refine xbv_V20 (mi' := mX8_require) (y := yX8_require) eX8_parseNumber_15 (xw_5 lRX8_330 wy_X8_require) rfl ⟨wd_X8_require, by decide, by decide⟩ (by decide) (fun _ => rfl) rfl (Nat.le_of_ble_eq_true rfl) rfl (k_X8_require (Or.inr rfl) (by decide) (fun _ => ?_) (fun z => absurd z (by decide)))
    refine xs_aload_0 eX8_parseNumber_18 ?_
    refine xs_aload_0 eX8_parseNumber_19 ?_
    refine gr_X8_19 eX8_parseNumber_20 lRX8_291 (fun r20 => ?_)
    refine xa_i2l eX8_parseNumber_23 (by omega) ?_
    refine xs_iload_1 eX8_parseNumber_24 ?_
    refine xa_i2l eX8_parseNumber_25 (by omega) ?_
    refine xs_iload_2 eX8_parseNumber_26 ?_
    refine xa_i2l eX8_parseNumber_27 (by omega) ?_
    refine xbi_S30 (mi' := mX8_isBetween) (y := yX8_isBetween) eX8_parseNumber_28 (xw_4 lRX8_61 wy_X8_isBetween) rfl rfl ⟨wd_X8_isBetween, by decide, by decide⟩ (Nat.le_of_ble_eq_true rfl) rfl (k_X8_isBetween (by omega) (by omega) (by omega) ?_)
    refine xa_iconst eX8_parseNumber_31 ?_
    refine xbv_V20 (mi' := mX8_require) (y := yX8_require) eX8_parseNumber_32 (xw_5 lRX8_330 wy_X8_require) rfl ⟨wd_X8_require, by decide, by decide⟩ (by decide) (fun _ => rfl) rfl (Nat.le_of_ble_eq_true rfl) rfl (k_X8_require (b2i_01 _) (by decide) (fun z => ?_) (fun z => ?_))
    · have p2 := b2i_y z
      refine xs_aload_0 eX8_parseNumber_35 ?_
      refine gr_X8_19 eX8_parseNumber_36 lRX8_291 (fun r36 => ?_)
      refine xs_istore_3 eX8_parseNumber_39 rfl ?_
      refine xs_aload_0 eX8_parseNumber_40 ?_
      refine xbv_V00 (mi' := mX8_advance) (y := yX8_advance) eX8_parseNumber_41 (xw_5 lRX8_334 wy_X8_advance) rfl ⟨wd_X8_advance, by decide, by decide⟩ (by decide) (fun _ => rfl) rfl (Nat.le_of_ble_eq_true rfl) rfl (f_X8_advance h15 hn h7 hB hp ?_)
      refine xs_iload_3 eX8_parseNumber_44 ?_
      exact xa_iret eX8_parseNumber_45 rfl ⟨_, rfl, by by_cases e : S 30 0 20 = 0; exact (by rw [if_pos e]; exact hq1 e (by omega) p2); exact (by rw [if_neg e]; exact hq4 e _)⟩
    · have p2 := b2i_n z
      refine xs_aload_0 eX8_parseNumber_35 ?_
      refine gr_X8_19 eX8_parseNumber_36 lRX8_291 (fun r36 => ?_)
      refine xs_istore_3 eX8_parseNumber_39 rfl ?_
      refine xs_aload_0 eX8_parseNumber_40 ?_
      refine xbv_V00 (mi' := mX8_advance) (y := yX8_advance) eX8_parseNumber_41 (xw_5 lRX8_334 wy_X8_advance) rfl ⟨wd_X8_advance, by decide, by decide⟩ (by decide) (fun _ => rfl) rfl (Nat.le_of_ble_eq_true rfl) rfl (f_X8_advance (n := n) (p := p) (by rw [rq_f (by decide) (by decide)]; exact h15) (by rw [rq_f (by decide) (by decide)]; exact hn) h7 (by rw [rq_k (by decide)]; exact hB) hp ?_)
      refine xs_iload_3 eX8_parseNumber_44 ?_
      exact xa_iret eX8_parseNumber_45 rfl ⟨_, rfl, by rw [if_neg (rq_20 (by decide))]; by_cases e : S 30 0 20 = 0; exact hq3 e (by omega) p2 _; exact (by rw [rq_id e]; exact hq4 e _)⟩
