/-! a statement in both texts -/
theorem FW.u31 {S : xS} {f : Nat} {v : Int} : FW (up S 31 0 f v) S := ⟨fun k j h => up_oth (by omega), up_oth (by decide), fun f _ _ _ => by rw [up_k (by decide)], fun e => by rw [up_k (by decide)] at e ⊢; exact ⟨e, rfl⟩⟩
theorem Rel.x7 {n N : Nat} {C D : xS} {M : Nat → Int} (h : Rel 4 n N C M) (hn : n ≤ 8) (hN : N ≤ 20) (hx : xtl 7 D C) : Rel 4 n N D M := h.cls hn hN (fun x y k => hx x y (by omega) (by omega))
theorem rdSem_7 {n : Nat} {S' S : xS} (h : xtl 7 S' S) : (rdSem n S').1 = (rdSem n S).1 ∧ xtl 7 (rdSem n S').2 (rdSem n S).2 := by
  unfold rdSem
  rw [h 3 0 (by omega) (by omega)]
  split
  · exact ⟨rfl, h.nx7⟩
  · exact ⟨rfl, h.fl⟩
theorem rdS_pen {n N : Nat} {C : xS} (a : isW 0 C) : rdStm n N C = rdPen n C := by unfold rdStm; rw [if_pos a]
theorem rdS_fee {n N : Nat} {C : xS} (a : ¬ isW 0 C) (b : isW 1 C) : rdStm n N C = rdFee n C := by unfold rdStm; rw [if_neg a, if_pos b]
theorem rdS_pro {n N : Nat} {C : xS} (a : ¬ isW 0 C) (b : ¬ isW 1 C) (c : isW 2 C) : rdStm n N C = rdPS n C := by unfold rdStm rdPS; rw [if_neg a, if_neg b, if_pos c]
theorem rdS_pm {n N : Nat} {C : xS} (a : ¬ isW 0 C) (b : ¬ isW 1 C) (c : ¬ isW 2 C) : rdStm n N C = rdPmS n N C := by unfold rdStm rdPmS; rw [if_neg a, if_neg b, if_neg c]
theorem t0_X8_parseStatement {w : xW} {S : xS} {B : String → xS → Prop} {A : xS → Prop} {L : List xV} (hE : ¬ S 30 0 20 = 0) (hq : A S) : X w mX8_parseStatement (xTG w (fun v S' => v = none ∧ A S') B) 0 0 101 (xp 30 0 :: L) [] S := by
  refine xs_aload_0 eX8_parseStatement_101 ?_
  refine xs_aload_0 eX8_parseStatement_102 ?_
  refine gr_X8_17 eX8_parseStatement_103 lRX8_294 (fun r103 => ?_)
  refine xa_iconst eX8_parseStatement_106 ?_
  refine xa_icmp_ne (tgt := 114) eX8_parseStatement_107 (by decide) (by omega) (by decide) (fun c107 => ?_) (fun c107 => ?_)
  · refine xa_iconst eX8_parseStatement_114 ?_
    refine xa_iconst eX8_parseStatement_115 ?_
    refine xbv_V20 (mi' := mX8_require) (y := yX8_require) eX8_parseStatement_116 (xw_5 lRX8_330 wy_X8_require) rfl ⟨wd_X8_require, by decide, by decide⟩ (by decide) (fun _ => rfl) rfl (Nat.le_of_ble_eq_true rfl) rfl (z_X8_require (by decide) hE ?_)
    refine xs_aload_0 eX8_parseStatement_119 ?_
    refine xbv_V00 (mi' := mX8_advance) (y := yX8_advance) eX8_parseStatement_120 (xw_5 lRX8_334 wy_X8_advance) rfl ⟨wd_X8_advance, by decide, by decide⟩ (by decide) (fun _ => rfl) rfl (Nat.le_of_ble_eq_true rfl) rfl (z_X8_advance hE ?_)
    exact xa_vret eX8_parseStatement_123 rfl ⟨rfl, hq⟩
  · refine xa_iconst eX8_parseStatement_110 ?_
    refine xa_goto (tgt := 115) eX8_parseStatement_111 (by decide) ?_
    refine xa_iconst eX8_parseStatement_115 ?_
    refine xbv_V20 (mi' := mX8_require) (y := yX8_require) eX8_parseStatement_116 (xw_5 lRX8_330 wy_X8_require) rfl ⟨wd_X8_require, by decide, by decide⟩ (by decide) (fun _ => rfl) rfl (Nat.le_of_ble_eq_true rfl) rfl (z_X8_require (by decide) hE ?_)
    refine xs_aload_0 eX8_parseStatement_119 ?_
    refine xbv_V00 (mi' := mX8_advance) (y := yX8_advance) eX8_parseStatement_120 (xw_5 lRX8_334 wy_X8_advance) rfl ⟨wd_X8_advance, by decide, by decide⟩ (by decide) (fun _ => rfl) rfl (Nat.le_of_ble_eq_true rfl) rfl (z_X8_advance hE ?_)
    exact xa_vret eX8_parseStatement_123 rfl ⟨rfl, hq⟩
theorem t1_X8_parseStatement {w : xW} {S : xS} {B : String → xS → Prop} {A : xS → Prop} {L : List xV} {C : xS} {n k N : Nat} {T : Int} (h : VP n k N T C) (tr : TR n C S) (e : S 30 0 20 = 0) (hR : Rel 4 k N C (S 31 0)) (q1 : (rdSem n C).1 = true → ∀ S', TR n (rdSem n C).2 S' → FW S' S → S' 30 0 20 = 0 → Rel 4 k N (rdSem n C).2 (S' 31 0) → A S') (q0 : (rdSem n C).1 = false → ∀ S', FW S' S → S' 30 0 20 = (rdSem n C).2 3 0 4 → S' 30 0 21 = (rdSem n C).2 3 0 5 → ¬ S' 30 0 20 = 0 → A S') : X w mX8_parseStatement (xTG w (fun v S' => v = none ∧ A S') B) 0 0 101 (xp 30 0 :: L) [] S := by
  have hd := (cod_inj h.1.2.2.2.2.2).2.2.2
  have ht := tr.2.2.2.1
  refine xs_aload_0 eX8_parseStatement_101 ?_
  refine xs_aload_0 eX8_parseStatement_102 ?_
  refine gr_X8_17 eX8_parseStatement_103 lRX8_294 (fun r103 => ?_)
  refine xa_iconst eX8_parseStatement_106 ?_
  refine xa_icmp_ne (tgt := 114) eX8_parseStatement_107 (by decide) (by omega) (by decide) (fun c107 => ?_) (fun c107 => ?_)
  · refine xa_iconst eX8_parseStatement_114 ?_
    refine xa_iconst eX8_parseStatement_115 ?_
    refine xbv_V20 (mi' := mX8_require) (y := yX8_require) eX8_parseStatement_116 (xw_5 lRX8_330 wy_X8_require) rfl ⟨wd_X8_require, by decide, by decide⟩ (by decide) (fun _ => rfl) rfl (Nat.le_of_ble_eq_true rfl) rfl (k_X8_require (Or.inl rfl) (by decide) (fun z => absurd z (by decide)) (fun _ => ?_))
    have hE : ¬ rqS 1 S 30 0 20 = 0 := rq_20 (by decide)
    have hc4 : rqS 1 S 30 0 20 = 1 := by unfold rqS; rw [if_pos e, up_f (by decide), up_same]
    have hc5 : rqS 1 S 30 0 21 = C 3 0 7 := by unfold rqS; rw [if_pos e, up_same]; exact tr.2.2.1
    refine xs_aload_0 eX8_parseStatement_119 ?_
    refine xbv_V00 (mi' := mX8_advance) (y := yX8_advance) eX8_parseStatement_120 (xw_5 lRX8_334 wy_X8_advance) rfl ⟨wd_X8_advance, by decide, by decide⟩ (by decide) (fun _ => rfl) rfl (Nat.le_of_ble_eq_true rfl) rfl (z_X8_advance hE ?_)
    exact xa_vret eX8_parseStatement_123 rfl ⟨rfl, by have h9 := q0; unfold rdSem at h9; rw [if_neg (fun z => c107 (by rw [ht]; exact hd.mpr z))] at h9; exact h9 rfl _ (FM.rq (by decide)).fw hc4 hc5 hE⟩
  · refine xa_iconst eX8_parseStatement_110 ?_
    refine xa_goto (tgt := 115) eX8_parseStatement_111 (by decide) ?_
    refine xa_iconst eX8_parseStatement_115 ?_
    refine xbv_V20 (mi' := mX8_require) (y := yX8_require) eX8_parseStatement_116 (xw_5 lRX8_330 wy_X8_require) rfl ⟨wd_X8_require, by decide, by decide⟩ (by decide) (fun _ => rfl) rfl (Nat.le_of_ble_eq_true rfl) rfl (k_X8_require (Or.inr rfl) (by decide) (fun _ => ?_) (fun z => absurd z (by decide)))
    refine xs_aload_0 eX8_parseStatement_119 ?_
    refine xbv_V00 (mi' := mX8_advance) (y := yX8_advance) eX8_parseStatement_120 (xw_5 lRX8_334 wy_X8_advance) rfl ⟨wd_X8_advance, by decide, by decide⟩ (by decide) (fun _ => rfl) rfl (Nat.le_of_ble_eq_true rfl) rfl (p_X8_advance h.1 tr e (fun S' t f z => ?_))
    exact xa_vret eX8_parseStatement_123 rfl ⟨rfl, by have hk : C 3 0 6 = 3 := hd.mp (by rw [← ht]; exact c107); have h9 := q1; unfold rdSem at h9; rw [if_pos hk] at h9; exact h9 rfl _ t f.fw z (by rw [f.1 31 (by decide)]; exact hR)⟩
theorem rdPS_V {n k N : Nat} {T : Int} {S : xS} (h : VP n k N T S) (hT : 0 ≤ T) (e : (rdPS n S).1 = true) : VP n (k + 1) N T (rdPS n S).2 := by
  unfold rdPS at e ⊢
  obtain ⟨e1, e2⟩ := bnd_t e
  obtain ⟨-, v⟩ := rdPro_V h hT e1
  rw [e2] at e ⊢
  split
  · rename_i c
    rw [if_pos c] at e
    exact rdArr_V v (by omega) e
  · exact v
theorem rdPmS_V {n k N : Nat} {T : Int} {S : xS} (h : VP n k N T S) (e : (rdPmS n N S).1 = true) : VP n k (N + 1) T (rdPmS n N S).2 := by
  unfold rdPmS at e ⊢
  by_cases c : isW 4 S
  · rw [if_pos c] at e ⊢
    obtain ⟨e1, e2⟩ := bnd_t e
    obtain ⟨-, v⟩ := rdPrm_V h e1
    rw [e2] at e ⊢
    split
    · rename_i c
      rw [if_pos c] at e
      exact rdPri_V v (by omega) e
    · exact v
  · rw [if_neg c] at e; cases e
set_option maxHeartbeats 400000 in
theorem p_X8_parseStatement {w : xW} {S : xS} {B : String → xS → Prop} {A : xS → Prop} {C : xS} {n k N : Nat} {T : Int} (h : VP n k N T C) (hT : 0 ≤ T ∧ T ≤ 900000) (tr : TR n C S) (e : S 30 0 20 = 0) (hR : Rel 4 k N C (S 31 0)) (q1 : (rdStm n N C).1 = true → (rdSem n (rdStm n N C).2).1 = true → ∀ S' k' N', VP n k' N' T (rdSem n (rdStm n N C).2).2 → TR n (rdSem n (rdStm n N C).2).2 S' → FW S' S → S' 30 0 20 = 0 → Rel 4 k' N' (rdSem n (rdStm n N C).2).2 (S' 31 0) → A S') (q2 : (rdStm n N C).1 = true → (rdSem n (rdStm n N C).2).1 = false → ∀ S', FW S' S → S' 30 0 20 = (rdSem n (rdStm n N C).2).2 3 0 4 → S' 30 0 21 = (rdSem n (rdStm n N C).2).2 3 0 5 → ¬ S' 30 0 20 = 0 → A S') (q0 : (rdStm n N C).1 = false → ∀ S', FW S' S → S' 30 0 20 = (rdStm n N C).2 3 0 4 → S' 30 0 21 = (rdStm n N C).2 3 0 5 → ¬ S' 30 0 20 = 0 → A S') : Kv w mX8_parseStatement yX8_parseStatement 0 0 [xp 30 0] S A B := by
  refine K.of rfl rfl rfl rfl (Nat.le_of_ble_eq_true rfl) rfl ?_
  have hn8 := h.2.2.2.1
  have hN20 := h.2.2.1
  refine xs_aload_0 eX8_parseStatement_0 ?_
  refine xa_ldcwS (tx := "penalty") (i := 0) eX8_parseStatement_1 (List.mem_of_getElem? (i := 6) rfl) ?_
  refine xbi_V10 (mi' := mX8_accept) (y := yX8_accept) eX8_parseStatement_4 (xw_5 lRX8_342 wy_X8_accept) rfl ⟨wd_X8_accept, by decide, by decide⟩ (by decide) (fun _ => rfl) rfl (Nat.le_of_ble_eq_true rfl) rfl (p_X8_accept (by decide) h.1 tr e (fun c0 S0 t0 f0 z0 => ?_) (fun c0 => ?_))
  · have hs : rdStm n N C = rdPen n C := rdS_pen c0
    refine xa_if_eq (tgt := 40) eX8_parseStatement_7 (by decide) (by decide) (fun c7 => ?_) (fun c7 => ?_)
    · exact absurd c7 (by decide)
    · refine xs_aload_0 eX8_parseStatement_10 ?_
      refine xa_iconst eX8_parseStatement_11 ?_
      refine xa_bipush eX8_parseStatement_12 (by decide) ?_
      refine xbi_V20 (mi' := mX8_parseNumber) (y := yX8_parseNumber) eX8_parseStatement_14 (xw_5 lRX8_337 wy_X8_parseNumber) rfl ⟨wd_X8_parseNumber, by decide, by decide⟩ (by decide) (fun _ => rfl) rfl (Nat.le_of_ble_eq_true rfl) rfl (p_X8_parseNumber h.1 t0 z0 (by decide) (by decide) (by decide) (fun e1 S1 t1 f1 z1 => ?_) (fun e1 v S1 f1 hc4 hc5 hE => ?_))
      · have o1 := (rdN_V h e1).2
        refine xs_istore_1 eX8_parseStatement_17 rfl ?_
        refine xs_aload_0 eX8_parseStatement_18 ?_
        refine g_X8_0 eX8_parseStatement_19 lRX8_7 ?_
        refine xa_iconst eX8_parseStatement_22 ?_
        refine xs_aload_0 eX8_parseStatement_23 ?_
        refine xbi_V00 (mi' := mX8_isFine) (y := yX8_isFine) eX8_parseStatement_24 (xw_5 lRX8_320 wy_X8_isFine) rfl ⟨wd_X8_isFine, by decide, by decide⟩ (by decide) (fun _ => rfl) rfl (Nat.le_of_ble_eq_true rfl) rfl (k_X8_isFine ?_)
        refine xa_ifb_eq (tgt := 35) eX8_parseStatement_27 (by decide) (fun c27 => ?_) (fun c27 => ?_)
        · exact absurd z1 c27
        · refine xs_iload_1 eX8_parseStatement_30 ?_
          refine xa_i2l eX8_parseStatement_31 (by omega) ?_
          refine xa_goto (tgt := 36) eX8_parseStatement_32 (by decide) ?_
          refine pa_31 eX8_parseStatement_36 (by decide) (by omega) ?_
          refine xa_goto (tgt := 101) eX8_parseStatement_37 (by decide) ?_
          refine X_store (show up S1 31 0 (3 : Int).toNat ((rdN n 0 99 C).2 3 0 9) = stM (upM (S1 31 0) 3 ((rdN n 0 99 C).2 3 0 9)) S1 by rw [← up_stM, stM_self]; rfl) ?_
          have eR : rdPen n C = (true, (nx n (up (rdN n 0 99 C).2 1 4 4 ((rdN n 0 99 C).2 3 0 9)))) := by unfold rdPen bnd; rw [if_pos e1]
          have e9 : (rdPen n C).1 = true := by rw [eR]
          have v9 : VP n k N T (rdPen n C).2 := rdPen_V h e9
          have tD : TR n (rdPen n C).2 (stM (upM (S1 31 0) 3 ((rdN n 0 99 C).2 3 0 9)) S1) := by rw [eR]; exact (show TR n (nx n (up (rdN n 0 99 C).2 1 4 4 ((rdN n 0 99 C).2 3 0 9))) S1 from t1.nxe (fun f _ _ => rfl) rfl).of (fun _ _ _ => rfl) rfl (fun f _ _ _ => by rw [stM_k (by decide)]) (by rw [stM_k (by decide)])
          have hRg : Rel 4 k N C (S1 31 0) := by rw [f1.1 31 (by decide), f0.1 31 (by decide)]; exact hR
          have hR9 : Rel 4 k N (rdPen n C).2 (stM (upM (S1 31 0) 3 ((rdN n 0 99 C).2 3 0 9)) S1 31 0) := by rw [stM_31, eR]; exact (hRg.gu (i := 3) (v := (rdN n 0 99 C).2 3 0 9) (by decide) (by decide)).cls (by omega) (by omega) (fun x y hx => by show nx n (up (rdN n 0 99 C).2 1 4 4 ((rdN n 0 99 C).2 3 0 9)) x y = up C 1 4 4 ((rdN n 0 99 C).2 3 0 9) x y; rw [nx_o (by omega)]; refine congrFun (up_cg ?_) y; exact (rdN_P h.1 e1).2.2 x (by omega))
          exact t1_X8_parseStatement (n := n) v9 tD (by rw [stM_k (by decide)]; exact z1) hR9 (fun c S' t f z r => q1 (by rw [hs]; exact e9) (by rw [hs]; exact c) S' _ _ (by rw [hs]; exact (rdSem_V v9 c).1) (by rw [hs]; exact t) (f.tr (FW.m.tr (f1.fw.tr f0.fw))) z (by rw [hs]; exact r)) (fun c S' f a b d => q2 (by rw [hs]; exact e9) (by rw [hs]; exact c) S' (f.tr (FW.m.tr (f1.fw.tr f0.fw))) (by rw [hs]; exact a) (by rw [hs]; exact b) d)
      · refine xs_istore_1 eX8_parseStatement_17 rfl ?_
        refine xs_aload_0 eX8_parseStatement_18 ?_
        refine g_X8_0 eX8_parseStatement_19 lRX8_7 ?_
        refine xa_iconst eX8_parseStatement_22 ?_
        refine xs_aload_0 eX8_parseStatement_23 ?_
        refine xbi_V00 (mi' := mX8_isFine) (y := yX8_isFine) eX8_parseStatement_24 (xw_5 lRX8_320 wy_X8_isFine) rfl ⟨wd_X8_isFine, by decide, by decide⟩ (by decide) (fun _ => rfl) rfl (Nat.le_of_ble_eq_true rfl) rfl (k_X8_isFine ?_)
        refine xa_ifb_eq (tgt := 35) eX8_parseStatement_27 (by decide) (fun c27 => ?_) (fun c27 => ?_)
        · refine xa_lconst0 eX8_parseStatement_35 ?_
          refine pa_31 eX8_parseStatement_36 (by decide) (by decide) ?_
          refine xa_goto (tgt := 101) eX8_parseStatement_37 (by decide) ?_
          have eF : (rdPen n C).1 = false := by unfold rdPen bnd; rw [if_neg (by rw [e1]; decide)]
          have eS : (rdPen n C).2 = (rdN n 0 99 C).2 := by unfold rdPen bnd; rw [if_neg (by rw [e1]; decide)]
          exact t0_X8_parseStatement (by rw [up_k (by decide)]; exact hE) (q0 (by rw [hs]; exact eF) _ (FW.u31.tr (f1.fw.tr f0.fw)) (by rw [hs]; exact (by rw [up_k (by decide), eS]; exact hc4)) (by rw [hs]; exact (by rw [up_k (by decide), eS]; exact hc5)) (by rw [up_k (by decide)]; exact hE))
        · exact absurd c27 hE
  · refine xa_if_eq (tgt := 40) eX8_parseStatement_7 (by decide) (by decide) (fun c7 => ?_) (fun c7 => ?_)
    · refine xs_aload_0 eX8_parseStatement_40 ?_
      refine xa_ldcwS (tx := "fee") (i := 1) eX8_parseStatement_41 (List.mem_of_getElem? (i := 7) rfl) ?_
      refine xbi_V10 (mi' := mX8_accept) (y := yX8_accept) eX8_parseStatement_44 (xw_5 lRX8_342 wy_X8_accept) rfl ⟨wd_X8_accept, by decide, by decide⟩ (by decide) (fun _ => rfl) rfl (Nat.le_of_ble_eq_true rfl) rfl (p_X8_accept (by decide) h.1 tr e (fun c1 S0 t0 f0 z0 => ?_) (fun c1 => ?_))
      · have hs : rdStm n N C = rdFee n C := rdS_fee c0 c1
        refine xa_if_eq (tgt := 80) eX8_parseStatement_47 (by decide) (by decide) (fun c47 => ?_) (fun c47 => ?_)
        · exact absurd c47 (by decide)
        · refine xs_aload_0 eX8_parseStatement_50 ?_
          refine xa_iconst eX8_parseStatement_51 ?_
          refine xa_bipush eX8_parseStatement_52 (by decide) ?_
          refine xbi_V20 (mi' := mX8_parseNumber) (y := yX8_parseNumber) eX8_parseStatement_54 (xw_5 lRX8_337 wy_X8_parseNumber) rfl ⟨wd_X8_parseNumber, by decide, by decide⟩ (by decide) (fun _ => rfl) rfl (Nat.le_of_ble_eq_true rfl) rfl (p_X8_parseNumber h.1 t0 z0 (by decide) (by decide) (by decide) (fun e1 S1 t1 f1 z1 => ?_) (fun e1 v S1 f1 hc4 hc5 hE => ?_))
          · have o1 := (rdN_V h e1).2
            refine xs_istore_1 eX8_parseStatement_57 rfl ?_
            refine xs_aload_0 eX8_parseStatement_58 ?_
            refine g_X8_0 eX8_parseStatement_59 lRX8_7 ?_
            refine xa_iconst eX8_parseStatement_62 ?_
            refine xs_aload_0 eX8_parseStatement_63 ?_
            refine xbi_V00 (mi' := mX8_isFine) (y := yX8_isFine) eX8_parseStatement_64 (xw_5 lRX8_320 wy_X8_isFine) rfl ⟨wd_X8_isFine, by decide, by decide⟩ (by decide) (fun _ => rfl) rfl (Nat.le_of_ble_eq_true rfl) rfl (k_X8_isFine ?_)
            refine xa_ifb_eq (tgt := 75) eX8_parseStatement_67 (by decide) (fun c67 => ?_) (fun c67 => ?_)
            · exact absurd z1 c67
            · refine xs_iload_1 eX8_parseStatement_70 ?_
              refine xa_i2l eX8_parseStatement_71 (by omega) ?_
              refine xa_goto (tgt := 76) eX8_parseStatement_72 (by decide) ?_
              refine pa_31 eX8_parseStatement_76 (by decide) (by omega) ?_
              refine xa_goto (tgt := 101) eX8_parseStatement_77 (by decide) ?_
              refine X_store (show up S1 31 0 (4 : Int).toNat ((rdN n 0 50 C).2 3 0 9) = stM (upM (S1 31 0) 4 ((rdN n 0 50 C).2 3 0 9)) S1 by rw [← up_stM, stM_self]; rfl) ?_
              have eR : rdFee n C = (true, (nx n (up (rdN n 0 50 C).2 1 4 5 ((rdN n 0 50 C).2 3 0 9)))) := by unfold rdFee bnd; rw [if_pos e1]
              have e9 : (rdFee n C).1 = true := by rw [eR]
              have v9 : VP n k N T (rdFee n C).2 := rdFee_V h e9
              have tD : TR n (rdFee n C).2 (stM (upM (S1 31 0) 4 ((rdN n 0 50 C).2 3 0 9)) S1) := by rw [eR]; exact (show TR n (nx n (up (rdN n 0 50 C).2 1 4 5 ((rdN n 0 50 C).2 3 0 9))) S1 from t1.nxe (fun f _ _ => rfl) rfl).of (fun _ _ _ => rfl) rfl (fun f _ _ _ => by rw [stM_k (by decide)]) (by rw [stM_k (by decide)])
              have hRg : Rel 4 k N C (S1 31 0) := by rw [f1.1 31 (by decide), f0.1 31 (by decide)]; exact hR
              have hR9 : Rel 4 k N (rdFee n C).2 (stM (upM (S1 31 0) 4 ((rdN n 0 50 C).2 3 0 9)) S1 31 0) := by rw [stM_31, eR]; exact (hRg.gu (i := 4) (v := (rdN n 0 50 C).2 3 0 9) (by decide) (by decide)).cls (by omega) (by omega) (fun x y hx => by show nx n (up (rdN n 0 50 C).2 1 4 5 ((rdN n 0 50 C).2 3 0 9)) x y = up C 1 4 5 ((rdN n 0 50 C).2 3 0 9) x y; rw [nx_o (by omega)]; refine congrFun (up_cg ?_) y; exact (rdN_P h.1 e1).2.2 x (by omega))
              exact t1_X8_parseStatement (n := n) v9 tD (by rw [stM_k (by decide)]; exact z1) hR9 (fun c S' t f z r => q1 (by rw [hs]; exact e9) (by rw [hs]; exact c) S' _ _ (by rw [hs]; exact (rdSem_V v9 c).1) (by rw [hs]; exact t) (f.tr (FW.m.tr (f1.fw.tr f0.fw))) z (by rw [hs]; exact r)) (fun c S' f a b d => q2 (by rw [hs]; exact e9) (by rw [hs]; exact c) S' (f.tr (FW.m.tr (f1.fw.tr f0.fw))) (by rw [hs]; exact a) (by rw [hs]; exact b) d)
          · refine xs_istore_1 eX8_parseStatement_57 rfl ?_
            refine xs_aload_0 eX8_parseStatement_58 ?_
            refine g_X8_0 eX8_parseStatement_59 lRX8_7 ?_
            refine xa_iconst eX8_parseStatement_62 ?_
            refine xs_aload_0 eX8_parseStatement_63 ?_
            refine xbi_V00 (mi' := mX8_isFine) (y := yX8_isFine) eX8_parseStatement_64 (xw_5 lRX8_320 wy_X8_isFine) rfl ⟨wd_X8_isFine, by decide, by decide⟩ (by decide) (fun _ => rfl) rfl (Nat.le_of_ble_eq_true rfl) rfl (k_X8_isFine ?_)
            refine xa_ifb_eq (tgt := 75) eX8_parseStatement_67 (by decide) (fun c67 => ?_) (fun c67 => ?_)
            · refine xa_lconst0 eX8_parseStatement_75 ?_
              refine pa_31 eX8_parseStatement_76 (by decide) (by decide) ?_
              refine xa_goto (tgt := 101) eX8_parseStatement_77 (by decide) ?_
              have eF : (rdFee n C).1 = false := by unfold rdFee bnd; rw [if_neg (by rw [e1]; decide)]
              have eS : (rdFee n C).2 = (rdN n 0 50 C).2 := by unfold rdFee bnd; rw [if_neg (by rw [e1]; decide)]
              exact t0_X8_parseStatement (by rw [up_k (by decide)]; exact hE) (q0 (by rw [hs]; exact eF) _ (FW.u31.tr (f1.fw.tr f0.fw)) (by rw [hs]; exact (by rw [up_k (by decide), eS]; exact hc4)) (by rw [hs]; exact (by rw [up_k (by decide), eS]; exact hc5)) (by rw [up_k (by decide)]; exact hE))
            · exact absurd c67 hE
      · refine xa_if_eq (tgt := 80) eX8_parseStatement_47 (by decide) (by decide) (fun c47 => ?_) (fun c47 => ?_)
        · refine xs_aload_0 eX8_parseStatement_80 ?_
          refine xa_ldcwS (tx := "process") (i := 2) eX8_parseStatement_81 (List.mem_of_getElem? (i := 8) rfl) ?_
          refine xbi_V10 (mi' := mX8_isWord) (y := yX8_isWord) eX8_parseStatement_84 (xw_5 lRX8_326 wy_X8_isWord) rfl ⟨wd_X8_isWord, by decide, by decide⟩ (by decide) (fun _ => rfl) rfl (Nat.le_of_ble_eq_true rfl) rfl (k_X8_isWord (by decide) ?_)
          refine xa_ifb_eq (tgt := 97) eX8_parseStatement_87 (by decide) (fun c87 => ?_) (fun c87 => ?_)
          · have c2 : ¬ isW 2 C := fun z => c87 ((tr.word h.1 (by decide)).mpr z)
            have hs : rdStm n N C = rdPmS n N C := rdS_pm c0 c1 c2
            refine xs_aload_0 eX8_parseStatement_97 ?_
            refine xbv_V00 (mi' := mX8_parsePromise) (y := yX8_parsePromise) eX8_parseStatement_98 (xw_5 lRX8_359 wy_X8_parsePromise) rfl ⟨wd_X8_parsePromise, by decide, by decide⟩ (by decide) (fun _ => rfl) rfl (Nat.le_of_ble_eq_true rfl) rfl (p_X8_parsePromise h hT.2 tr e hR (fun e9 S9 t9 f9 z9 r9 => ?_) (fun eF S9 f9 hc4 hc5 hE => ?_))
            · have v9 : VP n k (N + 1) T (rdPmS n N C).2 := rdPmS_V h e9
              exact t1_X8_parseStatement (n := n) v9 t9 z9 r9 (fun c S' t f z r => q1 (by rw [hs]; exact e9) (by rw [hs]; exact c) S' _ _ (by rw [hs]; exact (rdSem_V v9 c).1) (by rw [hs]; exact t) (f.tr f9) z (by rw [hs]; exact r)) (fun c S' f a b d => q2 (by rw [hs]; exact e9) (by rw [hs]; exact c) S' (f.tr f9) (by rw [hs]; exact a) (by rw [hs]; exact b) d)
            · exact t0_X8_parseStatement hE (q0 (by rw [hs]; exact eF) _ f9 (by rw [hs]; exact hc4) (by rw [hs]; exact hc5) hE)
          · have c2 : isW 2 C := (tr.word h.1 (by decide)).mp c87
            have hs : rdStm n N C = rdPS n C := rdS_pro c0 c1 c2
            refine xs_aload_0 eX8_parseStatement_90 ?_
            refine xbv_V00 (mi' := mX8_parseProcess) (y := yX8_parseProcess) eX8_parseStatement_91 (xw_5 lRX8_356 wy_X8_parseProcess) rfl ⟨wd_X8_parseProcess, by decide, by decide⟩ (by decide) (fun _ => rfl) rfl (Nat.le_of_ble_eq_true rfl) rfl (p_X8_parseProcess h hT.1 tr e hR (fun e9 S9 t9 f9 z9 r9 => ?_) (fun eF S9 f9 hc4 hc5 hE => ?_))
            · have v9 : VP n (k + 1) N T (rdPS n C).2 := rdPS_V h hT.1 e9
              refine xa_goto (tgt := 101) eX8_parseStatement_94 (by decide) ?_
              exact t1_X8_parseStatement (n := n) v9 t9 z9 r9 (fun c S' t f z r => q1 (by rw [hs]; exact e9) (by rw [hs]; exact c) S' _ _ (by rw [hs]; exact (rdSem_V v9 c).1) (by rw [hs]; exact t) (f.tr f9.fw) z (by rw [hs]; exact r)) (fun c S' f a b d => q2 (by rw [hs]; exact e9) (by rw [hs]; exact c) S' (f.tr f9.fw) (by rw [hs]; exact a) (by rw [hs]; exact b) d)
            · refine xa_goto (tgt := 101) eX8_parseStatement_94 (by decide) ?_
              exact t0_X8_parseStatement hE (q0 (by rw [hs]; exact eF) _ f9.fw (by rw [hs]; exact hc4) (by rw [hs]; exact hc5) hE)
        · exact absurd rfl c47
    · exact absurd rfl c7
