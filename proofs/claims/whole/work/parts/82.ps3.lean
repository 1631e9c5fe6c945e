/-! a process in both texts, walked -/
set_option maxHeartbeats 400000 in
theorem p_X8_parseProcess {w : xW} {S : xS} {B : String → xS → Prop} {A : xS → Prop} {C : xS} {n k N : Nat} {T : Int} (h : VP n k N T C) (hT : 0 ≤ T) (tr : TR n C S) (e : S 30 0 20 = 0) (hR : Rel 4 k N C (S 31 0)) (q1 : (rdPS n C).1 = true → ∀ S', TR n (rdPS n C).2 S' → FN S' S → S' 30 0 20 = 0 → Rel 4 (k + 1) N (rdPS n C).2 (S' 31 0) → A S') (q0 : (rdPS n C).1 = false → ∀ S', FN S' S → S' 30 0 20 = (rdPS n C).2 3 0 4 → S' 30 0 21 = (rdPS n C).2 3 0 5 → ¬ S' 30 0 20 = 0 → A S') : Kv w mX8_parseProcess yX8_parseProcess 0 0 [xp 30 0] S A B := by
  refine K.of rfl rfl rfl rfl (Nat.le_of_ble_eq_true rfl) rfl ?_
  have hn := h.2.g.1
  have hk1 : S 31 0 1 = (k : Int) := by rw [hR.1 1 (by decide)]; exact hn
  have hk8 := h.2.2.2.1
  refine xs_aload_0 eX8_parseProcess_0 ?_
  refine xs_aload_0 eX8_parseProcess_1 ?_
  refine g_X8_0 eX8_parseProcess_2 lRX8_7 ?_
  refine xa_iconst eX8_parseProcess_5 ?_
  refine gar_31 eX8_parseProcess_6 (by decide) (fun r6 => ?_)
  try simp only [show (1 : Int).toNat = 1 from rfl, hk1] at r6 ⊢
  refine xa_ldc2 (a := 8) eX8_parseProcess_7 lRX8_92 (by decide) ?_
  refine xa_lcmp eX8_parseProcess_10 (by omega) (by decide) ?_
  refine xa_ifc_ge (tgt := 18) eX8_parseProcess_11 (by decide) (fun c11 => ?_) (fun c11 => ?_)
  · refine xa_iconst eX8_parseProcess_18 ?_
    refine xa_iconst eX8_parseProcess_19 ?_
    refine xbv_V20 (mi' := mX8_require) (y := yX8_require) eX8_parseProcess_20 (xw_5 lRX8_330 wy_X8_require) rfl ⟨wd_X8_require, by decide, by decide⟩ (by decide) (fun _ => rfl) rfl (Nat.le_of_ble_eq_true rfl) rfl (k_X8_require (Or.inl rfl) (by decide) (fun z => absurd z (by decide)) (fun _ => ?_))
    have hE : ¬ rqS 3 S 30 0 20 = 0 := rq_20 (by decide)
    have hc4 : rqS 3 S 30 0 20 = 3 := by unfold rqS; rw [if_pos e, up_f (by decide), up_same]
    have hc5 : rqS 3 S 30 0 21 = C 3 0 7 := by unfold rqS; rw [if_pos e, up_same]; exact tr.2.2.1
    refine xs_aload_0 eX8_parseProcess_23 ?_
    refine xbv_V00 (mi' := mX8_advance) (y := yX8_advance) eX8_parseProcess_24 (xw_5 lRX8_334 wy_X8_advance) rfl ⟨wd_X8_advance, by decide, by decide⟩ (by decide) (fun _ => rfl) rfl (Nat.le_of_ble_eq_true rfl) rfl (z_X8_advance hE ?_)
    refine xs_aload_0 eX8_parseProcess_27 ?_
    refine xa_iconst eX8_parseProcess_28 ?_
    refine xa_ldc (a := 1000000) eX8_parseProcess_29 lRX8_69 (by decide) ?_
    refine xbi_V20 (mi' := mX8_parseNumber) (y := yX8_parseNumber) eX8_parseProcess_31 (xw_5 lRX8_337 wy_X8_parseNumber) rfl ⟨wd_X8_parseNumber, by decide, by decide⟩ (by decide) (fun _ => rfl) rfl (Nat.le_of_ble_eq_true rfl) rfl (z_X8_parseNumber (by decide) (by decide) hE (fun v => ?_))
    refine xs_istore_1 eX8_parseProcess_34 rfl ?_
    refine xs_aload_0 eX8_parseProcess_35 ?_
    refine xa_iconst eX8_parseProcess_36 ?_
    refine xa_sipush eX8_parseProcess_37 (by decide) ?_
    refine xbi_V20 (mi' := mX8_parseNumber) (y := yX8_parseNumber) eX8_parseProcess_40 (xw_5 lRX8_337 wy_X8_parseNumber) rfl ⟨wd_X8_parseNumber, by decide, by decide⟩ (by decide) (fun _ => rfl) rfl (Nat.le_of_ble_eq_true rfl) rfl (z_X8_parseNumber (by decide) (by decide) hE (fun v => ?_))
    refine xs_istore_2 eX8_parseProcess_43 rfl ?_
    refine xs_aload_0 eX8_parseProcess_44 ?_
    refine xa_iconst eX8_parseProcess_45 ?_
    refine xa_bipush eX8_parseProcess_46 (by decide) ?_
    refine xbi_V20 (mi' := mX8_parseNumber) (y := yX8_parseNumber) eX8_parseProcess_48 (xw_5 lRX8_337 wy_X8_parseNumber) rfl ⟨wd_X8_parseNumber, by decide, by decide⟩ (by decide) (fun _ => rfl) rfl (Nat.le_of_ble_eq_true rfl) rfl (z_X8_parseNumber (by decide) (by decide) hE (fun v => ?_))
    refine xs_istore_3 eX8_parseProcess_51 rfl ?_
    refine xs_aload_0 eX8_parseProcess_52 ?_
    refine xa_ldcwS (tx := "every") (i := 3) eX8_parseProcess_53 (List.mem_of_getElem? (i := 9) rfl) ?_
    refine xbi_V10 (mi' := mX8_accept) (y := yX8_accept) eX8_parseProcess_56 (xw_5 lRX8_342 wy_X8_accept) rfl ⟨wd_X8_accept, by decide, by decide⟩ (by decide) (fun _ => rfl) rfl (Nat.le_of_ble_eq_true rfl) rfl (z_X8_accept hE ?_)
    · refine xs_istore_4 eX8_parseProcess_59 rfl ?_
      refine xs_iload_4 eX8_parseProcess_61 ?_
      refine xa_if_eq (tgt := 76) eX8_parseProcess_63 (by decide) (by decide) (fun c63 => ?_) (fun c63 => ?_)
      · refine xa_iconst eX8_parseProcess_76 ?_
        refine xs_istore_5 eX8_parseProcess_77 rfl ?_
        refine xs_iload_4 eX8_parseProcess_79 ?_
        refine xa_if_eq (tgt := 94) eX8_parseProcess_81 (by decide) (by decide) (fun c81 => ?_) (fun c81 => ?_)
        · refine xa_iconst eX8_parseProcess_94 ?_
          refine xs_istore_6 eX8_parseProcess_95 rfl ?_
          refine xs_aload_0 eX8_parseProcess_97 ?_
          refine xbi_V00 (mi' := mX8_isFine) (y := yX8_isFine) eX8_parseProcess_98 (xw_5 lRX8_320 wy_X8_isFine) rfl ⟨wd_X8_isFine, by decide, by decide⟩ (by decide) (fun _ => rfl) rfl (Nat.le_of_ble_eq_true rfl) rfl (k_X8_isFine ?_)
          refine xa_ifb_eq (tgt := 131) eX8_parseProcess_101 (by decide) (fun c101 => ?_) (fun c101 => ?_)
          · exact xa_vret eX8_parseProcess_131 rfl ⟨rfl, by have h9 := q0; simp only [rdPS, bnd, rdPro, rdArr, if_true, if_false, Bool.false_eq_true, reduceIte, Int.toNat_natCast, if_neg (show ¬ C 1 4 3 < 8 by omega)] at h9; exact h9 trivial _ (FM.rq (by decide)).fn hc4 hc5 hE⟩
          · exact absurd c101 hE
        · exact absurd rfl c81
      · exact absurd rfl c63
  · refine xa_iconst eX8_parseProcess_14 ?_
    refine xa_goto (tgt := 19) eX8_parseProcess_15 (by decide) ?_
    refine xa_iconst eX8_parseProcess_19 ?_
    refine xbv_V20 (mi' := mX8_require) (y := yX8_require) eX8_parseProcess_20 (xw_5 lRX8_330 wy_X8_require) rfl ⟨wd_X8_require, by decide, by decide⟩ (by decide) (fun _ => rfl) rfl (Nat.le_of_ble_eq_true rfl) rfl (k_X8_require (Or.inr rfl) (by decide) (fun _ => ?_) (fun z => absurd z (by decide)))
    refine xs_aload_0 eX8_parseProcess_23 ?_
    refine xbv_V00 (mi' := mX8_advance) (y := yX8_advance) eX8_parseProcess_24 (xw_5 lRX8_334 wy_X8_advance) rfl ⟨wd_X8_advance, by decide, by decide⟩ (by decide) (fun _ => rfl) rfl (Nat.le_of_ble_eq_true rfl) rfl (p_X8_advance h.1 tr e (fun S0 t0 f0 z0 => ?_))
    · refine xs_aload_0 eX8_parseProcess_27 ?_
      refine xa_iconst eX8_parseProcess_28 ?_
      refine xa_ldc (a := 1000000) eX8_parseProcess_29 lRX8_69 (by decide) ?_
      refine xbi_V20 (mi' := mX8_parseNumber) (y := yX8_parseNumber) eX8_parseProcess_31 (xw_5 lRX8_337 wy_X8_parseNumber) rfl ⟨wd_X8_parseNumber, by decide, by decide⟩ (by decide) (fun _ => rfl) rfl (Nat.le_of_ble_eq_true rfl) rfl (p_X8_parseNumber h.1 t0 z0 (by decide) (by decide) (by decide) (fun e1 S1 t1 f1 z1 => ?_) (fun e1 v S1 f1 hc4 hc5 hE => ?_))
      · have v1 := rdN_V h e1
        refine xs_istore_1 eX8_parseProcess_34 rfl ?_
        refine xs_aload_0 eX8_parseProcess_35 ?_
        refine xa_iconst eX8_parseProcess_36 ?_
        refine xa_sipush eX8_parseProcess_37 (by decide) ?_
        refine xbi_V20 (mi' := mX8_parseNumber) (y := yX8_parseNumber) eX8_parseProcess_40 (xw_5 lRX8_337 wy_X8_parseNumber) rfl ⟨wd_X8_parseNumber, by decide, by decide⟩ (by decide) (fun _ => rfl) rfl (Nat.le_of_ble_eq_true rfl) rfl (p_X8_parseNumber v1.1.1 t1 z1 (by decide) (by decide) (by decide) (fun e2 S2 t2 f2 z2 => ?_) (fun e2 v S2 f2 hc4 hc5 hE => ?_))
        · have v2 := rdN_V v1.1 e2
          refine xs_istore_2 eX8_parseProcess_43 rfl ?_
          refine xs_aload_0 eX8_parseProcess_44 ?_
          refine xa_iconst eX8_parseProcess_45 ?_
          refine xa_bipush eX8_parseProcess_46 (by decide) ?_
          refine xbi_V20 (mi' := mX8_parseNumber) (y := yX8_parseNumber) eX8_parseProcess_48 (xw_5 lRX8_337 wy_X8_parseNumber) rfl ⟨wd_X8_parseNumber, by decide, by decide⟩ (by decide) (fun _ => rfl) rfl (Nat.le_of_ble_eq_true rfl) rfl (p_X8_parseNumber v2.1.1 t2 z2 (by decide) (by decide) (by decide) (fun e3 S3 t3 f3 z3 => ?_) (fun e3 v S3 f3 hc4 hc5 hE => ?_))
          · have v3 := rdN_V v2.1 e3
            have hn3 : (rdN n 0 99 (rdN n 0 9999 (rdN n 0 1000000 C).2).2).2 1 4 3 = (k : Int) := v3.1.2.g.1
            have vD : VP n (k + 1) N T (nx n (entS 4 k ((rdN n 0 1000000 C).2 3 0 9) ((rdN n 0 9999 (rdN n 0 1000000 C).2).2 3 0 9) ((rdN n 0 99 (rdN n 0 9999 (rdN n 0 1000000 C).2).2).2 3 0 9) (rdN n 0 99 (rdN n 0 9999 (rdN n 0 1000000 C).2).2).2)) := VP.nx ⟨PT_ent v3.1.1, v3.1.2.ent (by omega) hT v1.2 v2.2 v3.2⟩
            have hnD : (nx n (entS 4 k ((rdN n 0 1000000 C).2 3 0 9) ((rdN n 0 9999 (rdN n 0 1000000 C).2).2 3 0 9) ((rdN n 0 99 (rdN n 0 9999 (rdN n 0 1000000 C).2).2).2 3 0 9) (rdN n 0 99 (rdN n 0 9999 (rdN n 0 1000000 C).2).2).2)) 1 4 3 - 1 = (k : Int) := by have z := vD.2.g.1; omega
            have tD : TR n (nx n (entS 4 k ((rdN n 0 1000000 C).2 3 0 9) ((rdN n 0 9999 (rdN n 0 1000000 C).2).2 3 0 9) ((rdN n 0 99 (rdN n 0 9999 (rdN n 0 1000000 C).2).2).2 3 0 9) (rdN n 0 99 (rdN n 0 9999 (rdN n 0 1000000 C).2).2).2)) S3 := t3.nxe (fun f _ _ => rfl) rfl
            refine xs_istore_3 eX8_parseProcess_51 rfl ?_
            refine xs_aload_0 eX8_parseProcess_52 ?_
            refine xa_ldcwS (tx := "every") (i := 3) eX8_parseProcess_53 (List.mem_of_getElem? (i := 9) rfl) ?_
            refine xbi_V10 (mi' := mX8_accept) (y := yX8_accept) eX8_parseProcess_56 (xw_5 lRX8_342 wy_X8_accept) rfl ⟨wd_X8_accept, by decide, by decide⟩ (by decide) (fun _ => rfl) rfl (Nat.le_of_ble_eq_true rfl) rfl (p_X8_accept (by decide) vD.1 tD z3 (fun c3 S4 t4 f4 z4 => ?_) (fun c3 => ?_))
            · refine xs_istore_4 eX8_parseProcess_59 rfl ?_
              refine xs_iload_4 eX8_parseProcess_61 ?_
              refine xa_if_eq (tgt := 76) eX8_parseProcess_63 (by decide) (by decide) (fun c63 => ?_) (fun c63 => ?_)
              · exact absurd c63 (by decide)
              · refine xs_aload_0 eX8_parseProcess_66 ?_
                refine xa_iconst eX8_parseProcess_67 ?_
                refine xa_bipush eX8_parseProcess_68 (by decide) ?_
                refine xbi_V20 (mi' := mX8_parseNumber) (y := yX8_parseNumber) eX8_parseProcess_70 (xw_5 lRX8_337 wy_X8_parseNumber) rfl ⟨wd_X8_parseNumber, by decide, by decide⟩ (by decide) (fun _ => rfl) rfl (Nat.le_of_ble_eq_true rfl) rfl (p_X8_parseNumber vD.1 t4 z4 (by decide) (by decide) (by decide) (fun e5 S5 t5 f5 z5 => ?_) (fun e5 v S5 f5 hc4 hc5 hE => ?_))
                · have v5 := rdN_V vD e5
                  have vC : VP n (k + 1) N T (up (rdN n 0 60 (nx n (entS 4 k ((rdN n 0 1000000 C).2 3 0 9) ((rdN n 0 9999 (rdN n 0 1000000 C).2).2 3 0 9) ((rdN n 0 99 (rdN n 0 9999 (rdN n 0 1000000 C).2).2).2 3 0 9) (rdN n 0 99 (rdN n 0 9999 (rdN n 0 1000000 C).2).2).2))).2 4 (8 * 4 + k) 3 ((rdN n 0 60 (nx n (entS 4 k ((rdN n 0 1000000 C).2 3 0 9) ((rdN n 0 9999 (rdN n 0 1000000 C).2).2 3 0 9) ((rdN n 0 99 (rdN n 0 9999 (rdN n 0 1000000 C).2).2).2 3 0 9) (rdN n 0 99 (rdN n 0 9999 (rdN n 0 1000000 C).2).2).2))).2 3 0 9)) := ⟨PT_up v5.1.1 (by decide), v5.1.2.pus (by omega) (by have z := v5.1.2.p (p := k) (by omega); unfold PQ at z ⊢; simp (decide := true) only [if_true, if_false]; omega)⟩
                  have t5b : TR n (nx n (up (rdN n 0 60 (nx n (entS 4 k ((rdN n 0 1000000 C).2 3 0 9) ((rdN n 0 9999 (rdN n 0 1000000 C).2).2 3 0 9) ((rdN n 0 99 (rdN n 0 9999 (rdN n 0 1000000 C).2).2).2 3 0 9) (rdN n 0 99 (rdN n 0 9999 (rdN n 0 1000000 C).2).2).2))).2 4 (8 * 4 + k) 3 ((rdN n 0 60 (nx n (entS 4 k ((rdN n 0 1000000 C).2 3 0 9) ((rdN n 0 9999 (rdN n 0 1000000 C).2).2 3 0 9) ((rdN n 0 99 (rdN n 0 9999 (rdN n 0 1000000 C).2).2).2 3 0 9) (rdN n 0 99 (rdN n 0 9999 (rdN n 0 1000000 C).2).2).2))).2 3 0 9))) S5 := t5.nxe (fun f _ _ => rfl) rfl
                  refine xa_goto (tgt := 77) eX8_parseProcess_73 (by decide) ?_
                  refine xs_istore_5 eX8_parseProcess_77 rfl ?_
                  refine xs_iload_4 eX8_parseProcess_79 ?_
                  refine xa_if_eq (tgt := 94) eX8_parseProcess_81 (by decide) (by decide) (fun c81 => ?_) (fun c81 => ?_)
                  · exact absurd c81 (by decide)
                  · refine xs_aload_0 eX8_parseProcess_84 ?_
                    refine xa_iconst eX8_parseProcess_85 ?_
                    refine xa_bipush eX8_parseProcess_86 (by decide) ?_
                    refine xbi_V20 (mi' := mX8_parseNumber) (y := yX8_parseNumber) eX8_parseProcess_88 (xw_5 lRX8_337 wy_X8_parseNumber) rfl ⟨wd_X8_parseNumber, by decide, by decide⟩ (by decide) (fun _ => rfl) rfl (Nat.le_of_ble_eq_true rfl) rfl (p_X8_parseNumber vC.1 t5b z5 (by decide) (by decide) (by decide) (fun e6 S6 t6 f6 z6 => ?_) (fun e6 v S6 f6 hc4 hc5 hE => ?_))
                    · have v6 := rdN_V vC e6
                      refine xa_goto (tgt := 95) eX8_parseProcess_91 (by decide) ?_
                      refine xs_istore_6 eX8_parseProcess_95 rfl ?_
                      have hx3 : ∀ x, x ≠ 3 → (rdN n 0 99 (rdN n 0 9999 (rdN n 0 1000000 C).2).2).2 x = C x := fun x hx => by rw [(rdN_P v2.1.1 e3).2.2 x hx, (rdN_P v1.1.1 e2).2.2 x hx, (rdN_P h.1 e1).2.2 x hx]
                      have hxD : ∀ x, x ≠ 3 → (nx n (entS 4 k ((rdN n 0 1000000 C).2 3 0 9) ((rdN n 0 9999 (rdN n 0 1000000 C).2).2 3 0 9) ((rdN n 0 99 (rdN n 0 9999 (rdN n 0 1000000 C).2).2).2 3 0 9) (rdN n 0 99 (rdN n 0 9999 (rdN n 0 1000000 C).2).2).2)) x = (entS 4 k ((rdN n 0 1000000 C).2 3 0 9) ((rdN n 0 9999 (rdN n 0 1000000 C).2).2 3 0 9) ((rdN n 0 99 (rdN n 0 9999 (rdN n 0 1000000 C).2).2).2 3 0 9) C) x := fun x hx => by rw [nx_o hx]; exact ent_cg (hx3 x hx)
                      have hxF : ∀ x, x ≠ 3 → (nx n (up (rdN n 0 60 (up (rdN n 0 60 (nx n (entS 4 k ((rdN n 0 1000000 C).2 3 0 9) ((rdN n 0 9999 (rdN n 0 1000000 C).2).2 3 0 9) ((rdN n 0 99 (rdN n 0 9999 (rdN n 0 1000000 C).2).2).2 3 0 9) (rdN n 0 99 (rdN n 0 9999 (rdN n 0 1000000 C).2).2).2))).2 4 (8 * 4 + k) 3 ((rdN n 0 60 (nx n (entS 4 k ((rdN n 0 1000000 C).2 3 0 9) ((rdN n 0 9999 (rdN n 0 1000000 C).2).2 3 0 9) ((rdN n 0 99 (rdN n 0 9999 (rdN n 0 1000000 C).2).2).2 3 0 9) (rdN n 0 99 (rdN n 0 9999 (rdN n 0 1000000 C).2).2).2))).2 3 0 9))).2 4 (8 * 4 + k) 4 ((rdN n 0 60 (up (rdN n 0 60 (nx n (entS 4 k ((rdN n 0 1000000 C).2 3 0 9) ((rdN n 0 9999 (rdN n 0 1000000 C).2).2 3 0 9) ((rdN n 0 99 (rdN n 0 9999 (rdN n 0 1000000 C).2).2).2 3 0 9) (rdN n 0 99 (rdN n 0 9999 (rdN n 0 1000000 C).2).2).2))).2 4 (8 * 4 + k) 3 ((rdN n 0 60 (nx n (entS 4 k ((rdN n 0 1000000 C).2 3 0 9) ((rdN n 0 9999 (rdN n 0 1000000 C).2).2 3 0 9) ((rdN n 0 99 (rdN n 0 9999 (rdN n 0 1000000 C).2).2).2 3 0 9) (rdN n 0 99 (rdN n 0 9999 (rdN n 0 1000000 C).2).2).2))).2 3 0 9))).2 3 0 9))) x = up (up (entS 4 k ((rdN n 0 1000000 C).2 3 0 9) ((rdN n 0 9999 (rdN n 0 1000000 C).2).2 3 0 9) ((rdN n 0 99 (rdN n 0 9999 (rdN n 0 1000000 C).2).2).2 3 0 9) C) 4 (8 * 4 + k) 3 ((rdN n 0 60 (nx n (entS 4 k ((rdN n 0 1000000 C).2 3 0 9) ((rdN n 0 9999 (rdN n 0 1000000 C).2).2 3 0 9) ((rdN n 0 99 (rdN n 0 9999 (rdN n 0 1000000 C).2).2).2 3 0 9) (rdN n 0 99 (rdN n 0 9999 (rdN n 0 1000000 C).2).2).2))).2 3 0 9)) 4 (8 * 4 + k) 4 ((rdN n 0 60 (up (rdN n 0 60 (nx n (entS 4 k ((rdN n 0 1000000 C).2 3 0 9) ((rdN n 0 9999 (rdN n 0 1000000 C).2).2 3 0 9) ((rdN n 0 99 (rdN n 0 9999 (rdN n 0 1000000 C).2).2).2 3 0 9) (rdN n 0 99 (rdN n 0 9999 (rdN n 0 1000000 C).2).2).2))).2 4 (8 * 4 + k) 3 ((rdN n 0 60 (nx n (entS 4 k ((rdN n 0 1000000 C).2 3 0 9) ((rdN n 0 9999 (rdN n 0 1000000 C).2).2 3 0 9) ((rdN n 0 99 (rdN n 0 9999 (rdN n 0 1000000 C).2).2).2 3 0 9) (rdN n 0 99 (rdN n 0 9999 (rdN n 0 1000000 C).2).2).2))).2 3 0 9))).2 3 0 9) x := fun x hx => by rw [nx_o hx]; refine up_cg ?_; rw [(rdN_P vC.1 e6).2.2 x hx]; refine up_cg ?_; rw [(rdN_P vD.1 e5).2.2 x hx]; exact hxD x hx
                      refine xs_aload_0 eX8_parseProcess_97 ?_
                      refine xbi_V00 (mi' := mX8_isFine) (y := yX8_isFine) eX8_parseProcess_98 (xw_5 lRX8_320 wy_X8_isFine) rfl ⟨wd_X8_isFine, by decide, by decide⟩ (by decide) (fun _ => rfl) rfl (Nat.le_of_ble_eq_true rfl) rfl (k_X8_isFine ?_)
                      refine xa_ifb_eq (tgt := 131) eX8_parseProcess_101 (by decide) (fun c101 => ?_) (fun c101 => ?_)
                      · exact absurd z6 c101
                      · refine X_store (stM_self S6).symm ?_
                        refine xs_aload_0 eX8_parseProcess_104 ?_
                        refine xs_iload_1 eX8_parseProcess_105 ?_
                        refine xs_iload_2 eX8_parseProcess_106 ?_
                        refine xs_iload_3 eX8_parseProcess_107 ?_
                        refine xbi_V30 (mi' := mX8_appendProcess) (y := yX8_appendProcess) eX8_parseProcess_108 (xw_5 lRX8_94 wy_X8_appendProcess) rfl ⟨wd_X8_appendProcess, by decide, by decide⟩ (by decide) (fun _ => rfl) rfl (Nat.le_of_ble_eq_true rfl) rfl (r_X8_appendProcess (s := 4) h.2 (show Rel 4 k N C (S6 31 0) by rw [f6.1 31 (by decide), f5.1 31 (by decide), f4.1 31 (by decide), f3.1 31 (by decide), f2.1 31 (by decide), f1.1 31 (by decide), f0.1 31 (by decide)]; exact hR) (by omega) (by have z := v1.2; omega) (by have z := v2.2; omega) (by have z := v3.2; omega) (fun M1 hM1 => ?_))
                        refine xs_istore_7 eX8_parseProcess_111 rfl ?_
                        refine xs_aload_0 eX8_parseProcess_113 ?_
                        refine xs_iload_7 eX8_parseProcess_114 ?_
                        refine xa_iconst eX8_parseProcess_116 ?_
                        refine xs_iload_5 eX8_parseProcess_117 ?_
                        refine xbv_V30 (mi' := mX8_put) (y := yX8_put) eX8_parseProcess_119 (xw_5 lRX8_79 wy_X8_put) rfl ⟨wd_X8_put, by decide, by decide⟩ (by decide) (fun _ => rfl) rfl (Nat.le_of_ble_eq_true rfl) rfl (r_X8_put (s := 4) (p := k) (g := 3) hM1 rfl rfl (by omega) (by omega) h.2.2.1 (by decide) (by have z := v5.2; omega) (fun M2 hM2 => ?_))
                        refine xs_aload_0 eX8_parseProcess_122 ?_
                        refine xs_iload_7 eX8_parseProcess_123 ?_
                        refine xa_iconst eX8_parseProcess_125 ?_
                        refine xs_iload_6 eX8_parseProcess_126 ?_
                        refine xbv_V30 (mi' := mX8_put) (y := yX8_put) eX8_parseProcess_128 (xw_5 lRX8_79 wy_X8_put) rfl ⟨wd_X8_put, by decide, by decide⟩ (by decide) (fun _ => rfl) rfl (Nat.le_of_ble_eq_true rfl) rfl (r_X8_put (s := 4) (p := k) (g := 4) hM2 rfl rfl (by omega) (by omega) h.2.2.1 (by decide) (by have z := v6.2; omega) (fun M3 hM3 => ?_))
                        exact xa_vret eX8_parseProcess_131 rfl ⟨rfl, by have h9 := q1; simp only [rdPS, bnd, rdPro, rdArr, if_true, if_false, Bool.false_eq_true, reduceIte, hn3, hnD, Int.toNat_natCast, if_pos (show C 1 4 3 < 8 by omega), e1, e2, e3, if_pos c3, e5, e6] at h9; exact h9 trivial _ ((show TR n (nx n (up (rdN n 0 60 (up (rdN n 0 60 (nx n (entS 4 k ((rdN n 0 1000000 C).2 3 0 9) ((rdN n 0 9999 (rdN n 0 1000000 C).2).2 3 0 9) ((rdN n 0 99 (rdN n 0 9999 (rdN n 0 1000000 C).2).2).2 3 0 9) (rdN n 0 99 (rdN n 0 9999 (rdN n 0 1000000 C).2).2).2))).2 4 (8 * 4 + k) 3 ((rdN n 0 60 (nx n (entS 4 k ((rdN n 0 1000000 C).2 3 0 9) ((rdN n 0 9999 (rdN n 0 1000000 C).2).2 3 0 9) ((rdN n 0 99 (rdN n 0 9999 (rdN n 0 1000000 C).2).2).2 3 0 9) (rdN n 0 99 (rdN n 0 9999 (rdN n 0 1000000 C).2).2).2))).2 3 0 9))).2 4 (8 * 4 + k) 4 ((rdN n 0 60 (up (rdN n 0 60 (nx n (entS 4 k ((rdN n 0 1000000 C).2 3 0 9) ((rdN n 0 9999 (rdN n 0 1000000 C).2).2 3 0 9) ((rdN n 0 99 (rdN n 0 9999 (rdN n 0 1000000 C).2).2).2 3 0 9) (rdN n 0 99 (rdN n 0 9999 (rdN n 0 1000000 C).2).2).2))).2 4 (8 * 4 + k) 3 ((rdN n 0 60 (nx n (entS 4 k ((rdN n 0 1000000 C).2 3 0 9) ((rdN n 0 9999 (rdN n 0 1000000 C).2).2 3 0 9) ((rdN n 0 99 (rdN n 0 9999 (rdN n 0 1000000 C).2).2).2 3 0 9) (rdN n 0 99 (rdN n 0 9999 (rdN n 0 1000000 C).2).2).2))).2 3 0 9))).2 3 0 9))) S6 from t6.nxe (fun f _ _ => rfl) rfl).of (fun _ _ _ => rfl) rfl (fun f _ _ _ => by rw [stM_k (by decide)]) (by rw [stM_k (by decide)])) (FN.m.tr (f6.tr (f5.tr (f4.tr (f3.tr (f2.tr (f1.tr f0)))))).fn) (by rw [stM_k (by decide)]; exact z6) (by rw [stM_31]; exact hM3.cls (by omega) h.2.2.1 (fun x y hx => by rw [hxF x (by omega)]))⟩
                    · refine xa_goto (tgt := 95) eX8_parseProcess_91 (by decide) ?_
                      refine xs_istore_6 eX8_parseProcess_95 rfl ?_
                      refine xs_aload_0 eX8_parseProcess_97 ?_
                      refine xbi_V00 (mi' := mX8_isFine) (y := yX8_isFine) eX8_parseProcess_98 (xw_5 lRX8_320 wy_X8_isFine) rfl ⟨wd_X8_isFine, by decide, by decide⟩ (by decide) (fun _ => rfl) rfl (Nat.le_of_ble_eq_true rfl) rfl (k_X8_isFine ?_)
                      refine xa_ifb_eq (tgt := 131) eX8_parseProcess_101 (by decide) (fun c101 => ?_) (fun c101 => ?_)
                      · exact xa_vret eX8_parseProcess_131 rfl ⟨rfl, by have h9 := q0; simp only [rdPS, bnd, rdPro, rdArr, if_true, if_false, Bool.false_eq_true, reduceIte, hn3, hnD, Int.toNat_natCast, if_pos (show C 1 4 3 < 8 by omega), e1, e2, e3, if_pos c3, e5, e6] at h9; exact h9 trivial _ (f6.tr (f5.tr (f4.tr (f3.tr (f2.tr (f1.tr f0)))))).fn hc4 hc5 hE⟩
                      · exact absurd c101 hE
                · refine xa_goto (tgt := 77) eX8_parseProcess_73 (by decide) ?_
                  refine xs_istore_5 eX8_parseProcess_77 rfl ?_
                  refine xs_iload_4 eX8_parseProcess_79 ?_
                  refine xa_if_eq (tgt := 94) eX8_parseProcess_81 (by decide) (by decide) (fun c81 => ?_) (fun c81 => ?_)
                  · exact absurd c81 (by decide)
                  · refine xs_aload_0 eX8_parseProcess_84 ?_
                    refine xa_iconst eX8_parseProcess_85 ?_
                    refine xa_bipush eX8_parseProcess_86 (by decide) ?_
                    refine xbi_V20 (mi' := mX8_parseNumber) (y := yX8_parseNumber) eX8_parseProcess_88 (xw_5 lRX8_337 wy_X8_parseNumber) rfl ⟨wd_X8_parseNumber, by decide, by decide⟩ (by decide) (fun _ => rfl) rfl (Nat.le_of_ble_eq_true rfl) rfl (z_X8_parseNumber (by decide) (by decide) hE (fun v => ?_))
                    refine xa_goto (tgt := 95) eX8_parseProcess_91 (by decide) ?_
                    refine xs_istore_6 eX8_parseProcess_95 rfl ?_
                    refine xs_aload_0 eX8_parseProcess_97 ?_
                    refine xbi_V00 (mi' := mX8_isFine) (y := yX8_isFine) eX8_parseProcess_98 (xw_5 lRX8_320 wy_X8_isFine) rfl ⟨wd_X8_isFine, by decide, by decide⟩ (by decide) (fun _ => rfl) rfl (Nat.le_of_ble_eq_true rfl) rfl (k_X8_isFine ?_)
                    refine xa_ifb_eq (tgt := 131) eX8_parseProcess_101 (by decide) (fun c101 => ?_) (fun c101 => ?_)
                    · exact xa_vret eX8_parseProcess_131 rfl ⟨rfl, by have h9 := q0; simp only [rdPS, bnd, rdPro, rdArr, if_true, if_false, Bool.false_eq_true, reduceIte, hn3, hnD, Int.toNat_natCast, if_pos (show C 1 4 3 < 8 by omega), e1, e2, e3, if_pos c3, e5] at h9; exact h9 trivial _ (f5.tr (f4.tr (f3.tr (f2.tr (f1.tr f0))))).fn hc4 hc5 hE⟩
                    · exact absurd c101 hE
            · refine xs_istore_4 eX8_parseProcess_59 rfl ?_
              refine xs_iload_4 eX8_parseProcess_61 ?_
              refine xa_if_eq (tgt := 76) eX8_parseProcess_63 (by decide) (by decide) (fun c63 => ?_) (fun c63 => ?_)
              · refine xa_iconst eX8_parseProcess_76 ?_
                refine xs_istore_5 eX8_parseProcess_77 rfl ?_
                refine xs_iload_4 eX8_parseProcess_79 ?_
                refine xa_if_eq (tgt := 94) eX8_parseProcess_81 (by decide) (by decide) (fun c81 => ?_) (fun c81 => ?_)
                · refine xa_iconst eX8_parseProcess_94 ?_
                  refine xs_istore_6 eX8_parseProcess_95 rfl ?_
                  have hx3 : ∀ x, x ≠ 3 → (rdN n 0 99 (rdN n 0 9999 (rdN n 0 1000000 C).2).2).2 x = C x := fun x hx => by rw [(rdN_P v2.1.1 e3).2.2 x hx, (rdN_P v1.1.1 e2).2.2 x hx, (rdN_P h.1 e1).2.2 x hx]
                  have hxD : ∀ x, x ≠ 3 → (nx n (entS 4 k ((rdN n 0 1000000 C).2 3 0 9) ((rdN n 0 9999 (rdN n 0 1000000 C).2).2 3 0 9) ((rdN n 0 99 (rdN n 0 9999 (rdN n 0 1000000 C).2).2).2 3 0 9) (rdN n 0 99 (rdN n 0 9999 (rdN n 0 1000000 C).2).2).2)) x = (entS 4 k ((rdN n 0 1000000 C).2 3 0 9) ((rdN n 0 9999 (rdN n 0 1000000 C).2).2 3 0 9) ((rdN n 0 99 (rdN n 0 9999 (rdN n 0 1000000 C).2).2).2 3 0 9) C) x := fun x hx => by rw [nx_o hx]; exact ent_cg (hx3 x hx)
                  have h30 : ∀ f, (entS 4 k ((rdN n 0 1000000 C).2 3 0 9) ((rdN n 0 9999 (rdN n 0 1000000 C).2).2 3 0 9) ((rdN n 0 99 (rdN n 0 9999 (rdN n 0 1000000 C).2).2).2 3 0 9) C) 4 (8 * 4 + k) f = (if f = 0 then (rdN n 0 1000000 C).2 3 0 9 else if f = 1 then (rdN n 0 9999 (rdN n 0 1000000 C).2).2 3 0 9 else if f = 2 then (rdN n 0 99 (rdN n 0 9999 (rdN n 0 1000000 C).2).2).2 3 0 9 else 0) := fun f => by unfold entS; rw [up_k (by decide), rwS_at]
                  refine xs_aload_0 eX8_parseProcess_97 ?_
                  refine xbi_V00 (mi' := mX8_isFine) (y := yX8_isFine) eX8_parseProcess_98 (xw_5 lRX8_320 wy_X8_isFine) rfl ⟨wd_X8_isFine, by decide, by decide⟩ (by decide) (fun _ => rfl) rfl (Nat.le_of_ble_eq_true rfl) rfl (k_X8_isFine ?_)
                  refine xa_ifb_eq (tgt := 131) eX8_parseProcess_101 (by decide) (fun c101 => ?_) (fun c101 => ?_)
                  · exact absurd z3 c101
                  · refine X_store (stM_self S3).symm ?_
                    refine xs_aload_0 eX8_parseProcess_104 ?_
                    refine xs_iload_1 eX8_parseProcess_105 ?_
                    refine xs_iload_2 eX8_parseProcess_106 ?_
                    refine xs_iload_3 eX8_parseProcess_107 ?_
                    refine xbi_V30 (mi' := mX8_appendProcess) (y := yX8_appendProcess) eX8_parseProcess_108 (xw_5 lRX8_94 wy_X8_appendProcess) rfl ⟨wd_X8_appendProcess, by decide, by decide⟩ (by decide) (fun _ => rfl) rfl (Nat.le_of_ble_eq_true rfl) rfl (r_X8_appendProcess (s := 4) h.2 (show Rel 4 k N C (S3 31 0) by rw [f3.1 31 (by decide), f2.1 31 (by decide), f1.1 31 (by decide), f0.1 31 (by decide)]; exact hR) (by omega) (by have z := v1.2; omega) (by have z := v2.2; omega) (by have z := v3.2; omega) (fun M1 hM1 => ?_))
                    refine xs_istore_7 eX8_parseProcess_111 rfl ?_
                    refine xs_aload_0 eX8_parseProcess_113 ?_
                    refine xs_iload_7 eX8_parseProcess_114 ?_
                    refine xa_iconst eX8_parseProcess_116 ?_
                    refine xs_iload_5 eX8_parseProcess_117 ?_
                    refine xbv_V30 (mi' := mX8_put) (y := yX8_put) eX8_parseProcess_119 (xw_5 lRX8_79 wy_X8_put) rfl ⟨wd_X8_put, by decide, by decide⟩ (by decide) (fun _ => rfl) rfl (Nat.le_of_ble_eq_true rfl) rfl (r_X8_put (s := 4) (p := k) (g := 3) hM1 rfl rfl (by omega) (by omega) h.2.2.1 (by decide) (by decide) (fun M2 hM2 => ?_))
                    refine xs_aload_0 eX8_parseProcess_122 ?_
                    refine xs_iload_7 eX8_parseProcess_123 ?_
                    refine xa_iconst eX8_parseProcess_125 ?_
                    refine xs_iload_6 eX8_parseProcess_126 ?_
                    refine xbv_V30 (mi' := mX8_put) (y := yX8_put) eX8_parseProcess_128 (xw_5 lRX8_79 wy_X8_put) rfl ⟨wd_X8_put, by decide, by decide⟩ (by decide) (fun _ => rfl) rfl (Nat.le_of_ble_eq_true rfl) rfl (r_X8_put (s := 4) (p := k) (g := 4) hM2 rfl rfl (by omega) (by omega) h.2.2.1 (by decide) (by decide) (fun M3 hM3 => ?_))
                    exact xa_vret eX8_parseProcess_131 rfl ⟨rfl, by have h9 := q1; simp only [rdPS, bnd, rdPro, rdArr, if_true, if_false, Bool.false_eq_true, reduceIte, hn3, hnD, Int.toNat_natCast, if_pos (show C 1 4 3 < 8 by omega), e1, e2, e3, if_neg c3] at h9; exact h9 trivial _ (tD.of (fun _ _ _ => rfl) rfl (fun f _ _ _ => by rw [stM_k (by decide)]) (by rw [stM_k (by decide)])) (FN.m.tr (f3.tr (f2.tr (f1.tr f0))).fn) (by rw [stM_k (by decide)]; exact z3) (by rw [stM_31]; rw [up_id (k := 4) (f := 3) (v := 0) (by rw [h30]; rfl), up_id (k := 4) (f := 4) (v := 0) (by rw [h30]; rfl)] at hM3; exact hM3.cls (by omega) h.2.2.1 (fun x y hx => by rw [hxD x (by omega)]))⟩
                · exact absurd rfl c81
              · exact absurd rfl c63
          · refine xs_istore_3 eX8_parseProcess_51 rfl ?_
            refine xs_aload_0 eX8_parseProcess_52 ?_
            refine xa_ldcwS (tx := "every") (i := 3) eX8_parseProcess_53 (List.mem_of_getElem? (i := 9) rfl) ?_
            refine xbi_V10 (mi' := mX8_accept) (y := yX8_accept) eX8_parseProcess_56 (xw_5 lRX8_342 wy_X8_accept) rfl ⟨wd_X8_accept, by decide, by decide⟩ (by decide) (fun _ => rfl) rfl (Nat.le_of_ble_eq_true rfl) rfl (z_X8_accept hE ?_)
            · refine xs_istore_4 eX8_parseProcess_59 rfl ?_
              refine xs_iload_4 eX8_parseProcess_61 ?_
              refine xa_if_eq (tgt := 76) eX8_parseProcess_63 (by decide) (by decide) (fun c63 => ?_) (fun c63 => ?_)
              · refine xa_iconst eX8_parseProcess_76 ?_
                refine xs_istore_5 eX8_parseProcess_77 rfl ?_
                refine xs_iload_4 eX8_parseProcess_79 ?_
                refine xa_if_eq (tgt := 94) eX8_parseProcess_81 (by decide) (by decide) (fun c81 => ?_) (fun c81 => ?_)
                · refine xa_iconst eX8_parseProcess_94 ?_
                  refine xs_istore_6 eX8_parseProcess_95 rfl ?_
                  refine xs_aload_0 eX8_parseProcess_97 ?_
                  refine xbi_V00 (mi' := mX8_isFine) (y := yX8_isFine) eX8_parseProcess_98 (xw_5 lRX8_320 wy_X8_isFine) rfl ⟨wd_X8_isFine, by decide, by decide⟩ (by decide) (fun _ => rfl) rfl (Nat.le_of_ble_eq_true rfl) rfl (k_X8_isFine ?_)
                  refine xa_ifb_eq (tgt := 131) eX8_parseProcess_101 (by decide) (fun c101 => ?_) (fun c101 => ?_)
                  · exact xa_vret eX8_parseProcess_131 rfl ⟨rfl, by have h9 := q0; simp only [rdPS, bnd, rdPro, rdArr, if_true, if_false, Bool.false_eq_true, reduceIte, Int.toNat_natCast, if_pos (show C 1 4 3 < 8 by omega), e1, e2, e3] at h9; exact h9 trivial _ (f3.tr (f2.tr (f1.tr f0))).fn hc4 hc5 hE⟩
                  · exact absurd c101 hE
                · exact absurd rfl c81
              · exact absurd rfl c63
        · refine xs_istore_2 eX8_parseProcess_43 rfl ?_
          refine xs_aload_0 eX8_parseProcess_44 ?_
          refine xa_iconst eX8_parseProcess_45 ?_
          refine xa_bipush eX8_parseProcess_46 (by decide) ?_
          refine xbi_V20 (mi' := mX8_parseNumber) (y := yX8_parseNumber) eX8_parseProcess_48 (xw_5 lRX8_337 wy_X8_parseNumber) rfl ⟨wd_X8_parseNumber, by decide, by decide⟩ (by decide) (fun _ => rfl) rfl (Nat.le_of_ble_eq_true rfl) rfl (z_X8_parseNumber (by decide) (by decide) hE (fun v => ?_))
          refine xs_istore_3 eX8_parseProcess_51 rfl ?_
          refine xs_aload_0 eX8_parseProcess_52 ?_
          refine xa_ldcwS (tx := "every") (i := 3) eX8_parseProcess_53 (List.mem_of_getElem? (i := 9) rfl) ?_
          refine xbi_V10 (mi' := mX8_accept) (y := yX8_accept) eX8_parseProcess_56 (xw_5 lRX8_342 wy_X8_accept) rfl ⟨wd_X8_accept, by decide, by decide⟩ (by decide) (fun _ => rfl) rfl (Nat.le_of_ble_eq_true rfl) rfl (z_X8_accept hE ?_)
          · refine xs_istore_4 eX8_parseProcess_59 rfl ?_
            refine xs_iload_4 eX8_parseProcess_61 ?_
            refine xa_if_eq (tgt := 76) eX8_parseProcess_63 (by decide) (by decide) (fun c63 => ?_) (fun c63 => ?_)
            · refine xa_iconst eX8_parseProcess_76 ?_
              refine xs_istore_5 eX8_parseProcess_77 rfl ?_
              refine xs_iload_4 eX8_parseProcess_79 ?_
              refine xa_if_eq (tgt := 94) eX8_parseProcess_81 (by decide) (by decide) (fun c81 => ?_) (fun c81 => ?_)
              · refine xa_iconst eX8_parseProcess_94 ?_
                refine xs_istore_6 eX8_parseProcess_95 rfl ?_
                refine xs_aload_0 eX8_parseProcess_97 ?_
                refine xbi_V00 (mi' := mX8_isFine) (y := yX8_isFine) eX8_parseProcess_98 (xw_5 lRX8_320 wy_X8_isFine) rfl ⟨wd_X8_isFine, by decide, by decide⟩ (by decide) (fun _ => rfl) rfl (Nat.le_of_ble_eq_true rfl) rfl (k_X8_isFine ?_)
                refine xa_ifb_eq (tgt := 131) eX8_parseProcess_101 (by decide) (fun c101 => ?_) (fun c101 => ?_)
                · exact xa_vret eX8_parseProcess_131 rfl ⟨rfl, by have h9 := q0; simp only [rdPS, bnd, rdPro, rdArr, if_true, if_false, Bool.false_eq_true, reduceIte, Int.toNat_natCast, if_pos (show C 1 4 3 < 8 by omega), e1, e2] at h9; exact h9 trivial _ (f2.tr (f1.tr f0)).fn hc4 hc5 hE⟩
                · exact absurd c101 hE
              · exact absurd rfl c81
            · exact absurd rfl c63
      · refine xs_istore_1 eX8_parseProcess_34 rfl ?_
        refine xs_aload_0 eX8_parseProcess_35 ?_
        refine xa_iconst eX8_parseProcess_36 ?_
        refine xa_sipush eX8_parseProcess_37 (by decide) ?_
        refine xbi_V20 (mi' := mX8_parseNumber) (y := yX8_parseNumber) eX8_parseProcess_40 (xw_5 lRX8_337 wy_X8_parseNumber) rfl ⟨wd_X8_parseNumber, by decide, by decide⟩ (by decide) (fun _ => rfl) rfl (Nat.le_of_ble_eq_true rfl) rfl (z_X8_parseNumber (by decide) (by decide) hE (fun v => ?_))
        refine xs_istore_2 eX8_parseProcess_43 rfl ?_
        refine xs_aload_0 eX8_parseProcess_44 ?_
        refine xa_iconst eX8_parseProcess_45 ?_
        refine xa_bipush eX8_parseProcess_46 (by decide) ?_
        refine xbi_V20 (mi' := mX8_parseNumber) (y := yX8_parseNumber) eX8_parseProcess_48 (xw_5 lRX8_337 wy_X8_parseNumber) rfl ⟨wd_X8_parseNumber, by decide, by decide⟩ (by decide) (fun _ => rfl) rfl (Nat.le_of_ble_eq_true rfl) rfl (z_X8_parseNumber (by decide) (by decide) hE (fun v => ?_))
        refine xs_istore_3 eX8_parseProcess_51 rfl ?_
        refine xs_aload_0 eX8_parseProcess_52 ?_
        refine xa_ldcwS (tx := "every") (i := 3) eX8_parseProcess_53 (List.mem_of_getElem? (i := 9) rfl) ?_
        refine xbi_V10 (mi' := mX8_accept) (y := yX8_accept) eX8_parseProcess_56 (xw_5 lRX8_342 wy_X8_accept) rfl ⟨wd_X8_accept, by decide, by decide⟩ (by decide) (fun _ => rfl) rfl (Nat.le_of_ble_eq_true rfl) rfl (z_X8_accept hE ?_)
        · refine xs_istore_4 eX8_parseProcess_59 rfl ?_
          refine xs_iload_4 eX8_parseProcess_61 ?_
          refine xa_if_eq (tgt := 76) eX8_parseProcess_63 (by decide) (by decide) (fun c63 => ?_) (fun c63 => ?_)
          · refine xa_iconst eX8_parseProcess_76 ?_
            refine xs_istore_5 eX8_parseProcess_77 rfl ?_
            refine xs_iload_4 eX8_parseProcess_79 ?_
            refine xa_if_eq (tgt := 94) eX8_parseProcess_81 (by decide) (by decide) (fun c81 => ?_) (fun c81 => ?_)
            · refine xa_iconst eX8_parseProcess_94 ?_
              refine xs_istore_6 eX8_parseProcess_95 rfl ?_
              refine xs_aload_0 eX8_parseProcess_97 ?_
              refine xbi_V00 (mi' := mX8_isFine) (y := yX8_isFine) eX8_parseProcess_98 (xw_5 lRX8_320 wy_X8_isFine) rfl ⟨wd_X8_isFine, by decide, by decide⟩ (by decide) (fun _ => rfl) rfl (Nat.le_of_ble_eq_true rfl) rfl (k_X8_isFine ?_)
              refine xa_ifb_eq (tgt := 131) eX8_parseProcess_101 (by decide) (fun c101 => ?_) (fun c101 => ?_)
              · exact xa_vret eX8_parseProcess_131 rfl ⟨rfl, by have h9 := q0; simp only [rdPS, bnd, rdPro, rdArr, if_true, if_false, Bool.false_eq_true, reduceIte, Int.toNat_natCast, if_pos (show C 1 4 3 < 8 by omega), e1] at h9; exact h9 trivial _ (f1.tr f0).fn hc4 hc5 hE⟩
              · exact absurd c101 hE
            · exact absurd rfl c81
          · exact absurd rfl c63
