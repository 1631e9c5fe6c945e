/-! the class: a statement of a text -/
set_option maxHeartbeats 400000 in
theorem f_X3_readStatement {w : xW} {S : xS} {B : String → xS → Prop} {A : Int → xS → Prop} {n N k : Nat} {T : Int} (h : VP n k N T S) (hT : 0 ≤ T ∧ T ≤ 900000) (hq : ∀ S', xtl 7 S' (rdStm n N S).2 → A (b2i ((rdStm n N S).1 = true)) S') : Ki w mX3_readStatement yX3_readStatement 0 0 [xp 3 0] S A B := by
  refine K.of rfl rfl rfl rfl (Nat.le_of_ble_eq_true rfl) rfl ?_
  have hN20 := h.2.2.1
  have hk8 := h.2.2.2.1
  refine xs_aload_0 eX3_readStatement_0 ?_
  refine xa_ldcS (tx := "penalty") (i := 0) eX3_readStatement_1 (List.mem_of_getElem? (i := 0) rfl) ?_
  refine xbi_V10 (mi' := mX3_isWord) (y := yX3_isWord) eX3_readStatement_3 (xw_5 lRX3_66 wy_X3_isWord) rfl ⟨wd_X3_isWord, by decide, by decide⟩ (by decide) (fun _ => rfl) rfl (Nat.le_of_ble_eq_true rfl) rfl (f_X3_isWord h.1 (by decide) ?_)
  refine xa_ifb_eq (tgt := 14) eX3_readStatement_6 (by decide) (fun c6 => ?_) (fun c6 => ?_)
  · refine xs_aload_0 eX3_readStatement_14 ?_
    refine xa_ldcS (tx := "fee") (i := 1) eX3_readStatement_15 (List.mem_of_getElem? (i := 1) rfl) ?_
    refine xbi_V10 (mi' := mX3_isWord) (y := yX3_isWord) eX3_readStatement_17 (xw_5 lRX3_66 wy_X3_isWord) rfl ⟨wd_X3_isWord, by decide, by decide⟩ (by decide) (fun _ => rfl) rfl (Nat.le_of_ble_eq_true rfl) rfl (f_X3_isWord h.1 (by decide) ?_)
    refine xa_ifb_eq (tgt := 28) eX3_readStatement_20 (by decide) (fun c20 => ?_) (fun c20 => ?_)
    · refine xs_aload_0 eX3_readStatement_28 ?_
      refine xa_ldcS (tx := "process") (i := 2) eX3_readStatement_29 (List.mem_of_getElem? (i := 2) rfl) ?_
      refine xbi_V10 (mi' := mX3_isWord) (y := yX3_isWord) eX3_readStatement_31 (xw_5 lRX3_66 wy_X3_isWord) rfl ⟨wd_X3_isWord, by decide, by decide⟩ (by decide) (fun _ => rfl) rfl (Nat.le_of_ble_eq_true rfl) rfl (f_X3_isWord h.1 (by decide) ?_)
      refine xa_ifb_eq (tgt := 66) eX3_readStatement_34 (by decide) (fun c34 => ?_) (fun c34 => ?_)
      · refine xs_aload_0 eX3_readStatement_66 ?_
        refine xa_ldcS (tx := "promise") (i := 4) eX3_readStatement_67 (List.mem_of_getElem? (i := 4) rfl) ?_
        refine xbi_V10 (mi' := mX3_isWord) (y := yX3_isWord) eX3_readStatement_69 (xw_5 lRX3_66 wy_X3_isWord) rfl ⟨wd_X3_isWord, by decide, by decide⟩ (by decide) (fun _ => rfl) rfl (Nat.le_of_ble_eq_true rfl) rfl (f_X3_isWord h.1 (by decide) ?_)
        refine xa_ifb_eq (tgt := 104) eX3_readStatement_72 (by decide) (fun c72 => ?_) (fun c72 => ?_)
        · refine xs_aload_0 eX3_readStatement_104 ?_
          refine xa_iconst eX3_readStatement_105 ?_
          refine xbi_V10 (mi' := mX3_fail) (y := yX3_fail) eX3_readStatement_106 (xw_5 lRX3_98 wy_X3_fail) rfl ⟨wd_X3_fail, by decide, by decide⟩ (by decide) (fun _ => rfl) rfl (Nat.le_of_ble_eq_true rfl) rfl (f_X3_fail (by decide) ?_)
          exact xa_zret eX3_readStatement_109 rfl (by decide) ⟨_, rfl, by have h9 := hq _ (by simp only [rdStm, bnd, if_true, if_false, Bool.false_eq_true, reduceIte, if_neg c6, if_neg c20, if_neg c34, if_neg c72]; exact xtl.rf); simp only [rdStm, bnd, if_true, if_false, Bool.false_eq_true, reduceIte, if_neg c6, if_neg c20, if_neg c34, if_neg c72] at h9; exact h9⟩
        · refine xs_aload_0 eX3_readStatement_75 ?_
          refine xbi_V00 (mi' := mX3_readPromise) (y := yX3_readPromise) eX3_readStatement_76 (xw_5 lRX3_90 wy_X3_readPromise) rfl ⟨wd_X3_readPromise, by decide, by decide⟩ (by decide) (fun _ => rfl) rfl (Nat.le_of_ble_eq_true rfl) rfl (f_X3_readPromise h.1 h.2.1 h.2.2.1 (by omega) h.2.g.1 h.2.2.2.1 (fun S5 hx5 => ?_))
          refine xa_ifb_eq (tgt := 102) eX3_readStatement_79 (by decide) (fun c79 => ?_) (fun c79 => ?_)
          · refine xa_iconst eX3_readStatement_102 ?_
            exact xa_zret eX3_readStatement_103 rfl (by decide) ⟨_, rfl, by have h9 := hq S5 (by simp only [rdStm, bnd, if_true, if_false, Bool.false_eq_true, reduceIte, if_neg c6, if_neg c20, if_neg c34, if_pos c72, (by simpa using c79 : (rdPrm n N S).1 = false)]; exact hx5); simp only [rdStm, bnd, if_true, if_false, Bool.false_eq_true, reduceIte, if_neg c6, if_neg c20, if_neg c34, if_pos c72, (by simpa using c79 : (rdPrm n N S).1 = false)] at h9; exact h9⟩
          · have vB0 := rdPrm_V h c79
            have vB := vB0.2.x7 hx5
            refine xs_aload_0 eX3_readStatement_82 ?_
            refine xa_ldcS (tx := "ask") (i := 5) eX3_readStatement_83 (List.mem_of_getElem? (i := 5) rfl) ?_
            refine xbi_V10 (mi' := mX3_isWord) (y := yX3_isWord) eX3_readStatement_85 (xw_5 lRX3_66 wy_X3_isWord) rfl ⟨wd_X3_isWord, by decide, by decide⟩ (by decide) (fun _ => rfl) rfl (Nat.le_of_ble_eq_true rfl) rfl (f_X3_isWord vB.1 (by decide) ?_)
            refine xa_ifb_eq (tgt := 98) eX3_readStatement_88 (by decide) (fun c88 => ?_) (fun c88 => ?_)
            · refine xa_iconst eX3_readStatement_98 ?_
              refine xa_goto (tgt := 103) eX3_readStatement_99 (by decide) ?_
              exact xa_zret eX3_readStatement_103 rfl (by decide) ⟨_, rfl, by have h9 := hq S5 (by simp only [rdStm, bnd, if_true, if_false, Bool.false_eq_true, reduceIte, if_neg c6, if_neg c20, if_neg c34, if_pos c72, c79, if_neg (fun z => c88 ((isW_7 hx5).mpr z))]; exact hx5); simp only [rdStm, bnd, if_true, if_false, Bool.false_eq_true, reduceIte, if_neg c6, if_neg c20, if_neg c34, if_pos c72, c79, if_neg (fun z => c88 ((isW_7 hx5).mpr z))] at h9; exact h9⟩
            · refine xs_aload_0 eX3_readStatement_91 ?_
              refine xbi_V00 (mi' := mX3_readPrice) (y := yX3_readPrice) eX3_readStatement_92 (xw_5 lRX3_95 wy_X3_readPrice) rfl ⟨wd_X3_readPrice, by decide, by decide⟩ (by decide) (fun _ => rfl) rfl (Nat.le_of_ble_eq_true rfl) rfl (f_X3_readPrice vB.1 vB.2.1.1 (by omega) ?_)
              refine xa_ifb_eq (tgt := 102) eX3_readStatement_95 (by decide) (fun c95 => ?_) (fun c95 => ?_)
              · refine xa_iconst eX3_readStatement_102 ?_
                exact xa_zret eX3_readStatement_103 rfl (by decide) ⟨_, rfl, by have h9 := hq _ (by simp only [rdStm, bnd, if_true, if_false, Bool.false_eq_true, reduceIte, if_neg c6, if_neg c20, if_neg c34, if_pos c72, c79, if_pos ((isW_7 hx5).mp c88), ((rdPri_7 hx5).1.symm.trans (by simpa using c95))]; exact (rdPri_7 hx5).2); simp only [rdStm, bnd, if_true, if_false, Bool.false_eq_true, reduceIte, if_neg c6, if_neg c20, if_neg c34, if_pos c72, c79, if_pos ((isW_7 hx5).mp c88), ((rdPri_7 hx5).1.symm.trans (by simpa using c95))] at h9; exact h9⟩
              · refine xa_iconst eX3_readStatement_98 ?_
                refine xa_goto (tgt := 103) eX3_readStatement_99 (by decide) ?_
                exact xa_zret eX3_readStatement_103 rfl (by decide) ⟨_, rfl, by have h9 := hq _ (by simp only [rdStm, bnd, if_true, if_false, Bool.false_eq_true, reduceIte, if_neg c6, if_neg c20, if_neg c34, if_pos c72, c79, if_pos ((isW_7 hx5).mp c88), ((rdPri_7 hx5).1.symm.trans c95)]; exact (rdPri_7 hx5).2); simp only [rdStm, bnd, if_true, if_false, Bool.false_eq_true, reduceIte, if_neg c6, if_neg c20, if_neg c34, if_pos c72, c79, if_pos ((isW_7 hx5).mp c88), ((rdPri_7 hx5).1.symm.trans c95)] at h9; exact h9⟩
      · refine xs_aload_0 eX3_readStatement_37 ?_
        refine xbi_V00 (mi' := mX3_readProcess) (y := yX3_readProcess) eX3_readStatement_38 (xw_5 lRX3_80 wy_X3_readProcess) rfl ⟨wd_X3_readProcess, by decide, by decide⟩ (by decide) (fun _ => rfl) rfl (Nat.le_of_ble_eq_true rfl) rfl (f_X3_readProcess h.1 h.2.g.1 h.2.2.2.1 ?_)
        refine xa_ifb_eq (tgt := 64) eX3_readStatement_41 (by decide) (fun c41 => ?_) (fun c41 => ?_)
        · refine xa_iconst eX3_readStatement_64 ?_
          exact xa_zret eX3_readStatement_65 rfl (by decide) ⟨_, rfl, by have h9 := hq _ (by simp only [rdStm, bnd, if_true, if_false, Bool.false_eq_true, reduceIte, if_neg c6, if_neg c20, if_pos c34, (by simpa using c41 : (rdPro n S).1 = false)]; exact xtl.rf); simp only [rdStm, bnd, if_true, if_false, Bool.false_eq_true, reduceIte, if_neg c6, if_neg c20, if_pos c34, (by simpa using c41 : (rdPro n S).1 = false)] at h9; exact h9⟩
        · have vA := rdPro_V h (by omega) c41
          refine xs_aload_0 eX3_readStatement_44 ?_
          refine xa_ldcS (tx := "every") (i := 3) eX3_readStatement_45 (List.mem_of_getElem? (i := 3) rfl) ?_
          refine xbi_V10 (mi' := mX3_isWord) (y := yX3_isWord) eX3_readStatement_47 (xw_5 lRX3_66 wy_X3_isWord) rfl ⟨wd_X3_isWord, by decide, by decide⟩ (by decide) (fun _ => rfl) rfl (Nat.le_of_ble_eq_true rfl) rfl (f_X3_isWord vA.2.1 (by decide) ?_)
          refine xa_ifb_eq (tgt := 60) eX3_readStatement_50 (by decide) (fun c50 => ?_) (fun c50 => ?_)
          · refine xa_iconst eX3_readStatement_60 ?_
            refine xa_goto (tgt := 65) eX3_readStatement_61 (by decide) ?_
            exact xa_zret eX3_readStatement_65 rfl (by decide) ⟨_, rfl, by have h9 := hq _ (by simp only [rdStm, bnd, if_true, if_false, Bool.false_eq_true, reduceIte, if_neg c6, if_neg c20, if_pos c34, c41, if_neg c50]; exact xtl.rf); simp only [rdStm, bnd, if_true, if_false, Bool.false_eq_true, reduceIte, if_neg c6, if_neg c20, if_pos c34, c41, if_neg c50] at h9; exact h9⟩
          · refine xs_aload_0 eX3_readStatement_53 ?_
            refine xbi_V00 (mi' := mX3_readArrival) (y := yX3_readArrival) eX3_readStatement_54 (xw_5 lRX3_85 wy_X3_readArrival) rfl ⟨wd_X3_readArrival, by decide, by decide⟩ (by decide) (fun _ => rfl) rfl (Nat.le_of_ble_eq_true rfl) rfl (f_X3_readArrival vA.2.1 vA.2.2.g.1 (by omega) ?_)
            refine xa_ifb_eq (tgt := 64) eX3_readStatement_57 (by decide) (fun c57 => ?_) (fun c57 => ?_)
            · refine xa_iconst eX3_readStatement_64 ?_
              exact xa_zret eX3_readStatement_65 rfl (by decide) ⟨_, rfl, by have h9 := hq _ (by simp only [rdStm, bnd, if_true, if_false, Bool.false_eq_true, reduceIte, if_neg c6, if_neg c20, if_pos c34, c41, if_pos c50, (by simpa using c57 : (rdArr n (rdPro n S).2).1 = false)]; exact xtl.rf); simp only [rdStm, bnd, if_true, if_false, Bool.false_eq_true, reduceIte, if_neg c6, if_neg c20, if_pos c34, c41, if_pos c50, (by simpa using c57 : (rdArr n (rdPro n S).2).1 = false)] at h9; exact h9⟩
            · refine xa_iconst eX3_readStatement_60 ?_
              refine xa_goto (tgt := 65) eX3_readStatement_61 (by decide) ?_
              exact xa_zret eX3_readStatement_65 rfl (by decide) ⟨_, rfl, by have h9 := hq _ (by simp only [rdStm, bnd, if_true, if_false, Bool.false_eq_true, reduceIte, if_neg c6, if_neg c20, if_pos c34, c41, if_pos c50, c57]; exact xtl.rf); simp only [rdStm, bnd, if_true, if_false, Bool.false_eq_true, reduceIte, if_neg c6, if_neg c20, if_pos c34, c41, if_pos c50, c57] at h9; exact h9⟩
    · refine xs_aload_0 eX3_readStatement_23 ?_
      refine xbi_V00 (mi' := mX3_readFee) (y := yX3_readFee) eX3_readStatement_24 (xw_5 lRX3_75 wy_X3_readFee) rfl ⟨wd_X3_readFee, by decide, by decide⟩ (by decide) (fun _ => rfl) rfl (Nat.le_of_ble_eq_true rfl) rfl (f_X3_readFee h.1 ?_)
      exact xa_zret eX3_readStatement_27 rfl (b2i_01 _) ⟨_, rfl, by have h9 := hq _ (by simp only [rdStm, bnd, if_true, if_false, Bool.false_eq_true, reduceIte, if_neg c6, if_pos c20]; exact xtl.rf); simp only [rdStm, bnd, if_true, if_false, Bool.false_eq_true, reduceIte, if_neg c6, if_pos c20] at h9; exact h9⟩
  · refine xs_aload_0 eX3_readStatement_9 ?_
    refine xbi_V00 (mi' := mX3_readPenalty) (y := yX3_readPenalty) eX3_readStatement_10 (xw_5 lRX3_70 wy_X3_readPenalty) rfl ⟨wd_X3_readPenalty, by decide, by decide⟩ (by decide) (fun _ => rfl) rfl (Nat.le_of_ble_eq_true rfl) rfl (f_X3_readPenalty h.1 ?_)
    exact xa_zret eX3_readStatement_13 rfl (b2i_01 _) ⟨_, rfl, by have h9 := hq _ (by simp only [rdStm, bnd, if_true, if_false, Bool.false_eq_true, reduceIte, if_pos c6]; exact xtl.rf); simp only [rdStm, bnd, if_true, if_false, Bool.false_eq_true, reduceIte, if_pos c6] at h9; exact h9⟩
