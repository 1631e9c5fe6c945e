/-! a promise in both texts, walked -/
set_option maxHeartbeats 400000 in
theorem p_X8_parsePromise {w : xW} {S : xS} {B : String → xS → Prop} {A : xS → Prop} {C : xS} {n k N : Nat} {T : Int} (h : VP n k N T C) (hT : T ≤ 900000) (tr : TR n C S) (e : S 30 0 20 = 0) (hR : Rel 4 k N C (S 31 0)) (q1 : (rdPmS n N C).1 = true → ∀ S', TR n (rdPmS n N C).2 S' → FW S' S → S' 30 0 20 = 0 → Rel 4 k (N + 1) (rdPmS n N C).2 (S' 31 0) → A S') (q0 : (rdPmS n N C).1 = false → ∀ S', FW S' S → S' 30 0 20 = (rdPmS n N C).2 3 0 4 → S' 30 0 21 = (rdPmS n N C).2 3 0 5 → ¬ S' 30 0 20 = 0 → A S') : Kv w mX8_parsePromise yX8_parsePromise 0 0 [xp 30 0] S A B := by
  refine K.of rfl rfl rfl rfl (Nat.le_of_ble_eq_true rfl) rfl ?_
  have hn := h.2.g.1
  have hN := h.2.1.1
  have hk1 : S 31 0 1 = (k : Int) := by rw [hR.1 1 (by decide)]; exact hn
  have hN1 : S 31 0 2 = (N : Int) := by rw [hR.1 2 (by decide)]; exact hN
  have hk8 := h.2.2.2.1
  have htT := h.2.1.2.2.1
  refine xs_aload_0 eX8_parsePromise_0 ?_
  refine xs_aload_0 eX8_parsePromise_1 ?_
  refine xa_ldcwS (tx := "promise") (i := 4) eX8_parsePromise_2 (List.mem_of_getElem? (i := 10) rfl) ?_
  refine xbi_V10 (mi' := mX8_isWord) (y := yX8_isWord) eX8_parsePromise_5 (xw_5 lRX8_326 wy_X8_isWord) rfl ⟨wd_X8_isWord, by decide, by decide⟩ (by decide) (fun _ => rfl) rfl (Nat.le_of_ble_eq_true rfl) rfl (k_X8_isWord (by decide) ?_)
  refine xa_iconst eX8_parsePromise_8 ?_
  refine xbv_V20 (mi' := mX8_require) (y := yX8_require) eX8_parsePromise_9 (xw_5 lRX8_330 wy_X8_require) rfl ⟨wd_X8_require, by decide, by decide⟩ (by decide) (fun _ => rfl) rfl (Nat.le_of_ble_eq_true rfl) rfl (k_X8_require (b2i_01 _) (by decide) (fun z9 => ?_) (fun z9 => ?_))
  · have w4 : isW 4 C := (tr.word h.1 (by decide)).mp (b2i_y z9)
    refine xs_aload_0 eX8_parsePromise_12 ?_
    refine xs_aload_0 eX8_parsePromise_13 ?_
    refine g_X8_0 eX8_parsePromise_14 lRX8_7 ?_
    refine xa_iconst eX8_parsePromise_17 ?_
    refine gar_31 eX8_parsePromise_18 (by omega) (fun r18 => ?_)
    try simp only [show (2 : Int).toNat = 2 from rfl, hN1] at r18 ⊢
    refine xa_ldc2 (a := 20) eX8_parsePromise_19 lRX8_171 (by decide) ?_
    refine xa_lcmp eX8_parsePromise_22 (by omega) (by decide) ?_
    refine xa_ifc_ge (tgt := 30) eX8_parsePromise_23 (by decide) (fun c23 => ?_) (fun c23 => ?_)
    · refine xa_iconst eX8_parsePromise_30 ?_
      refine xa_iconst eX8_parsePromise_31 ?_
      refine xbv_V20 (mi' := mX8_require) (y := yX8_require) eX8_parsePromise_32 (xw_5 lRX8_330 wy_X8_require) rfl ⟨wd_X8_require, by decide, by decide⟩ (by decide) (fun _ => rfl) rfl (Nat.le_of_ble_eq_true rfl) rfl (k_X8_require (Or.inl rfl) (by decide) (fun z => absurd z (by decide)) (fun _ => ?_))
      have hlt : ¬ C 2 4 1 < 20 := by omega
      have hE : ¬ rqS 3 S 30 0 20 = 0 := rq_20 (by decide)
      have hc4 : rqS 3 S 30 0 20 = 3 := by unfold rqS; rw [if_pos e, up_f (by decide), up_same]
      have hc5 : rqS 3 S 30 0 21 = C 3 0 7 := by unfold rqS; rw [if_pos e, up_same]; exact tr.2.2.1
      have hkE : rqS 3 S 31 0 1 = (k : Int) := by rw [rq_k (by decide)]; exact hk1
      refine xs_aload_0 eX8_parsePromise_35 ?_
      refine xbv_V00 (mi' := mX8_advance) (y := yX8_advance) eX8_parsePromise_36 (xw_5 lRX8_334 wy_X8_advance) rfl ⟨wd_X8_advance, by decide, by decide⟩ (by decide) (fun _ => rfl) rfl (Nat.le_of_ble_eq_true rfl) rfl (z_X8_advance hE ?_)
      refine xs_aload_0 eX8_parsePromise_39 ?_
      refine xa_iconst eX8_parsePromise_40 ?_
      refine xs_aload_0 eX8_parsePromise_41 ?_
      refine xa_iconst eX8_parsePromise_42 ?_
      refine xbi_V10 (mi' := mX8_number) (y := yX8_number) eX8_parsePromise_43 (xw_5 lRX8_65 wy_X8_number) rfl ⟨wd_X8_number, by decide, by decide⟩ (by decide) (fun _ => rfl) rfl (Nat.le_of_ble_eq_true rfl) rfl (k_X8_number (i := 1) rfl (by decide) ?_)
      rw [hkE]
      refine xa_iconst eX8_parsePromise_46 ?_
      refine xa_isub eX8_parsePromise_47 ?_
      refine xbi_V20 (mi' := mX8_parseNumber) (y := yX8_parseNumber) eX8_parsePromise_48 (xw_5 lRX8_337 wy_X8_parseNumber) rfl ⟨wd_X8_parseNumber, by decide, by decide⟩ (by decide) (fun _ => rfl) rfl (Nat.le_of_ble_eq_true rfl) rfl (zr_X8_parseNumber (by decide) (by omega) hE (fun v48 hv48 => ?_))
      refine xs_istore_1 eX8_parsePromise_51 rfl ?_
      refine xs_aload_0 eX8_parsePromise_52 ?_
      refine xs_aload_0 eX8_parsePromise_53 ?_
      refine gr_X8_17 eX8_parsePromise_54 lRX8_294 (fun r54 => ?_)
      try simp only [show (2 : Int).toNat = 2 from rfl] at r54 ⊢
      refine xa_iconst eX8_parsePromise_57 ?_
      refine xa_icmp_ne (tgt := 65) eX8_parsePromise_58 (by decide) (by omega) (by decide) (fun c58 => ?_) (fun c58 => ?_)
      · refine xa_iconst eX8_parsePromise_65 ?_
        refine xa_iconst eX8_parsePromise_66 ?_
        refine xbv_V20 (mi' := mX8_require) (y := yX8_require) eX8_parsePromise_67 (xw_5 lRX8_330 wy_X8_require) rfl ⟨wd_X8_require, by decide, by decide⟩ (by decide) (fun _ => rfl) rfl (Nat.le_of_ble_eq_true rfl) rfl (z_X8_require (by decide) hE ?_)
        refine xs_aload_0 eX8_parsePromise_70 ?_
        refine xs_aload_0 eX8_parsePromise_71 ?_
        refine gr_X8_19 eX8_parsePromise_72 lRX8_291 (fun r72 => ?_)
        try simp only [show (2 : Int).toNat = 2 from rfl] at r72 ⊢
        refine xbi_S10 (mi' := mX8_isPeriod) (y := yX8_isPeriod) eX8_parsePromise_75 (xw_4 lRX8_134 wy_X8_isPeriod) rfl rfl ⟨wd_X8_isPeriod, by decide, by decide⟩ (Nat.le_of_ble_eq_true rfl) rfl (k_X8_isPeriod (by omega) ?_)
        refine xa_iconst eX8_parsePromise_78 ?_
        refine xbv_V20 (mi' := mX8_require) (y := yX8_require) eX8_parsePromise_79 (xw_5 lRX8_330 wy_X8_require) rfl ⟨wd_X8_require, by decide, by decide⟩ (by decide) (fun _ => rfl) rfl (Nat.le_of_ble_eq_true rfl) rfl (z_X8_require (b2i_01 _) hE ?_)
        refine xs_aload_0 eX8_parsePromise_82 ?_
        refine gr_X8_19 eX8_parsePromise_83 lRX8_291 (fun r83 => ?_)
        try simp only [show (2 : Int).toNat = 2 from rfl] at r83 ⊢
        refine xs_istore_2 eX8_parsePromise_86 rfl ?_
        refine xs_aload_0 eX8_parsePromise_87 ?_
        refine xbv_V00 (mi' := mX8_advance) (y := yX8_advance) eX8_parsePromise_88 (xw_5 lRX8_334 wy_X8_advance) rfl ⟨wd_X8_advance, by decide, by decide⟩ (by decide) (fun _ => rfl) rfl (Nat.le_of_ble_eq_true rfl) rfl (z_X8_advance hE ?_)
        refine xs_aload_0 eX8_parsePromise_91 ?_
        refine xa_iconst eX8_parsePromise_92 ?_
        refine xa_bipush eX8_parsePromise_93 (by decide) ?_
        refine xbi_V20 (mi' := mX8_parseNumber) (y := yX8_parseNumber) eX8_parsePromise_95 (xw_5 lRX8_337 wy_X8_parseNumber) rfl ⟨wd_X8_parseNumber, by decide, by decide⟩ (by decide) (fun _ => rfl) rfl (Nat.le_of_ble_eq_true rfl) rfl (zr_X8_parseNumber (by decide) (by decide) hE (fun v95 hv95 => ?_))
        refine xs_istore_3 eX8_parsePromise_98 rfl ?_
        refine xs_aload_0 eX8_parsePromise_99 ?_
        refine xs_aload_0 eX8_parsePromise_100 ?_
        refine gr_X8_17 eX8_parsePromise_101 lRX8_294 (fun r101 => ?_)
        try simp only [show (2 : Int).toNat = 2 from rfl] at r101 ⊢
        refine xa_iconst eX8_parsePromise_104 ?_
        refine xa_icmp_ne (tgt := 112) eX8_parsePromise_105 (by decide) (by omega) (by decide) (fun c105 => ?_) (fun c105 => ?_)
        · refine xa_iconst eX8_parsePromise_112 ?_
          refine xa_iconst eX8_parsePromise_113 ?_
          refine xbv_V20 (mi' := mX8_require) (y := yX8_require) eX8_parsePromise_114 (xw_5 lRX8_330 wy_X8_require) rfl ⟨wd_X8_require, by decide, by decide⟩ (by decide) (fun _ => rfl) rfl (Nat.le_of_ble_eq_true rfl) rfl (z_X8_require (by decide) hE ?_)
          refine xs_aload_0 eX8_parsePromise_117 ?_
          refine xs_aload_0 eX8_parsePromise_118 ?_
          refine gr_X8_19 eX8_parsePromise_119 lRX8_291 (fun r119 => ?_)
          try simp only [show (2 : Int).toNat = 2 from rfl] at r119 ⊢
          refine xa_i2l eX8_parsePromise_122 (by omega) ?_
          refine xs_iload_3 eX8_parsePromise_123 ?_
          refine xa_i2l eX8_parsePromise_124 (by omega) ?_
          refine xs_iload_2 eX8_parsePromise_125 ?_
          refine xa_i2l eX8_parsePromise_126 (by omega) ?_
          refine xbi_S30 (mi' := mX8_isBetween) (y := yX8_isBetween) eX8_parsePromise_127 (xw_4 lRX8_61 wy_X8_isBetween) rfl rfl ⟨wd_X8_isBetween, by decide, by decide⟩ (Nat.le_of_ble_eq_true rfl) rfl (k_X8_isBetween (by omega) (by omega) (by omega) ?_)
          refine xa_iconst eX8_parsePromise_130 ?_
          refine xbv_V20 (mi' := mX8_require) (y := yX8_require) eX8_parsePromise_131 (xw_5 lRX8_330 wy_X8_require) rfl ⟨wd_X8_require, by decide, by decide⟩ (by decide) (fun _ => rfl) rfl (Nat.le_of_ble_eq_true rfl) rfl (z_X8_require (b2i_01 _) hE ?_)
          refine xs_aload_0 eX8_parsePromise_134 ?_
          refine gr_X8_19 eX8_parsePromise_135 lRX8_291 (fun r135 => ?_)
          try simp only [show (2 : Int).toNat = 2 from rfl] at r135 ⊢
          refine xs_istore_4 eX8_parsePromise_138 rfl ?_
          refine xs_aload_0 eX8_parsePromise_140 ?_
          refine xbi_V00 (mi' := mX8_isFine) (y := yX8_isFine) eX8_parsePromise_141 (xw_5 lRX8_320 wy_X8_isFine) rfl ⟨wd_X8_isFine, by decide, by decide⟩ (by decide) (fun _ => rfl) rfl (Nat.le_of_ble_eq_true rfl) rfl (k_X8_isFine ?_)
          refine xa_ifb_eq (tgt := 160) eX8_parsePromise_144 (by decide) (fun c144 => ?_) (fun c144 => ?_)
          · refine xs_aload_0 eX8_parsePromise_160 ?_
            refine xbv_V00 (mi' := mX8_advance) (y := yX8_advance) eX8_parsePromise_161 (xw_5 lRX8_334 wy_X8_advance) rfl ⟨wd_X8_advance, by decide, by decide⟩ (by decide) (fun _ => rfl) rfl (Nat.le_of_ble_eq_true rfl) rfl (z_X8_advance hE ?_)
            refine xs_aload_0 eX8_parsePromise_164 ?_
            refine xa_ldcwS (tx := "ask") (i := 5) eX8_parsePromise_165 (List.mem_of_getElem? (i := 11) rfl) ?_
            refine xbi_V10 (mi' := mX8_accept) (y := yX8_accept) eX8_parsePromise_168 (xw_5 lRX8_342 wy_X8_accept) rfl ⟨wd_X8_accept, by decide, by decide⟩ (by decide) (fun _ => rfl) rfl (Nat.le_of_ble_eq_true rfl) rfl (z_X8_accept hE ?_)
            · refine xa_if_eq (tgt := 185) eX8_parsePromise_171 (by decide) (by decide) (fun c171 => ?_) (fun c171 => ?_)
              · refine xa_iconst eX8_parsePromise_185 ?_
                refine xs_istore_5 eX8_parsePromise_186 rfl ?_
                refine xs_aload_0 eX8_parsePromise_188 ?_
                refine xbi_V00 (mi' := mX8_isFine) (y := yX8_isFine) eX8_parsePromise_189 (xw_5 lRX8_320 wy_X8_isFine) rfl ⟨wd_X8_isFine, by decide, by decide⟩ (by decide) (fun _ => rfl) rfl (Nat.le_of_ble_eq_true rfl) rfl (k_X8_isFine ?_)
                refine xa_ifb_eq (tgt := 216) eX8_parsePromise_192 (by decide) (fun c192 => ?_) (fun c192 => ?_)
                · exact xa_vret eX8_parsePromise_216 rfl ⟨rfl, by have h9 := q0; simp only [rdPmS, bnd, rdPrm, rdPri, if_true, if_false, Bool.false_eq_true, reduceIte, Int.toNat_natCast, if_pos w4, if_neg hlt] at h9; exact h9 trivial _ (FM.rq (by decide)).fw hc4 hc5 hE⟩
                · exact absurd c192 hE
              · exact absurd rfl c171
          · exact absurd c144 hE
        · refine xa_iconst eX8_parsePromise_108 ?_
          refine xa_goto (tgt := 113) eX8_parsePromise_109 (by decide) ?_
          refine xa_iconst eX8_parsePromise_113 ?_
          refine xbv_V20 (mi' := mX8_require) (y := yX8_require) eX8_parsePromise_114 (xw_5 lRX8_330 wy_X8_require) rfl ⟨wd_X8_require, by decide, by decide⟩ (by decide) (fun _ => rfl) rfl (Nat.le_of_ble_eq_true rfl) rfl (z_X8_require (by decide) hE ?_)
          refine xs_aload_0 eX8_parsePromise_117 ?_
          refine xs_aload_0 eX8_parsePromise_118 ?_
          refine gr_X8_19 eX8_parsePromise_119 lRX8_291 (fun r119 => ?_)
          try simp only [show (2 : Int).toNat = 2 from rfl] at r119 ⊢
          refine xa_i2l eX8_parsePromise_122 (by omega) ?_
          refine xs_iload_3 eX8_parsePromise_123 ?_
          refine xa_i2l eX8_parsePromise_124 (by omega) ?_
          refine xs_iload_2 eX8_parsePromise_125 ?_
          refine xa_i2l eX8_parsePromise_126 (by omega) ?_
          refine xbi_S30 (mi' := mX8_isBetween) (y := yX8_isBetween) eX8_parsePromise_127 (xw_4 lRX8_61 wy_X8_isBetween) rfl rfl ⟨wd_X8_isBetween, by decide, by decide⟩ (Nat.le_of_ble_eq_true rfl) rfl (k_X8_isBetween (by omega) (by omega) (by omega) ?_)
          refine xa_iconst eX8_parsePromise_130 ?_
          refine xbv_V20 (mi' := mX8_require) (y := yX8_require) eX8_parsePromise_131 (xw_5 lRX8_330 wy_X8_require) rfl ⟨wd_X8_require, by decide, by decide⟩ (by decide) (fun _ => rfl) rfl (Nat.le_of_ble_eq_true rfl) rfl (z_X8_require (b2i_01 _) hE ?_)
          refine xs_aload_0 eX8_parsePromise_134 ?_
          refine gr_X8_19 eX8_parsePromise_135 lRX8_291 (fun r135 => ?_)
          try simp only [show (2 : Int).toNat = 2 from rfl] at r135 ⊢
          refine xs_istore_4 eX8_parsePromise_138 rfl ?_
          refine xs_aload_0 eX8_parsePromise_140 ?_
          refine xbi_V00 (mi' := mX8_isFine) (y := yX8_isFine) eX8_parsePromise_141 (xw_5 lRX8_320 wy_X8_isFine) rfl ⟨wd_X8_isFine, by decide, by decide⟩ (by decide) (fun _ => rfl) rfl (Nat.le_of_ble_eq_true rfl) rfl (k_X8_isFine ?_)
          refine xa_ifb_eq (tgt := 160) eX8_parsePromise_144 (by decide) (fun c144 => ?_) (fun c144 => ?_)
          · refine xs_aload_0 eX8_parsePromise_160 ?_
            refine xbv_V00 (mi' := mX8_advance) (y := yX8_advance) eX8_parsePromise_161 (xw_5 lRX8_334 wy_X8_advance) rfl ⟨wd_X8_advance, by decide, by decide⟩ (by decide) (fun _ => rfl) rfl (Nat.le_of_ble_eq_true rfl) rfl (z_X8_advance hE ?_)
            refine xs_aload_0 eX8_parsePromise_164 ?_
            refine xa_ldcwS (tx := "ask") (i := 5) eX8_parsePromise_165 (List.mem_of_getElem? (i := 11) rfl) ?_
            refine xbi_V10 (mi' := mX8_accept) (y := yX8_accept) eX8_parsePromise_168 (xw_5 lRX8_342 wy_X8_accept) rfl ⟨wd_X8_accept, by decide, by decide⟩ (by decide) (fun _ => rfl) rfl (Nat.le_of_ble_eq_true rfl) rfl (z_X8_accept hE ?_)
            · refine xa_if_eq (tgt := 185) eX8_parsePromise_171 (by decide) (by decide) (fun c171 => ?_) (fun c171 => ?_)
              · refine xa_iconst eX8_parsePromise_185 ?_
                refine xs_istore_5 eX8_parsePromise_186 rfl ?_
                refine xs_aload_0 eX8_parsePromise_188 ?_
                refine xbi_V00 (mi' := mX8_isFine) (y := yX8_isFine) eX8_parsePromise_189 (xw_5 lRX8_320 wy_X8_isFine) rfl ⟨wd_X8_isFine, by decide, by decide⟩ (by decide) (fun _ => rfl) rfl (Nat.le_of_ble_eq_true rfl) rfl (k_X8_isFine ?_)
                refine xa_ifb_eq (tgt := 216) eX8_parsePromise_192 (by decide) (fun c192 => ?_) (fun c192 => ?_)
                · exact xa_vret eX8_parsePromise_216 rfl ⟨rfl, by have h9 := q0; simp only [rdPmS, bnd, rdPrm, rdPri, if_true, if_false, Bool.false_eq_true, reduceIte, Int.toNat_natCast, if_pos w4, if_neg hlt] at h9; exact h9 trivial _ (FM.rq (by decide)).fw hc4 hc5 hE⟩
                · exact absurd c192 hE
              · exact absurd rfl c171
          · exact absurd c144 hE
      · refine xa_iconst eX8_parsePromise_61 ?_
        refine xa_goto (tgt := 66) eX8_parsePromise_62 (by decide) ?_
        refine xa_iconst eX8_parsePromise_66 ?_
        refine xbv_V20 (mi' := mX8_require) (y := yX8_require) eX8_parsePromise_67 (xw_5 lRX8_330 wy_X8_require) rfl ⟨wd_X8_require, by decide, by decide⟩ (by decide) (fun _ => rfl) rfl (Nat.le_of_ble_eq_true rfl) rfl (z_X8_require (by decide) hE ?_)
        refine xs_aload_0 eX8_parsePromise_70 ?_
        refine xs_aload_0 eX8_parsePromise_71 ?_
        refine gr_X8_19 eX8_parsePromise_72 lRX8_291 (fun r72 => ?_)
        try simp only [show (2 : Int).toNat = 2 from rfl] at r72 ⊢
        refine xbi_S10 (mi' := mX8_isPeriod) (y := yX8_isPeriod) eX8_parsePromise_75 (xw_4 lRX8_134 wy_X8_isPeriod) rfl rfl ⟨wd_X8_isPeriod, by decide, by decide⟩ (Nat.le_of_ble_eq_true rfl) rfl (k_X8_isPeriod (by omega) ?_)
        refine xa_iconst eX8_parsePromise_78 ?_
        refine xbv_V20 (mi' := mX8_require) (y := yX8_require) eX8_parsePromise_79 (xw_5 lRX8_330 wy_X8_require) rfl ⟨wd_X8_require, by decide, by decide⟩ (by decide) (fun _ => rfl) rfl (Nat.le_of_ble_eq_true rfl) rfl (z_X8_require (b2i_01 _) hE ?_)
        refine xs_aload_0 eX8_parsePromise_82 ?_
        refine gr_X8_19 eX8_parsePromise_83 lRX8_291 (fun r83 => ?_)
        try simp only [show (2 : Int).toNat = 2 from rfl] at r83 ⊢
        refine xs_istore_2 eX8_parsePromise_86 rfl ?_
        refine xs_aload_0 eX8_parsePromise_87 ?_
        refine xbv_V00 (mi' := mX8_advance) (y := yX8_advance) eX8_parsePromise_88 (xw_5 lRX8_334 wy_X8_advance) rfl ⟨wd_X8_advance, by decide, by decide⟩ (by decide) (fun _ => rfl) rfl (Nat.le_of_ble_eq_true rfl) rfl (z_X8_advance hE ?_)
        refine xs_aload_0 eX8_parsePromise_91 ?_
        refine xa_iconst eX8_parsePromise_92 ?_
        refine xa_bipush eX8_parsePromise_93 (by decide) ?_
        refine xbi_V20 (mi' := mX8_parseNumber) (y := yX8_parseNumber) eX8_parsePromise_95 (xw_5 lRX8_337 wy_X8_parseNumber) rfl ⟨wd_X8_parseNumber, by decide, by decide⟩ (by decide) (fun _ => rfl) rfl (Nat.le_of_ble_eq_true rfl) rfl (zr_X8_parseNumber (by decide) (by decide) hE (fun v95 hv95 => ?_))
        refine xs_istore_3 eX8_parsePromise_98 rfl ?_
        refine xs_aload_0 eX8_parsePromise_99 ?_
        refine xs_aload_0 eX8_parsePromise_100 ?_
        refine gr_X8_17 eX8_parsePromise_101 lRX8_294 (fun r101 => ?_)
        try simp only [show (2 : Int).toNat = 2 from rfl] at r101 ⊢
        refine xa_iconst eX8_parsePromise_104 ?_
        refine xa_icmp_ne (tgt := 112) eX8_parsePromise_105 (by decide) (by omega) (by decide) (fun c105 => ?_) (fun c105 => ?_)
        · refine xa_iconst eX8_parsePromise_112 ?_
          refine xa_iconst eX8_parsePromise_113 ?_
          refine xbv_V20 (mi' := mX8_require) (y := yX8_require) eX8_parsePromise_114 (xw_5 lRX8_330 wy_X8_require) rfl ⟨wd_X8_require, by decide, by decide⟩ (by decide) (fun _ => rfl) rfl (Nat.le_of_ble_eq_true rfl) rfl (z_X8_require (by decide) hE ?_)
          refine xs_aload_0 eX8_parsePromise_117 ?_
          refine xs_aload_0 eX8_parsePromise_118 ?_
          refine gr_X8_19 eX8_parsePromise_119 lRX8_291 (fun r119 => ?_)
          try simp only [show (2 : Int).toNat = 2 from rfl] at r119 ⊢
          refine xa_i2l eX8_parsePromise_122 (by omega) ?_
          refine xs_iload_3 eX8_parsePromise_123 ?_
          refine xa_i2l eX8_parsePromise_124 (by omega) ?_
          refine xs_iload_2 eX8_parsePromise_125 ?_
          refine xa_i2l eX8_parsePromise_126 (by omega) ?_
          refine xbi_S30 (mi' := mX8_isBetween) (y := yX8_isBetween) eX8_parsePromise_127 (xw_4 lRX8_61 wy_X8_isBetween) rfl rfl ⟨wd_X8_isBetween, by decide, by decide⟩ (Nat.le_of_ble_eq_true rfl) rfl (k_X8_isBetween (by omega) (by omega) (by omega) ?_)
          refine xa_iconst eX8_parsePromise_130 ?_
          refine xbv_V20 (mi' := mX8_require) (y := yX8_require) eX8_parsePromise_131 (xw_5 lRX8_330 wy_X8_require) rfl ⟨wd_X8_require, by decide, by decide⟩ (by decide) (fun _ => rfl) rfl (Nat.le_of_ble_eq_true rfl) rfl (z_X8_require (b2i_01 _) hE ?_)
          refine xs_aload_0 eX8_parsePromise_134 ?_
          refine gr_X8_19 eX8_parsePromise_135 lRX8_291 (fun r135 => ?_)
          try simp only [show (2 : Int).toNat = 2 from rfl] at r135 ⊢
          refine xs_istore_4 eX8_parsePromise_138 rfl ?_
          refine xs_aload_0 eX8_parsePromise_140 ?_
          refine xbi_V00 (mi' := mX8_isFine) (y := yX8_isFine) eX8_parsePromise_141 (xw_5 lRX8_320 wy_X8_isFine) rfl ⟨wd_X8_isFine, by decide, by decide⟩ (by decide) (fun _ => rfl) rfl (Nat.le_of_ble_eq_true rfl) rfl (k_X8_isFine ?_)
          refine xa_ifb_eq (tgt := 160) eX8_parsePromise_144 (by decide) (fun c144 => ?_) (fun c144 => ?_)
          · refine xs_aload_0 eX8_parsePromise_160 ?_
            refine xbv_V00 (mi' := mX8_advance) (y := yX8_advance) eX8_parsePromise_161 (xw_5 lRX8_334 wy_X8_advance) rfl ⟨wd_X8_advance, by decide, by decide⟩ (by decide) (fun _ => rfl) rfl (Nat.le_of_ble_eq_true rfl) rfl (z_X8_advance hE ?_)
            refine xs_aload_0 eX8_parsePromise_164 ?_
            refine xa_ldcwS (tx := "ask") (i := 5) eX8_parsePromise_165 (List.mem_of_getElem? (i := 11) rfl) ?_
            refine xbi_V10 (mi' := mX8_accept) (y := yX8_accept) eX8_parsePromise_168 (xw_5 lRX8_342 wy_X8_accept) rfl ⟨wd_X8_accept, by decide, by decide⟩ (by decide) (fun _ => rfl) rfl (Nat.le_of_ble_eq_true rfl) rfl (z_X8_accept hE ?_)
            · refine xa_if_eq (tgt := 185) eX8_parsePromise_171 (by decide) (by decide) (fun c171 => ?_) (fun c171 => ?_)
              · refine xa_iconst eX8_parsePromise_185 ?_
                refine xs_istore_5 eX8_parsePromise_186 rfl ?_
                refine xs_aload_0 eX8_parsePromise_188 ?_
                refine xbi_V00 (mi' := mX8_isFine) (y := yX8_isFine) eX8_parsePromise_189 (xw_5 lRX8_320 wy_X8_isFine) rfl ⟨wd_X8_isFine, by decide, by decide⟩ (by decide) (fun _ => rfl) rfl (Nat.le_of_ble_eq_true rfl) rfl (k_X8_isFine ?_)
                refine xa_ifb_eq (tgt := 216) eX8_parsePromise_192 (by decide) (fun c192 => ?_) (fun c192 => ?_)
                · exact xa_vret eX8_parsePromise_216 rfl ⟨rfl, by have h9 := q0; simp only [rdPmS, bnd, rdPrm, rdPri, if_true, if_false, Bool.false_eq_true, reduceIte, Int.toNat_natCast, if_pos w4, if_neg hlt] at h9; exact h9 trivial _ (FM.rq (by decide)).fw hc4 hc5 hE⟩
                · exact absurd c192 hE
              · exact absurd rfl c171
          · exact absurd c144 hE
        · refine xa_iconst eX8_parsePromise_108 ?_
          refine xa_goto (tgt := 113) eX8_parsePromise_109 (by decide) ?_
          refine xa_iconst eX8_parsePromise_113 ?_
          refine xbv_V20 (mi' := mX8_require) (y := yX8_require) eX8_parsePromise_114 (xw_5 lRX8_330 wy_X8_require) rfl ⟨wd_X8_require, by decide, by decide⟩ (by decide) (fun _ => rfl) rfl (Nat.le_of_ble_eq_true rfl) rfl (z_X8_require (by decide) hE ?_)
          refine xs_aload_0 eX8_parsePromise_117 ?_
          refine xs_aload_0 eX8_parsePromise_118 ?_
          refine gr_X8_19 eX8_parsePromise_119 lRX8_291 (fun r119 => ?_)
          try simp only [show (2 : Int).toNat = 2 from rfl] at r119 ⊢
          refine xa_i2l eX8_parsePromise_122 (by omega) ?_
          refine xs_iload_3 eX8_parsePromise_123 ?_
          refine xa_i2l eX8_parsePromise_124 (by omega) ?_
          refine xs_iload_2 eX8_parsePromise_125 ?_
          refine xa_i2l eX8_parsePromise_126 (by omega) ?_
          refine xbi_S30 (mi' := mX8_isBetween) (y := yX8_isBetween) eX8_parsePromise_127 (xw_4 lRX8_61 wy_X8_isBetween) rfl rfl ⟨wd_X8_isBetween, by decide, by decide⟩ (Nat.le_of_ble_eq_true rfl) rfl (k_X8_isBetween (by omega) (by omega) (by omega) ?_)
          refine xa_iconst eX8_parsePromise_130 ?_
          refine xbv_V20 (mi' := mX8_require) (y := yX8_require) eX8_parsePromise_131 (xw_5 lRX8_330 wy_X8_require) rfl ⟨wd_X8_require, by decide, by decide⟩ (by decide) (fun _ => rfl) rfl (Nat.le_of_ble_eq_true rfl) rfl (z_X8_require (b2i_01 _) hE ?_)
          refine xs_aload_0 eX8_parsePromise_134 ?_
          refine gr_X8_19 eX8_parsePromise_135 lRX8_291 (fun r135 => ?_)
          try simp only [show (2 : Int).toNat = 2 from rfl] at r135 ⊢
          refine xs_istore_4 eX8_parsePromise_138 rfl ?_
          refine xs_aload_0 eX8_parsePromise_140 ?_
          refine xbi_V00 (mi' := mX8_isFine) (y := yX8_isFine) eX8_parsePromise_141 (xw_5 lRX8_320 wy_X8_isFine) rfl ⟨wd_X8_isFine, by decide, by decide⟩ (by decide) (fun _ => rfl) rfl (Nat.le_of_ble_eq_true rfl) rfl (k_X8_isFine ?_)
          refine xa_ifb_eq (tgt := 160) eX8_parsePromise_144 (by decide) (fun c144 => ?_) (fun c144 => ?_)
          · refine xs_aload_0 eX8_parsePromise_160 ?_
            refine xbv_V00 (mi' := mX8_advance) (y := yX8_advance) eX8_parsePromise_161 (xw_5 lRX8_334 wy_X8_advance) rfl ⟨wd_X8_advance, by decide, by decide⟩ (by decide) (fun _ => rfl) rfl (Nat.le_of_ble_eq_true rfl) rfl (z_X8_advance hE ?_)
            refine xs_aload_0 eX8_parsePromise_164 ?_
            refine xa_ldcwS (tx := "ask") (i := 5) eX8_parsePromise_165 (List.mem_of_getElem? (i := 11) rfl) ?_
            refine xbi_V10 (mi' := mX8_accept) (y := yX8_accept) eX8_parsePromise_168 (xw_5 lRX8_342 wy_X8_accept) rfl ⟨wd_X8_accept, by decide, by decide⟩ (by decide) (fun _ => rfl) rfl (Nat.le_of_ble_eq_true rfl) rfl (z_X8_accept hE ?_)
            · refine xa_if_eq (tgt := 185) eX8_parsePromise_171 (by decide) (by decide) (fun c171 => ?_) (fun c171 => ?_)
              · refine xa_iconst eX8_parsePromise_185 ?_
                refine xs_istore_5 eX8_parsePromise_186 rfl ?_
                refine xs_aload_0 eX8_parsePromise_188 ?_
                refine xbi_V00 (mi' := mX8_isFine) (y := yX8_isFine) eX8_parsePromise_189 (xw_5 lRX8_320 wy_X8_isFine) rfl ⟨wd_X8_isFine, by decide, by decide⟩ (by decide) (fun _ => rfl) rfl (Nat.le_of_ble_eq_true rfl) rfl (k_X8_isFine ?_)
                refine xa_ifb_eq (tgt := 216) eX8_parsePromise_192 (by decide) (fun c192 => ?_) (fun c192 => ?_)
                · exact xa_vret eX8_parsePromise_216 rfl ⟨rfl, by have h9 := q0; simp only [rdPmS, bnd, rdPrm, rdPri, if_true, if_false, Bool.false_eq_true, reduceIte, Int.toNat_natCast, if_pos w4, if_neg hlt] at h9; exact h9 trivial _ (FM.rq (by decide)).fw hc4 hc5 hE⟩
                · exact absurd c192 hE
              · exact absurd rfl c171
          · exact absurd c144 hE
    · have hlt : C 2 4 1 < 20 := by omega
      refine xa_iconst eX8_parsePromise_26 ?_
      refine xa_goto (tgt := 31) eX8_parsePromise_27 (by decide) ?_
      refine xa_iconst eX8_parsePromise_31 ?_
      refine xbv_V20 (mi' := mX8_require) (y := yX8_require) eX8_parsePromise_32 (xw_5 lRX8_330 wy_X8_require) rfl ⟨wd_X8_require, by decide, by decide⟩ (by decide) (fun _ => rfl) rfl (Nat.le_of_ble_eq_true rfl) rfl (k_X8_require (Or.inr rfl) (by decide) (fun _ => ?_) (fun z => absurd z (by decide)))
      refine xs_aload_0 eX8_parsePromise_35 ?_
      refine xbv_V00 (mi' := mX8_advance) (y := yX8_advance) eX8_parsePromise_36 (xw_5 lRX8_334 wy_X8_advance) rfl ⟨wd_X8_advance, by decide, by decide⟩ (by decide) (fun _ => rfl) rfl (Nat.le_of_ble_eq_true rfl) rfl (p_X8_advance h.1 tr e (fun S0 t0 f0 z0 => ?_))
      · refine xs_aload_0 eX8_parsePromise_39 ?_
        refine xa_iconst eX8_parsePromise_40 ?_
        refine xs_aload_0 eX8_parsePromise_41 ?_
        refine xa_iconst eX8_parsePromise_42 ?_
        refine xbi_V10 (mi' := mX8_number) (y := yX8_number) eX8_parsePromise_43 (xw_5 lRX8_65 wy_X8_number) rfl ⟨wd_X8_number, by decide, by decide⟩ (by decide) (fun _ => rfl) rfl (Nat.le_of_ble_eq_true rfl) rfl (k_X8_number (i := 1) rfl (by decide) ?_)
        rw [show S0 31 0 1 = C 1 4 3 by rw [f0.1 31 (by decide), hk1, hn]]
        refine xa_iconst eX8_parsePromise_46 ?_
        refine xa_isub eX8_parsePromise_47 ?_
        refine xbi_V20 (mi' := mX8_parseNumber) (y := yX8_parseNumber) eX8_parsePromise_48 (xw_5 lRX8_337 wy_X8_parseNumber) rfl ⟨wd_X8_parseNumber, by decide, by decide⟩ (by decide) (fun _ => rfl) rfl (Nat.le_of_ble_eq_true rfl) rfl (pr_X8_parseNumber h.1 t0 z0 (by decide) (by omega) (by omega) (fun e1 S1 t1 f1 z1 => ?_) (fun e1 v1e S1 hv1e f1 hc4 hc5 hE => ?_))
        · have v1 := rdN_V h e1
          have o1 := v1.2
          have hd := (cod_inj v1.1.1.nx.2.2.2.2.2).2.2.1
          have ht1 := t1.2.2.2.1
          refine xs_istore_1 eX8_parsePromise_51 rfl ?_
          refine xs_aload_0 eX8_parsePromise_52 ?_
          refine xs_aload_0 eX8_parsePromise_53 ?_
          refine gr_X8_17 eX8_parsePromise_54 lRX8_294 (fun r54 => ?_)
          refine xa_iconst eX8_parsePromise_57 ?_
          refine xa_icmp_ne (tgt := 65) eX8_parsePromise_58 (by decide) (by omega) (by decide) (fun c58 => ?_) (fun c58 => ?_)
          · refine xa_iconst eX8_parsePromise_65 ?_
            refine xa_iconst eX8_parsePromise_66 ?_
            refine xbv_V20 (mi' := mX8_require) (y := yX8_require) eX8_parsePromise_67 (xw_5 lRX8_330 wy_X8_require) rfl ⟨wd_X8_require, by decide, by decide⟩ (by decide) (fun _ => rfl) rfl (Nat.le_of_ble_eq_true rfl) rfl (k_X8_require (Or.inl rfl) (by decide) (fun z => absurd z (by decide)) (fun _ => ?_))
            have hq2 : ¬ nx n (rdN n 0 (C 1 4 3 - 1) C).2 3 0 6 = 2 := fun z => c58 (by rw [ht1]; exact hd.mpr z)
            have e2 := rdN_k (lo := 2) (hi := 120) hq2
            have hE : ¬ rqS 1 S1 30 0 20 = 0 := rq_20 (by decide)
            have hc4 : rqS 1 S1 30 0 20 = 1 := by unfold rqS; rw [if_pos z1, up_f (by decide), up_same]
            have hc5 : rqS 1 S1 30 0 21 = nx n (rdN n 0 (C 1 4 3 - 1) C).2 3 0 7 := by unfold rqS; rw [if_pos z1, up_same]; exact t1.2.2.1
            have hkE : rqS 1 S1 31 0 1 = (k : Int) := by rw [rq_k (by decide), f1.1 31 (by decide), f0.1 31 (by decide)]; exact hk1
            refine xs_aload_0 eX8_parsePromise_70 ?_
            refine xs_aload_0 eX8_parsePromise_71 ?_
            refine gr_X8_19 eX8_parsePromise_72 lRX8_291 (fun r72 => ?_)
            try simp only [show (2 : Int).toNat = 2 from rfl] at r72 ⊢
            refine xbi_S10 (mi' := mX8_isPeriod) (y := yX8_isPeriod) eX8_parsePromise_75 (xw_4 lRX8_134 wy_X8_isPeriod) rfl rfl ⟨wd_X8_isPeriod, by decide, by decide⟩ (Nat.le_of_ble_eq_true rfl) rfl (k_X8_isPeriod (by omega) ?_)
            refine xa_iconst eX8_parsePromise_78 ?_
            refine xbv_V20 (mi' := mX8_require) (y := yX8_require) eX8_parsePromise_79 (xw_5 lRX8_330 wy_X8_require) rfl ⟨wd_X8_require, by decide, by decide⟩ (by decide) (fun _ => rfl) rfl (Nat.le_of_ble_eq_true rfl) rfl (z_X8_require (b2i_01 _) hE ?_)
            refine xs_aload_0 eX8_parsePromise_82 ?_
            refine gr_X8_19 eX8_parsePromise_83 lRX8_291 (fun r83 => ?_)
            try simp only [show (2 : Int).toNat = 2 from rfl] at r83 ⊢
            refine xs_istore_2 eX8_parsePromise_86 rfl ?_
            refine xs_aload_0 eX8_parsePromise_87 ?_
            refine xbv_V00 (mi' := mX8_advance) (y := yX8_advance) eX8_parsePromise_88 (xw_5 lRX8_334 wy_X8_advance) rfl ⟨wd_X8_advance, by decide, by decide⟩ (by decide) (fun _ => rfl) rfl (Nat.le_of_ble_eq_true rfl) rfl (z_X8_advance hE ?_)
            refine xs_aload_0 eX8_parsePromise_91 ?_
            refine xa_iconst eX8_parsePromise_92 ?_
            refine xa_bipush eX8_parsePromise_93 (by decide) ?_
            refine xbi_V20 (mi' := mX8_parseNumber) (y := yX8_parseNumber) eX8_parsePromise_95 (xw_5 lRX8_337 wy_X8_parseNumber) rfl ⟨wd_X8_parseNumber, by decide, by decide⟩ (by decide) (fun _ => rfl) rfl (Nat.le_of_ble_eq_true rfl) rfl (zr_X8_parseNumber (by decide) (by decide) hE (fun v95 hv95 => ?_))
            refine xs_istore_3 eX8_parsePromise_98 rfl ?_
            refine xs_aload_0 eX8_parsePromise_99 ?_
            refine xs_aload_0 eX8_parsePromise_100 ?_
            refine gr_X8_17 eX8_parsePromise_101 lRX8_294 (fun r101 => ?_)
            try simp only [show (2 : Int).toNat = 2 from rfl] at r101 ⊢
            refine xa_iconst eX8_parsePromise_104 ?_
            refine xa_icmp_ne (tgt := 112) eX8_parsePromise_105 (by decide) (by omega) (by decide) (fun c105 => ?_) (fun c105 => ?_)
            · refine xa_iconst eX8_parsePromise_112 ?_
              refine xa_iconst eX8_parsePromise_113 ?_
              refine xbv_V20 (mi' := mX8_require) (y := yX8_require) eX8_parsePromise_114 (xw_5 lRX8_330 wy_X8_require) rfl ⟨wd_X8_require, by decide, by decide⟩ (by decide) (fun _ => rfl) rfl (Nat.le_of_ble_eq_true rfl) rfl (z_X8_require (by decide) hE ?_)
              refine xs_aload_0 eX8_parsePromise_117 ?_
              refine xs_aload_0 eX8_parsePromise_118 ?_
              refine gr_X8_19 eX8_parsePromise_119 lRX8_291 (fun r119 => ?_)
              try simp only [show (2 : Int).toNat = 2 from rfl] at r119 ⊢
              refine xa_i2l eX8_parsePromise_122 (by omega) ?_
              refine xs_iload_3 eX8_parsePromise_123 ?_
              refine xa_i2l eX8_parsePromise_124 (by omega) ?_
              refine xs_iload_2 eX8_parsePromise_125 ?_
              refine xa_i2l eX8_parsePromise_126 (by omega) ?_
              refine xbi_S30 (mi' := mX8_isBetween) (y := yX8_isBetween) eX8_parsePromise_127 (xw_4 lRX8_61 wy_X8_isBetween) rfl rfl ⟨wd_X8_isBetween, by decide, by decide⟩ (Nat.le_of_ble_eq_true rfl) rfl (k_X8_isBetween (by omega) (by omega) (by omega) ?_)
              refine xa_iconst eX8_parsePromise_130 ?_
              refine xbv_V20 (mi' := mX8_require) (y := yX8_require) eX8_parsePromise_131 (xw_5 lRX8_330 wy_X8_require) rfl ⟨wd_X8_require, by decide, by decide⟩ (by decide) (fun _ => rfl) rfl (Nat.le_of_ble_eq_true rfl) rfl (z_X8_require (b2i_01 _) hE ?_)
              refine xs_aload_0 eX8_parsePromise_134 ?_
              refine gr_X8_19 eX8_parsePromise_135 lRX8_291 (fun r135 => ?_)
              try simp only [show (2 : Int).toNat = 2 from rfl] at r135 ⊢
              refine xs_istore_4 eX8_parsePromise_138 rfl ?_
              refine xs_aload_0 eX8_parsePromise_140 ?_
              refine xbi_V00 (mi' := mX8_isFine) (y := yX8_isFine) eX8_parsePromise_141 (xw_5 lRX8_320 wy_X8_isFine) rfl ⟨wd_X8_isFine, by decide, by decide⟩ (by decide) (fun _ => rfl) rfl (Nat.le_of_ble_eq_true rfl) rfl (k_X8_isFine ?_)
              refine xa_ifb_eq (tgt := 160) eX8_parsePromise_144 (by decide) (fun c144 => ?_) (fun c144 => ?_)
              · refine xs_aload_0 eX8_parsePromise_160 ?_
                refine xbv_V00 (mi' := mX8_advance) (y := yX8_advance) eX8_parsePromise_161 (xw_5 lRX8_334 wy_X8_advance) rfl ⟨wd_X8_advance, by decide, by decide⟩ (by decide) (fun _ => rfl) rfl (Nat.le_of_ble_eq_true rfl) rfl (z_X8_advance hE ?_)
                refine xs_aload_0 eX8_parsePromise_164 ?_
                refine xa_ldcwS (tx := "ask") (i := 5) eX8_parsePromise_165 (List.mem_of_getElem? (i := 11) rfl) ?_
                refine xbi_V10 (mi' := mX8_accept) (y := yX8_accept) eX8_parsePromise_168 (xw_5 lRX8_342 wy_X8_accept) rfl ⟨wd_X8_accept, by decide, by decide⟩ (by decide) (fun _ => rfl) rfl (Nat.le_of_ble_eq_true rfl) rfl (z_X8_accept hE ?_)
                · refine xa_if_eq (tgt := 185) eX8_parsePromise_171 (by decide) (by decide) (fun c171 => ?_) (fun c171 => ?_)
                  · refine xa_iconst eX8_parsePromise_185 ?_
                    refine xs_istore_5 eX8_parsePromise_186 rfl ?_
                    refine xs_aload_0 eX8_parsePromise_188 ?_
                    refine xbi_V00 (mi' := mX8_isFine) (y := yX8_isFine) eX8_parsePromise_189 (xw_5 lRX8_320 wy_X8_isFine) rfl ⟨wd_X8_isFine, by decide, by decide⟩ (by decide) (fun _ => rfl) rfl (Nat.le_of_ble_eq_true rfl) rfl (k_X8_isFine ?_)
                    refine xa_ifb_eq (tgt := 216) eX8_parsePromise_192 (by decide) (fun c192 => ?_) (fun c192 => ?_)
                    · exact xa_vret eX8_parsePromise_216 rfl ⟨rfl, by have h9 := q0; simp only [rdPmS, bnd, rdPrm, rdPri, if_true, if_false, Bool.false_eq_true, reduceIte, Int.toNat_natCast, if_pos w4, if_pos hlt, e1, e2] at h9; exact h9 trivial _ ((FM.rq (by decide)).tr (f1.tr f0)).fw hc4 hc5 hE⟩
                    · exact absurd c192 hE
                  · exact absurd rfl c171
              · exact absurd c144 hE
            · refine xa_iconst eX8_parsePromise_108 ?_
              refine xa_goto (tgt := 113) eX8_parsePromise_109 (by decide) ?_
              refine xa_iconst eX8_parsePromise_113 ?_
              refine xbv_V20 (mi' := mX8_require) (y := yX8_require) eX8_parsePromise_114 (xw_5 lRX8_330 wy_X8_require) rfl ⟨wd_X8_require, by decide, by decide⟩ (by decide) (fun _ => rfl) rfl (Nat.le_of_ble_eq_true rfl) rfl (z_X8_require (by decide) hE ?_)
              refine xs_aload_0 eX8_parsePromise_117 ?_
              refine xs_aload_0 eX8_parsePromise_118 ?_
              refine gr_X8_19 eX8_parsePromise_119 lRX8_291 (fun r119 => ?_)
              try simp only [show (2 : Int).toNat = 2 from rfl] at r119 ⊢
              refine xa_i2l eX8_parsePromise_122 (by omega) ?_
              refine xs_iload_3 eX8_parsePromise_123 ?_
              refine xa_i2l eX8_parsePromise_124 (by omega) ?_
              refine xs_iload_2 eX8_parsePromise_125 ?_
              refine xa_i2l eX8_parsePromise_126 (by omega) ?_
              refine xbi_S30 (mi' := mX8_isBetween) (y := yX8_isBetween) eX8_parsePromise_127 (xw_4 lRX8_61 wy_X8_isBetween) rfl rfl ⟨wd_X8_isBetween, by decide, by decide⟩ (Nat.le_of_ble_eq_true rfl) rfl (k_X8_isBetween (by omega) (by omega) (by omega) ?_)
              refine xa_iconst eX8_parsePromise_130 ?_
              refine xbv_V20 (mi' := mX8_require) (y := yX8_require) eX8_parsePromise_131 (xw_5 lRX8_330 wy_X8_require) rfl ⟨wd_X8_require, by decide, by decide⟩ (by decide) (fun _ => rfl) rfl (Nat.le_of_ble_eq_true rfl) rfl (z_X8_require (b2i_01 _) hE ?_)
              refine xs_aload_0 eX8_parsePromise_134 ?_
              refine gr_X8_19 eX8_parsePromise_135 lRX8_291 (fun r135 => ?_)
              try simp only [show (2 : Int).toNat = 2 from rfl] at r135 ⊢
              refine xs_istore_4 eX8_parsePromise_138 rfl ?_
              refine xs_aload_0 eX8_parsePromise_140 ?_
              refine xbi_V00 (mi' := mX8_isFine) (y := yX8_isFine) eX8_parsePromise_141 (xw_5 lRX8_320 wy_X8_isFine) rfl ⟨wd_X8_isFine, by decide, by decide⟩ (by decide) (fun _ => rfl) rfl (Nat.le_of_ble_eq_true rfl) rfl (k_X8_isFine ?_)
              refine xa_ifb_eq (tgt := 160) eX8_parsePromise_144 (by decide) (fun c144 => ?_) (fun c144 => ?_)
              · refine xs_aload_0 eX8_parsePromise_160 ?_
                refine xbv_V00 (mi' := mX8_advance) (y := yX8_advance) eX8_parsePromise_161 (xw_5 lRX8_334 wy_X8_advance) rfl ⟨wd_X8_advance, by decide, by decide⟩ (by decide) (fun _ => rfl) rfl (Nat.le_of_ble_eq_true rfl) rfl (z_X8_advance hE ?_)
                refine xs_aload_0 eX8_parsePromise_164 ?_
                refine xa_ldcwS (tx := "ask") (i := 5) eX8_parsePromise_165 (List.mem_of_getElem? (i := 11) rfl) ?_
                refine xbi_V10 (mi' := mX8_accept) (y := yX8_accept) eX8_parsePromise_168 (xw_5 lRX8_342 wy_X8_accept) rfl ⟨wd_X8_accept, by decide, by decide⟩ (by decide) (fun _ => rfl) rfl (Nat.le_of_ble_eq_true rfl) rfl (z_X8_accept hE ?_)
                · refine xa_if_eq (tgt := 185) eX8_parsePromise_171 (by decide) (by decide) (fun c171 => ?_) (fun c171 => ?_)
                  · refine xa_iconst eX8_parsePromise_185 ?_
                    refine xs_istore_5 eX8_parsePromise_186 rfl ?_
                    refine xs_aload_0 eX8_parsePromise_188 ?_
                    refine xbi_V00 (mi' := mX8_isFine) (y := yX8_isFine) eX8_parsePromise_189 (xw_5 lRX8_320 wy_X8_isFine) rfl ⟨wd_X8_isFine, by decide, by decide⟩ (by decide) (fun _ => rfl) rfl (Nat.le_of_ble_eq_true rfl) rfl (k_X8_isFine ?_)
                    refine xa_ifb_eq (tgt := 216) eX8_parsePromise_192 (by decide) (fun c192 => ?_) (fun c192 => ?_)
                    · exact xa_vret eX8_parsePromise_216 rfl ⟨rfl, by have h9 := q0; simp only [rdPmS, bnd, rdPrm, rdPri, if_true, if_false, Bool.false_eq_true, reduceIte, Int.toNat_natCast, if_pos w4, if_pos hlt, e1, e2] at h9; exact h9 trivial _ ((FM.rq (by decide)).tr (f1.tr f0)).fw hc4 hc5 hE⟩
                    · exact absurd c192 hE
                  · exact absurd rfl c171
              · exact absurd c144 hE
          · have hq2 : nx n (rdN n 0 (C 1 4 3 - 1) C).2 3 0 6 = 2 := hd.mp (by rw [← ht1]; exact c58)
            have hr2 := t1.2.2.2.2.1 hq2
            refine xa_iconst eX8_parsePromise_61 ?_
            refine xa_goto (tgt := 66) eX8_parsePromise_62 (by decide) ?_
            refine xa_iconst eX8_parsePromise_66 ?_
            refine xbv_V20 (mi' := mX8_require) (y := yX8_require) eX8_parsePromise_67 (xw_5 lRX8_330 wy_X8_require) rfl ⟨wd_X8_require, by decide, by decide⟩ (by decide) (fun _ => rfl) rfl (Nat.le_of_ble_eq_true rfl) rfl (k_X8_require (Or.inr rfl) (by decide) (fun _ => ?_) (fun z => absurd z (by decide)))
            refine xs_aload_0 eX8_parsePromise_70 ?_
            refine xs_aload_0 eX8_parsePromise_71 ?_
            refine gr_X8_19 eX8_parsePromise_72 lRX8_291 (fun r72 => ?_)
            refine xbi_S10 (mi' := mX8_isPeriod) (y := yX8_isPeriod) eX8_parsePromise_75 (xw_4 lRX8_134 wy_X8_isPeriod) rfl rfl ⟨wd_X8_isPeriod, by decide, by decide⟩ (Nat.le_of_ble_eq_true rfl) rfl (k_X8_isPeriod (by omega) ?_)
            refine xa_iconst eX8_parsePromise_78 ?_
            refine xbv_V20 (mi' := mX8_require) (y := yX8_require) eX8_parsePromise_79 (xw_5 lRX8_330 wy_X8_require) rfl ⟨wd_X8_require, by decide, by decide⟩ (by decide) (fun _ => rfl) rfl (Nat.le_of_ble_eq_true rfl) rfl (k_X8_require (b2i_01 _) (by decide) (fun z79 => ?_) (fun z79 => ?_))
            · have p2 := b2i_y z79
              have eP9 : S1 30 0 19 = nx n (rdN n 0 (C 1 4 3 - 1) C).2 3 0 9 := by unfold VR at hr2; omega
              have e2y : (rdN n 2 120 (rdN n 0 (C 1 4 3 - 1) C).2) = (true, nx n (rdN n 0 (C 1 4 3 - 1) C).2) := rdN_y hq2 (by omega)
              have eP : S1 30 0 19 = ((rdN n 2 120 (rdN n 0 (C 1 4 3 - 1) C).2).2 3 0 9) := by rw [e2y]; exact eP9
              have e2 : (rdN n 2 120 (rdN n 0 (C 1 4 3 - 1) C).2).1 = true := by rw [e2y]
              have v2 := rdN_V v1.1 e2
              have o2 := v2.2
              have hper : perP ((rdN n 2 120 (rdN n 0 (C 1 4 3 - 1) C).2).2 3 0 9) := by rw [← eP]; exact p2
              have t1b : TR n (rdN n 2 120 (rdN n 0 (C 1 4 3 - 1) C).2).2 S1 := by rw [e2y]; exact t1
              refine xs_aload_0 eX8_parsePromise_82 ?_
              refine gr_X8_19 eX8_parsePromise_83 lRX8_291 (fun r83 => ?_)
              try simp only [eP] at r83 ⊢
              refine xs_istore_2 eX8_parsePromise_86 rfl ?_
              refine xs_aload_0 eX8_parsePromise_87 ?_
              refine xbv_V00 (mi' := mX8_advance) (y := yX8_advance) eX8_parsePromise_88 (xw_5 lRX8_334 wy_X8_advance) rfl ⟨wd_X8_advance, by decide, by decide⟩ (by decide) (fun _ => rfl) rfl (Nat.le_of_ble_eq_true rfl) rfl (p_X8_advance v2.1.1 t1b z1 (fun S2 t2 f2 z2 => ?_))
              · refine xs_aload_0 eX8_parsePromise_91 ?_
                refine xa_iconst eX8_parsePromise_92 ?_
                refine xa_bipush eX8_parsePromise_93 (by decide) ?_
                refine xbi_V20 (mi' := mX8_parseNumber) (y := yX8_parseNumber) eX8_parsePromise_95 (xw_5 lRX8_337 wy_X8_parseNumber) rfl ⟨wd_X8_parseNumber, by decide, by decide⟩ (by decide) (fun _ => rfl) rfl (Nat.le_of_ble_eq_true rfl) rfl (pr_X8_parseNumber v2.1.1 t2 z2 (by decide) (by decide) (by decide) (fun e3 S3 t3 f3 z3 => ?_) (fun e3 v3e S3 hv3e f3 hc4 hc5 hE => ?_))
                · have v3 := rdN_V v2.1 e3
                  have o3 := v3.2
                  have hd3 := (cod_inj v3.1.1.nx.2.2.2.2.2).2.2.1
                  have ht3 := t3.2.2.2.1
                  refine xs_istore_3 eX8_parsePromise_98 rfl ?_
                  refine xs_aload_0 eX8_parsePromise_99 ?_
                  refine xs_aload_0 eX8_parsePromise_100 ?_
                  refine gr_X8_17 eX8_parsePromise_101 lRX8_294 (fun r101 => ?_)
                  try simp only [eP] at r101 ⊢
                  refine xa_iconst eX8_parsePromise_104 ?_
                  refine xa_icmp_ne (tgt := 112) eX8_parsePromise_105 (by decide) (by omega) (by decide) (fun c105 => ?_) (fun c105 => ?_)
                  · refine xa_iconst eX8_parsePromise_112 ?_
                    refine xa_iconst eX8_parsePromise_113 ?_
                    refine xbv_V20 (mi' := mX8_require) (y := yX8_require) eX8_parsePromise_114 (xw_5 lRX8_330 wy_X8_require) rfl ⟨wd_X8_require, by decide, by decide⟩ (by decide) (fun _ => rfl) rfl (Nat.le_of_ble_eq_true rfl) rfl (k_X8_require (Or.inl rfl) (by decide) (fun z => absurd z (by decide)) (fun _ => ?_))
                    have hq4 : ¬ nx n (rdN n 1 120 (rdN n 2 120 (rdN n 0 (C 1 4 3 - 1) C).2).2).2 3 0 6 = 2 := fun z => c105 (by rw [ht3]; exact hd3.mpr z)
                    have e4 := rdN_k (lo := ((rdN n 1 120 (rdN n 2 120 (rdN n 0 (C 1 4 3 - 1) C).2).2).2 3 0 9)) (hi := ((rdN n 2 120 (rdN n 0 (C 1 4 3 - 1) C).2).2 3 0 9)) hq4
                    have hE : ¬ rqS 1 S3 30 0 20 = 0 := rq_20 (by decide)
                    have hc4 : rqS 1 S3 30 0 20 = 1 := by unfold rqS; rw [if_pos z3, up_f (by decide), up_same]
                    have hc5 : rqS 1 S3 30 0 21 = nx n (rdN n 1 120 (rdN n 2 120 (rdN n 0 (C 1 4 3 - 1) C).2).2).2 3 0 7 := by unfold rqS; rw [if_pos z3, up_same]; exact t3.2.2.1
                    have hkE : rqS 1 S3 31 0 1 = (k : Int) := by rw [rq_k (by decide), f3.1 31 (by decide), f2.1 31 (by decide), f1.1 31 (by decide), f0.1 31 (by decide)]; exact hk1
                    refine xs_aload_0 eX8_parsePromise_117 ?_
                    refine xs_aload_0 eX8_parsePromise_118 ?_
                    refine gr_X8_19 eX8_parsePromise_119 lRX8_291 (fun r119 => ?_)
                    try simp only [show (2 : Int).toNat = 2 from rfl] at r119 ⊢
                    refine xa_i2l eX8_parsePromise_122 (by omega) ?_
                    refine xs_iload_3 eX8_parsePromise_123 ?_
                    refine xa_i2l eX8_parsePromise_124 (by omega) ?_
                    refine xs_iload_2 eX8_parsePromise_125 ?_
                    refine xa_i2l eX8_parsePromise_126 (by omega) ?_
                    refine xbi_S30 (mi' := mX8_isBetween) (y := yX8_isBetween) eX8_parsePromise_127 (xw_4 lRX8_61 wy_X8_isBetween) rfl rfl ⟨wd_X8_isBetween, by decide, by decide⟩ (Nat.le_of_ble_eq_true rfl) rfl (k_X8_isBetween (by omega) (by omega) (by omega) ?_)
                    refine xa_iconst eX8_parsePromise_130 ?_
                    refine xbv_V20 (mi' := mX8_require) (y := yX8_require) eX8_parsePromise_131 (xw_5 lRX8_330 wy_X8_require) rfl ⟨wd_X8_require, by decide, by decide⟩ (by decide) (fun _ => rfl) rfl (Nat.le_of_ble_eq_true rfl) rfl (z_X8_require (b2i_01 _) hE ?_)
                    refine xs_aload_0 eX8_parsePromise_134 ?_
                    refine gr_X8_19 eX8_parsePromise_135 lRX8_291 (fun r135 => ?_)
                    try simp only [show (2 : Int).toNat = 2 from rfl] at r135 ⊢
                    refine xs_istore_4 eX8_parsePromise_138 rfl ?_
                    refine xs_aload_0 eX8_parsePromise_140 ?_
                    refine xbi_V00 (mi' := mX8_isFine) (y := yX8_isFine) eX8_parsePromise_141 (xw_5 lRX8_320 wy_X8_isFine) rfl ⟨wd_X8_isFine, by decide, by decide⟩ (by decide) (fun _ => rfl) rfl (Nat.le_of_ble_eq_true rfl) rfl (k_X8_isFine ?_)
                    refine xa_ifb_eq (tgt := 160) eX8_parsePromise_144 (by decide) (fun c144 => ?_) (fun c144 => ?_)
                    · refine xs_aload_0 eX8_parsePromise_160 ?_
                      refine xbv_V00 (mi' := mX8_advance) (y := yX8_advance) eX8_parsePromise_161 (xw_5 lRX8_334 wy_X8_advance) rfl ⟨wd_X8_advance, by decide, by decide⟩ (by decide) (fun _ => rfl) rfl (Nat.le_of_ble_eq_true rfl) rfl (z_X8_advance hE ?_)
                      refine xs_aload_0 eX8_parsePromise_164 ?_
                      refine xa_ldcwS (tx := "ask") (i := 5) eX8_parsePromise_165 (List.mem_of_getElem? (i := 11) rfl) ?_
                      refine xbi_V10 (mi' := mX8_accept) (y := yX8_accept) eX8_parsePromise_168 (xw_5 lRX8_342 wy_X8_accept) rfl ⟨wd_X8_accept, by decide, by decide⟩ (by decide) (fun _ => rfl) rfl (Nat.le_of_ble_eq_true rfl) rfl (z_X8_accept hE ?_)
                      · refine xa_if_eq (tgt := 185) eX8_parsePromise_171 (by decide) (by decide) (fun c171 => ?_) (fun c171 => ?_)
                        · refine xa_iconst eX8_parsePromise_185 ?_
                          refine xs_istore_5 eX8_parsePromise_186 rfl ?_
                          refine xs_aload_0 eX8_parsePromise_188 ?_
                          refine xbi_V00 (mi' := mX8_isFine) (y := yX8_isFine) eX8_parsePromise_189 (xw_5 lRX8_320 wy_X8_isFine) rfl ⟨wd_X8_isFine, by decide, by decide⟩ (by decide) (fun _ => rfl) rfl (Nat.le_of_ble_eq_true rfl) rfl (k_X8_isFine ?_)
                          refine xa_ifb_eq (tgt := 216) eX8_parsePromise_192 (by decide) (fun c192 => ?_) (fun c192 => ?_)
                          · exact xa_vret eX8_parsePromise_216 rfl ⟨rfl, by have h9 := q0; simp only [rdPmS, bnd, rdPrm, rdPri, if_true, if_false, Bool.false_eq_true, reduceIte, Int.toNat_natCast, if_pos w4, if_pos hlt, e1, e2, if_pos hper, e3, e4] at h9; exact h9 trivial _ ((FM.rq (by decide)).tr (f3.tr (f2.tr (f1.tr f0)))).fw hc4 hc5 hE⟩
                          · exact absurd c192 hE
                        · exact absurd rfl c171
                    · exact absurd c144 hE
                  · have hq4 : nx n (rdN n 1 120 (rdN n 2 120 (rdN n 0 (C 1 4 3 - 1) C).2).2).2 3 0 6 = 2 := hd3.mp (by rw [← ht3]; exact c105)
                    have hr4 := t3.2.2.2.2.1 hq4
                    refine xa_iconst eX8_parsePromise_108 ?_
                    refine xa_goto (tgt := 113) eX8_parsePromise_109 (by decide) ?_
                    refine xa_iconst eX8_parsePromise_113 ?_
                    refine xbv_V20 (mi' := mX8_require) (y := yX8_require) eX8_parsePromise_114 (xw_5 lRX8_330 wy_X8_require) rfl ⟨wd_X8_require, by decide, by decide⟩ (by decide) (fun _ => rfl) rfl (Nat.le_of_ble_eq_true rfl) rfl (k_X8_require (Or.inr rfl) (by decide) (fun _ => ?_) (fun z => absurd z (by decide)))
                    refine xs_aload_0 eX8_parsePromise_117 ?_
                    refine xs_aload_0 eX8_parsePromise_118 ?_
                    refine gr_X8_19 eX8_parsePromise_119 lRX8_291 (fun r119 => ?_)
                    refine xa_i2l eX8_parsePromise_122 (by omega) ?_
                    refine xs_iload_3 eX8_parsePromise_123 ?_
                    refine xa_i2l eX8_parsePromise_124 (by omega) ?_
                    refine xs_iload_2 eX8_parsePromise_125 ?_
                    refine xa_i2l eX8_parsePromise_126 (by omega) ?_
                    refine xbi_S30 (mi' := mX8_isBetween) (y := yX8_isBetween) eX8_parsePromise_127 (xw_4 lRX8_61 wy_X8_isBetween) rfl rfl ⟨wd_X8_isBetween, by decide, by decide⟩ (Nat.le_of_ble_eq_true rfl) rfl (k_X8_isBetween (by omega) (by omega) (by omega) ?_)
                    refine xa_iconst eX8_parsePromise_130 ?_
                    refine xbv_V20 (mi' := mX8_require) (y := yX8_require) eX8_parsePromise_131 (xw_5 lRX8_330 wy_X8_require) rfl ⟨wd_X8_require, by decide, by decide⟩ (by decide) (fun _ => rfl) rfl (Nat.le_of_ble_eq_true rfl) rfl (k_X8_require (b2i_01 _) (by decide) (fun z131 => ?_) (fun z131 => ?_))
                    · have p4 := b2i_y z131
                      have eD9 : S3 30 0 19 = nx n (rdN n 1 120 (rdN n 2 120 (rdN n 0 (C 1 4 3 - 1) C).2).2).2 3 0 9 := by unfold VR at hr4; omega
                      have e4y : (rdN n ((rdN n 1 120 (rdN n 2 120 (rdN n 0 (C 1 4 3 - 1) C).2).2).2 3 0 9) ((rdN n 2 120 (rdN n 0 (C 1 4 3 - 1) C).2).2 3 0 9) (rdN n 1 120 (rdN n 2 120 (rdN n 0 (C 1 4 3 - 1) C).2).2).2) = (true, nx n (rdN n 1 120 (rdN n 2 120 (rdN n 0 (C 1 4 3 - 1) C).2).2).2) := rdN_y hq4 (by omega)
                      have eD : S3 30 0 19 = ((rdN n ((rdN n 1 120 (rdN n 2 120 (rdN n 0 (C 1 4 3 - 1) C).2).2).2 3 0 9) ((rdN n 2 120 (rdN n 0 (C 1 4 3 - 1) C).2).2 3 0 9) (rdN n 1 120 (rdN n 2 120 (rdN n 0 (C 1 4 3 - 1) C).2).2).2).2 3 0 9) := by rw [e4y]; exact eD9
                      have e4 : (rdN n ((rdN n 1 120 (rdN n 2 120 (rdN n 0 (C 1 4 3 - 1) C).2).2).2 3 0 9) ((rdN n 2 120 (rdN n 0 (C 1 4 3 - 1) C).2).2 3 0 9) (rdN n 1 120 (rdN n 2 120 (rdN n 0 (C 1 4 3 - 1) C).2).2).2).1 = true := by rw [e4y]
                      have v4 := rdN_V v3.1 e4
                      have o4 := v4.2
                      have t3b : TR n (rdN n ((rdN n 1 120 (rdN n 2 120 (rdN n 0 (C 1 4 3 - 1) C).2).2).2 3 0 9) ((rdN n 2 120 (rdN n 0 (C 1 4 3 - 1) C).2).2 3 0 9) (rdN n 1 120 (rdN n 2 120 (rdN n 0 (C 1 4 3 - 1) C).2).2).2).2 S3 := by rw [e4y]; exact t3
                      have hx4 : ∀ x, x ≠ 3 → (rdN n ((rdN n 1 120 (rdN n 2 120 (rdN n 0 (C 1 4 3 - 1) C).2).2).2 3 0 9) ((rdN n 2 120 (rdN n 0 (C 1 4 3 - 1) C).2).2 3 0 9) (rdN n 1 120 (rdN n 2 120 (rdN n 0 (C 1 4 3 - 1) C).2).2).2).2 x = C x := fun x hx => by rw [(rdN_P v3.1.1 e4).2.2 x hx, (rdN_P v2.1.1 e3).2.2 x hx, (rdN_P v1.1.1 e2).2.2 x hx, (rdN_P h.1 e1).2.2 x hx]
                      have hac : accF 4 7 N ((rdN n 2 120 (rdN n 0 (C 1 4 3 - 1) C).2).2 3 0 9) ((rdN n 1 120 (rdN n 2 120 (rdN n 0 (C 1 4 3 - 1) C).2).2).2 3 0 9) ((rdN n ((rdN n 1 120 (rdN n 2 120 (rdN n 0 (C 1 4 3 - 1) C).2).2).2 3 0 9) ((rdN n 2 120 (rdN n 0 (C 1 4 3 - 1) C).2).2 3 0 9) (rdN n 1 120 (rdN n 2 120 (rdN n 0 (C 1 4 3 - 1) C).2).2).2).2 3 0 9) C = accF 4 7 N ((rdN n 2 120 (rdN n 0 (C 1 4 3 - 1) C).2).2 3 0 9) ((rdN n 1 120 (rdN n 2 120 (rdN n 0 (C 1 4 3 - 1) C).2).2).2 3 0 9) ((rdN n ((rdN n 1 120 (rdN n 2 120 (rdN n 0 (C 1 4 3 - 1) C).2).2).2 3 0 9) ((rdN n 2 120 (rdN n 0 (C 1 4 3 - 1) C).2).2 3 0 9) (rdN n 1 120 (rdN n 2 120 (rdN n 0 (C 1 4 3 - 1) C).2).2).2).2 3 0 9) (rdN n ((rdN n 1 120 (rdN n 2 120 (rdN n 0 (C 1 4 3 - 1) C).2).2).2 3 0 9) ((rdN n 2 120 (rdN n 0 (C 1 4 3 - 1) C).2).2 3 0 9) (rdN n 1 120 (rdN n 2 120 (rdN n 0 (C 1 4 3 - 1) C).2).2).2).2 := (tlq.of (by rw [hx4 2 (by decide)]) (fun j _ => by rw [hx4 10 (by decide)])).acc
                      have hR3 : Rel 4 k N C (S3 31 0) := by rw [f3.1 31 (by decide), f2.1 31 (by decide), f1.1 31 (by decide), f0.1 31 (by decide)]; exact hR
                      refine xs_aload_0 eX8_parsePromise_134 ?_
                      refine gr_X8_19 eX8_parsePromise_135 lRX8_291 (fun r135 => ?_)
                      try simp only [eD] at r135 ⊢
                      refine xs_istore_4 eX8_parsePromise_138 rfl ?_
                      refine xs_aload_0 eX8_parsePromise_140 ?_
                      refine xbi_V00 (mi' := mX8_isFine) (y := yX8_isFine) eX8_parsePromise_141 (xw_5 lRX8_320 wy_X8_isFine) rfl ⟨wd_X8_isFine, by decide, by decide⟩ (by decide) (fun _ => rfl) rfl (Nat.le_of_ble_eq_true rfl) rfl (k_X8_isFine ?_)
                      refine xa_ifb_eq (tgt := 160) eX8_parsePromise_144 (by decide) (fun c144 => ?_) (fun c144 => ?_)
                      · exact absurd z3 c144
                      · refine X_store (stM_self S3).symm ?_
                        refine xs_aload_0 eX8_parsePromise_147 ?_
                        refine xs_aload_0 eX8_parsePromise_148 ?_
                        refine xs_iload_2 eX8_parsePromise_149 ?_
                        refine xs_iload_3 eX8_parsePromise_150 ?_
                        refine xs_iload_4 eX8_parsePromise_151 ?_
                        refine xbi_V30 (mi' := mX8_accepts) (y := yX8_accepts) eX8_parsePromise_153 (xw_5 lRX8_173 wy_X8_accepts) rfl ⟨wd_X8_accepts, by decide, by decide⟩ (by decide) (fun _ => rfl) rfl (Nat.le_of_ble_eq_true rfl) rfl (s_X8_accepts (s := 4) h.2 hT hR3 (by omega) (by omega) (by omega) (fun S4 l4 l4o => ?_))
                        refine xa_iconst eX8_parsePromise_156 ?_
                        refine xbv_V20 (mi' := mX8_require) (y := yX8_require) eX8_parsePromise_157 (xw_5 lRX8_330 wy_X8_require) rfl ⟨wd_X8_require, by decide, by decide⟩ (by decide) (fun _ => rfl) rfl (Nat.le_of_ble_eq_true rfl) rfl (k_X8_require (b2i_01 _) (by decide) (fun z157 => ?_) (fun z157 => ?_))
                        · have zA : (stM (S3 31 0) S4) 30 0 20 = 0 := by rw [stM_k (by decide), l4.2 20 (by decide) (by decide)]; exact z3
                          have hacY : accF 4 7 N ((rdN n 2 120 (rdN n 0 (C 1 4 3 - 1) C).2).2 3 0 9) ((rdN n 1 120 (rdN n 2 120 (rdN n 0 (C 1 4 3 - 1) C).2).2).2 3 0 9) ((rdN n ((rdN n 1 120 (rdN n 2 120 (rdN n 0 (C 1 4 3 - 1) C).2).2).2 3 0 9) ((rdN n 2 120 (rdN n 0 (C 1 4 3 - 1) C).2).2 3 0 9) (rdN n 1 120 (rdN n 2 120 (rdN n 0 (C 1 4 3 - 1) C).2).2).2).2 3 0 9) (rdN n ((rdN n 1 120 (rdN n 2 120 (rdN n 0 (C 1 4 3 - 1) C).2).2).2 3 0 9) ((rdN n 2 120 (rdN n 0 (C 1 4 3 - 1) C).2).2 3 0 9) (rdN n 1 120 (rdN n 2 120 (rdN n 0 (C 1 4 3 - 1) C).2).2).2).2 = true := by rw [← hac]; exact b2i_y z157
                          have tA : TR n (rdN n ((rdN n 1 120 (rdN n 2 120 (rdN n 0 (C 1 4 3 - 1) C).2).2).2 3 0 9) ((rdN n 2 120 (rdN n 0 (C 1 4 3 - 1) C).2).2 3 0 9) (rdN n 1 120 (rdN n 2 120 (rdN n 0 (C 1 4 3 - 1) C).2).2).2).2 (stM (S3 31 0) S4) := t3b.of (fun _ _ _ => rfl) rfl (fun f a b c => by rw [stM_k (by decide), l4.2 f (by omega) (by omega)]) (by rw [stM_k (by decide), l4.1.1 41 0 (by omega)])
                          refine xs_aload_0 eX8_parsePromise_160 ?_
                          refine xbv_V00 (mi' := mX8_advance) (y := yX8_advance) eX8_parsePromise_161 (xw_5 lRX8_334 wy_X8_advance) rfl ⟨wd_X8_advance, by decide, by decide⟩ (by decide) (fun _ => rfl) rfl (Nat.le_of_ble_eq_true rfl) rfl (p_X8_advance v4.1.1 tA zA (fun S5 t5 f5 z5 => ?_))
                          · have vD : VP n k (N + 1) T (nx n (addT 4 N ((rdN n 0 (C 1 4 3 - 1) C).2 3 0 9) ((rdN n 2 120 (rdN n 0 (C 1 4 3 - 1) C).2).2 3 0 9) ((rdN n 1 120 (rdN n 2 120 (rdN n 0 (C 1 4 3 - 1) C).2).2).2 3 0 9) ((rdN n ((rdN n 1 120 (rdN n 2 120 (rdN n 0 (C 1 4 3 - 1) C).2).2).2 3 0 9) ((rdN n 2 120 (rdN n 0 (C 1 4 3 - 1) C).2).2 3 0 9) (rdN n 1 120 (rdN n 2 120 (rdN n 0 (C 1 4 3 - 1) C).2).2).2).2 3 0 9) (rdN n ((rdN n 1 120 (rdN n 2 120 (rdN n 0 (C 1 4 3 - 1) C).2).2).2 3 0 9) ((rdN n 2 120 (rdN n 0 (C 1 4 3 - 1) C).2).2 3 0 9) (rdN n 1 120 (rdN n 2 120 (rdN n 0 (C 1 4 3 - 1) C).2).2).2).2)) := VP.nx ⟨PT_add v4.1.1, v4.1.2.pros (by omega) (by omega) (by omega) (by omega) (by omega)⟩
                            have tD : TR n (nx n (addT 4 N ((rdN n 0 (C 1 4 3 - 1) C).2 3 0 9) ((rdN n 2 120 (rdN n 0 (C 1 4 3 - 1) C).2).2 3 0 9) ((rdN n 1 120 (rdN n 2 120 (rdN n 0 (C 1 4 3 - 1) C).2).2).2 3 0 9) ((rdN n ((rdN n 1 120 (rdN n 2 120 (rdN n 0 (C 1 4 3 - 1) C).2).2).2 3 0 9) ((rdN n 2 120 (rdN n 0 (C 1 4 3 - 1) C).2).2 3 0 9) (rdN n 1 120 (rdN n 2 120 (rdN n 0 (C 1 4 3 - 1) C).2).2).2).2 3 0 9) (rdN n ((rdN n 1 120 (rdN n 2 120 (rdN n 0 (C 1 4 3 - 1) C).2).2).2 3 0 9) ((rdN n 2 120 (rdN n 0 (C 1 4 3 - 1) C).2).2 3 0 9) (rdN n 1 120 (rdN n 2 120 (rdN n 0 (C 1 4 3 - 1) C).2).2).2).2)) S5 := t5.nxe (fun _ _ _ => rfl) rfl
                            refine xs_aload_0 eX8_parsePromise_164 ?_
                            refine xa_ldcwS (tx := "ask") (i := 5) eX8_parsePromise_165 (List.mem_of_getElem? (i := 11) rfl) ?_
                            refine xbi_V10 (mi' := mX8_accept) (y := yX8_accept) eX8_parsePromise_168 (xw_5 lRX8_342 wy_X8_accept) rfl ⟨wd_X8_accept, by decide, by decide⟩ (by decide) (fun _ => rfl) rfl (Nat.le_of_ble_eq_true rfl) rfl (p_X8_accept (by decide) vD.1 tD z5 (fun c3 S6 t6 f6 z6 => ?_) (fun c3 => ?_))
                            · refine xa_if_eq (tgt := 185) eX8_parsePromise_171 (by decide) (by decide) (fun c171 => ?_) (fun c171 => ?_)
                              · exact absurd c171 (by decide)
                              · refine xs_aload_0 eX8_parsePromise_174 ?_
                                refine xa_iconst eX8_parsePromise_175 ?_
                                refine xa_ldcw (a := 99999) eX8_parsePromise_176 lRX8_349 (by decide) ?_
                                refine xbi_V20 (mi' := mX8_parseNumber) (y := yX8_parseNumber) eX8_parsePromise_179 (xw_5 lRX8_337 wy_X8_parseNumber) rfl ⟨wd_X8_parseNumber, by decide, by decide⟩ (by decide) (fun _ => rfl) rfl (Nat.le_of_ble_eq_true rfl) rfl (pr_X8_parseNumber vD.1 t6 z6 (by decide) (by decide) (by decide) (fun e7 S7 t7 f7 z7 => ?_) (fun e7 v7e S7 hv7e f7 hc4 hc5 hE => ?_))
                                · refine xa_goto (tgt := 186) eX8_parsePromise_182 (by decide) ?_
                                  refine xs_istore_5 eX8_parsePromise_186 rfl ?_
                                  have hxD : ∀ x, x ≠ 3 → (nx n (addT 4 N ((rdN n 0 (C 1 4 3 - 1) C).2 3 0 9) ((rdN n 2 120 (rdN n 0 (C 1 4 3 - 1) C).2).2 3 0 9) ((rdN n 1 120 (rdN n 2 120 (rdN n 0 (C 1 4 3 - 1) C).2).2).2 3 0 9) ((rdN n ((rdN n 1 120 (rdN n 2 120 (rdN n 0 (C 1 4 3 - 1) C).2).2).2 3 0 9) ((rdN n 2 120 (rdN n 0 (C 1 4 3 - 1) C).2).2 3 0 9) (rdN n 1 120 (rdN n 2 120 (rdN n 0 (C 1 4 3 - 1) C).2).2).2).2 3 0 9) (rdN n ((rdN n 1 120 (rdN n 2 120 (rdN n 0 (C 1 4 3 - 1) C).2).2).2 3 0 9) ((rdN n 2 120 (rdN n 0 (C 1 4 3 - 1) C).2).2 3 0 9) (rdN n 1 120 (rdN n 2 120 (rdN n 0 (C 1 4 3 - 1) C).2).2).2).2)) x = addT 4 N ((rdN n 0 (C 1 4 3 - 1) C).2 3 0 9) ((rdN n 2 120 (rdN n 0 (C 1 4 3 - 1) C).2).2 3 0 9) ((rdN n 1 120 (rdN n 2 120 (rdN n 0 (C 1 4 3 - 1) C).2).2).2 3 0 9) ((rdN n ((rdN n 1 120 (rdN n 2 120 (rdN n 0 (C 1 4 3 - 1) C).2).2).2 3 0 9) ((rdN n 2 120 (rdN n 0 (C 1 4 3 - 1) C).2).2 3 0 9) (rdN n 1 120 (rdN n 2 120 (rdN n 0 (C 1 4 3 - 1) C).2).2).2).2 3 0 9) C x := fun x hx => by rw [nx_o hx]; exact add_cg (hx4 x hx) (hx4 2 (by decide))
                                  have v7 := rdN_V vD e7
                                  have o7 := v7.2
                                  have hix : ((rdN n 0 99999 (nx n (addT 4 N ((rdN n 0 (C 1 4 3 - 1) C).2 3 0 9) ((rdN n 2 120 (rdN n 0 (C 1 4 3 - 1) C).2).2 3 0 9) ((rdN n 1 120 (rdN n 2 120 (rdN n 0 (C 1 4 3 - 1) C).2).2).2 3 0 9) ((rdN n ((rdN n 1 120 (rdN n 2 120 (rdN n 0 (C 1 4 3 - 1) C).2).2).2 3 0 9) ((rdN n 2 120 (rdN n 0 (C 1 4 3 - 1) C).2).2 3 0 9) (rdN n 1 120 (rdN n 2 120 (rdN n 0 (C 1 4 3 - 1) C).2).2).2).2 3 0 9) (rdN n ((rdN n 1 120 (rdN n 2 120 (rdN n 0 (C 1 4 3 - 1) C).2).2).2 3 0 9) ((rdN n 2 120 (rdN n 0 (C 1 4 3 - 1) C).2).2 3 0 9) (rdN n 1 120 (rdN n 2 120 (rdN n 0 (C 1 4 3 - 1) C).2).2).2).2))).2 2 4 1 - 1).toNat = N := by rw [v7.1.2.1.1]; omega
                                  have hx7 : ∀ x, x ≠ 3 → (nx n (up (rdN n 0 99999 (nx n (addT 4 N ((rdN n 0 (C 1 4 3 - 1) C).2 3 0 9) ((rdN n 2 120 (rdN n 0 (C 1 4 3 - 1) C).2).2 3 0 9) ((rdN n 1 120 (rdN n 2 120 (rdN n 0 (C 1 4 3 - 1) C).2).2).2 3 0 9) ((rdN n ((rdN n 1 120 (rdN n 2 120 (rdN n 0 (C 1 4 3 - 1) C).2).2).2 3 0 9) ((rdN n 2 120 (rdN n 0 (C 1 4 3 - 1) C).2).2 3 0 9) (rdN n 1 120 (rdN n 2 120 (rdN n 0 (C 1 4 3 - 1) C).2).2).2).2 3 0 9) (rdN n ((rdN n 1 120 (rdN n 2 120 (rdN n 0 (C 1 4 3 - 1) C).2).2).2 3 0 9) ((rdN n 2 120 (rdN n 0 (C 1 4 3 - 1) C).2).2 3 0 9) (rdN n 1 120 (rdN n 2 120 (rdN n 0 (C 1 4 3 - 1) C).2).2).2).2))).2 10 (32 * 4 + ((rdN n 0 99999 (nx n (addT 4 N ((rdN n 0 (C 1 4 3 - 1) C).2 3 0 9) ((rdN n 2 120 (rdN n 0 (C 1 4 3 - 1) C).2).2 3 0 9) ((rdN n 1 120 (rdN n 2 120 (rdN n 0 (C 1 4 3 - 1) C).2).2).2 3 0 9) ((rdN n ((rdN n 1 120 (rdN n 2 120 (rdN n 0 (C 1 4 3 - 1) C).2).2).2 3 0 9) ((rdN n 2 120 (rdN n 0 (C 1 4 3 - 1) C).2).2 3 0 9) (rdN n 1 120 (rdN n 2 120 (rdN n 0 (C 1 4 3 - 1) C).2).2).2).2 3 0 9) (rdN n ((rdN n 1 120 (rdN n 2 120 (rdN n 0 (C 1 4 3 - 1) C).2).2).2 3 0 9) ((rdN n 2 120 (rdN n 0 (C 1 4 3 - 1) C).2).2 3 0 9) (rdN n 1 120 (rdN n 2 120 (rdN n 0 (C 1 4 3 - 1) C).2).2).2).2))).2 2 4 1 - 1).toNat) 9 ((rdN n 0 99999 (nx n (addT 4 N ((rdN n 0 (C 1 4 3 - 1) C).2 3 0 9) ((rdN n 2 120 (rdN n 0 (C 1 4 3 - 1) C).2).2 3 0 9) ((rdN n 1 120 (rdN n 2 120 (rdN n 0 (C 1 4 3 - 1) C).2).2).2 3 0 9) ((rdN n ((rdN n 1 120 (rdN n 2 120 (rdN n 0 (C 1 4 3 - 1) C).2).2).2 3 0 9) ((rdN n 2 120 (rdN n 0 (C 1 4 3 - 1) C).2).2 3 0 9) (rdN n 1 120 (rdN n 2 120 (rdN n 0 (C 1 4 3 - 1) C).2).2).2).2 3 0 9) (rdN n ((rdN n 1 120 (rdN n 2 120 (rdN n 0 (C 1 4 3 - 1) C).2).2).2 3 0 9) ((rdN n 2 120 (rdN n 0 (C 1 4 3 - 1) C).2).2 3 0 9) (rdN n 1 120 (rdN n 2 120 (rdN n 0 (C 1 4 3 - 1) C).2).2).2).2))).2 3 0 9))) x = up (addT 4 N ((rdN n 0 (C 1 4 3 - 1) C).2 3 0 9) ((rdN n 2 120 (rdN n 0 (C 1 4 3 - 1) C).2).2 3 0 9) ((rdN n 1 120 (rdN n 2 120 (rdN n 0 (C 1 4 3 - 1) C).2).2).2 3 0 9) ((rdN n ((rdN n 1 120 (rdN n 2 120 (rdN n 0 (C 1 4 3 - 1) C).2).2).2 3 0 9) ((rdN n 2 120 (rdN n 0 (C 1 4 3 - 1) C).2).2 3 0 9) (rdN n 1 120 (rdN n 2 120 (rdN n 0 (C 1 4 3 - 1) C).2).2).2).2 3 0 9) C) 10 (32 * 4 + N) 9 ((rdN n 0 99999 (nx n (addT 4 N ((rdN n 0 (C 1 4 3 - 1) C).2 3 0 9) ((rdN n 2 120 (rdN n 0 (C 1 4 3 - 1) C).2).2 3 0 9) ((rdN n 1 120 (rdN n 2 120 (rdN n 0 (C 1 4 3 - 1) C).2).2).2 3 0 9) ((rdN n ((rdN n 1 120 (rdN n 2 120 (rdN n 0 (C 1 4 3 - 1) C).2).2).2 3 0 9) ((rdN n 2 120 (rdN n 0 (C 1 4 3 - 1) C).2).2 3 0 9) (rdN n 1 120 (rdN n 2 120 (rdN n 0 (C 1 4 3 - 1) C).2).2).2).2 3 0 9) (rdN n ((rdN n 1 120 (rdN n 2 120 (rdN n 0 (C 1 4 3 - 1) C).2).2).2 3 0 9) ((rdN n 2 120 (rdN n 0 (C 1 4 3 - 1) C).2).2 3 0 9) (rdN n 1 120 (rdN n 2 120 (rdN n 0 (C 1 4 3 - 1) C).2).2).2).2))).2 3 0 9) x := fun x hx => by rw [nx_o hx, hix]; refine up_cg ?_; rw [(rdN_P vD.1 e7).2.2 x hx]; exact hxD x hx
                                  refine xs_aload_0 eX8_parsePromise_188 ?_
                                  refine xbi_V00 (mi' := mX8_isFine) (y := yX8_isFine) eX8_parsePromise_189 (xw_5 lRX8_320 wy_X8_isFine) rfl ⟨wd_X8_isFine, by decide, by decide⟩ (by decide) (fun _ => rfl) rfl (Nat.le_of_ble_eq_true rfl) rfl (k_X8_isFine ?_)
                                  refine xa_ifb_eq (tgt := 216) eX8_parsePromise_192 (by decide) (fun c192 => ?_) (fun c192 => ?_)
                                  · exact absurd z7 c192
                                  · refine X_store (stM_self S7).symm ?_
                                    refine xs_aload_0 eX8_parsePromise_195 ?_
                                    refine xs_iload_1 eX8_parsePromise_196 ?_
                                    refine xs_iload_2 eX8_parsePromise_197 ?_
                                    refine xs_iload_3 eX8_parsePromise_198 ?_
                                    refine xs_iload_4 eX8_parsePromise_199 ?_
                                    refine xbi_V40 (mi' := mX8_appendPromise) (y := yX8_appendPromise) eX8_parsePromise_201 (xw_5 lRX8_176 wy_X8_appendPromise) rfl ⟨wd_X8_appendPromise, by decide, by decide⟩ (by decide) (fun _ => rfl) rfl (Nat.le_of_ble_eq_true rfl) rfl (r_X8_appendPromise (N := N) (show S7 31 0 2 = (N : Int) by rw [f7.1 31 (by decide), f6.1 31 (by decide), f5.1 31 (by decide), stM_31, f3.1 31 (by decide), f2.1 31 (by decide), f1.1 31 (by decide), f0.1 31 (by decide)]; exact hN1) (by omega) (by omega) (by omega) (by omega) (by omega) (show xr (S7 31 0 0) by rw [f7.1 31 (by decide), f6.1 31 (by decide), f5.1 31 (by decide), stM_31, f3.1 31 (by decide), f2.1 31 (by decide), f1.1 31 (by decide), f0.1 31 (by decide), hR.1 0 (by decide)]; show xr (C 2 4 2); omega) ?_)
                                    have hM1 : Rel 4 k (N + 1) (addT 4 N ((rdN n 0 (C 1 4 3 - 1) C).2 3 0 9) ((rdN n 2 120 (rdN n 0 (C 1 4 3 - 1) C).2).2 3 0 9) ((rdN n 1 120 (rdN n 2 120 (rdN n 0 (C 1 4 3 - 1) C).2).2).2 3 0 9) ((rdN n ((rdN n 1 120 (rdN n 2 120 (rdN n 0 (C 1 4 3 - 1) C).2).2).2 3 0 9) ((rdN n 2 120 (rdN n 0 (C 1 4 3 - 1) C).2).2 3 0 9) (rdN n 1 120 (rdN n 2 120 (rdN n 0 (C 1 4 3 - 1) C).2).2).2).2 3 0 9) C) (apM N ((rdN n 0 (C 1 4 3 - 1) C).2 3 0 9) ((rdN n 2 120 (rdN n 0 (C 1 4 3 - 1) C).2).2 3 0 9) ((rdN n 1 120 (rdN n 2 120 (rdN n 0 (C 1 4 3 - 1) C).2).2).2 3 0 9) ((rdN n ((rdN n 1 120 (rdN n 2 120 (rdN n 0 (C 1 4 3 - 1) C).2).2).2 3 0 9) ((rdN n 2 120 (rdN n 0 (C 1 4 3 - 1) C).2).2 3 0 9) (rdN n 1 120 (rdN n 2 120 (rdN n 0 (C 1 4 3 - 1) C).2).2).2).2 3 0 9) (S7 31 0)) := Rel.pros (by rw [f7.1 31 (by decide), f6.1 31 (by decide), f5.1 31 (by decide), stM_31, f3.1 31 (by decide), f2.1 31 (by decide), f1.1 31 (by decide), f0.1 31 (by decide)]; exact hR) (by omega) (by omega)
                                    refine xs_istore_6 eX8_parsePromise_204 rfl ?_
                                    refine xs_aload_0 eX8_parsePromise_206 ?_
                                    refine xs_iload_6 eX8_parsePromise_207 ?_
                                    refine xa_bipush eX8_parsePromise_209 (by decide) ?_
                                    refine xs_iload_5 eX8_parsePromise_211 ?_
                                    refine xbv_V30 (mi' := mX8_keep) (y := yX8_keep) eX8_parsePromise_213 (xw_5 lRX8_137 wy_X8_keep) rfl ⟨wd_X8_keep, by decide, by decide⟩ (by decide) (fun _ => rfl) rfl (Nat.le_of_ble_eq_true rfl) rfl (r_X8_keep (s := 4) (j := N) (g := 9) hM1 rfl rfl (by omega) (by omega) (by decide) (by decide) (by decide) (by decide) (by omega) (fun M2 hM2 => ?_))
                                    · exact xa_vret eX8_parsePromise_216 rfl ⟨rfl, by have h9 := q1; simp only [rdPmS, bnd, rdPrm, rdPri, if_true, if_false, Bool.false_eq_true, reduceIte, Int.toNat_natCast, if_pos w4, if_pos hlt, e1, e2, if_pos hper, e3, e4, if_pos hacY, if_pos c3, e7] at h9; exact h9 trivial _ ((show TR n (nx n (up (rdN n 0 99999 (nx n (addT 4 N ((rdN n 0 (C 1 4 3 - 1) C).2 3 0 9) ((rdN n 2 120 (rdN n 0 (C 1 4 3 - 1) C).2).2 3 0 9) ((rdN n 1 120 (rdN n 2 120 (rdN n 0 (C 1 4 3 - 1) C).2).2).2 3 0 9) ((rdN n ((rdN n 1 120 (rdN n 2 120 (rdN n 0 (C 1 4 3 - 1) C).2).2).2 3 0 9) ((rdN n 2 120 (rdN n 0 (C 1 4 3 - 1) C).2).2 3 0 9) (rdN n 1 120 (rdN n 2 120 (rdN n 0 (C 1 4 3 - 1) C).2).2).2).2 3 0 9) (rdN n ((rdN n 1 120 (rdN n 2 120 (rdN n 0 (C 1 4 3 - 1) C).2).2).2 3 0 9) ((rdN n 2 120 (rdN n 0 (C 1 4 3 - 1) C).2).2 3 0 9) (rdN n 1 120 (rdN n 2 120 (rdN n 0 (C 1 4 3 - 1) C).2).2).2).2))).2 10 (32 * 4 + ((rdN n 0 99999 (nx n (addT 4 N ((rdN n 0 (C 1 4 3 - 1) C).2 3 0 9) ((rdN n 2 120 (rdN n 0 (C 1 4 3 - 1) C).2).2 3 0 9) ((rdN n 1 120 (rdN n 2 120 (rdN n 0 (C 1 4 3 - 1) C).2).2).2 3 0 9) ((rdN n ((rdN n 1 120 (rdN n 2 120 (rdN n 0 (C 1 4 3 - 1) C).2).2).2 3 0 9) ((rdN n 2 120 (rdN n 0 (C 1 4 3 - 1) C).2).2 3 0 9) (rdN n 1 120 (rdN n 2 120 (rdN n 0 (C 1 4 3 - 1) C).2).2).2).2 3 0 9) (rdN n ((rdN n 1 120 (rdN n 2 120 (rdN n 0 (C 1 4 3 - 1) C).2).2).2 3 0 9) ((rdN n 2 120 (rdN n 0 (C 1 4 3 - 1) C).2).2 3 0 9) (rdN n 1 120 (rdN n 2 120 (rdN n 0 (C 1 4 3 - 1) C).2).2).2).2))).2 2 4 1 - 1).toNat) 9 ((rdN n 0 99999 (nx n (addT 4 N ((rdN n 0 (C 1 4 3 - 1) C).2 3 0 9) ((rdN n 2 120 (rdN n 0 (C 1 4 3 - 1) C).2).2 3 0 9) ((rdN n 1 120 (rdN n 2 120 (rdN n 0 (C 1 4 3 - 1) C).2).2).2 3 0 9) ((rdN n ((rdN n 1 120 (rdN n 2 120 (rdN n 0 (C 1 4 3 - 1) C).2).2).2 3 0 9) ((rdN n 2 120 (rdN n 0 (C 1 4 3 - 1) C).2).2 3 0 9) (rdN n 1 120 (rdN n 2 120 (rdN n 0 (C 1 4 3 - 1) C).2).2).2).2 3 0 9) (rdN n ((rdN n 1 120 (rdN n 2 120 (rdN n 0 (C 1 4 3 - 1) C).2).2).2 3 0 9) ((rdN n 2 120 (rdN n 0 (C 1 4 3 - 1) C).2).2 3 0 9) (rdN n 1 120 (rdN n 2 120 (rdN n 0 (C 1 4 3 - 1) C).2).2).2).2))).2 3 0 9))) S7 from t7.nxe (fun f _ _ => rfl) rfl).of (fun _ _ _ => rfl) rfl (fun f _ _ _ => by rw [stM_k (by decide)]) (by rw [stM_k (by decide)])) (FW.m.tr (f7.fw.tr ((f6.tr f5).fw.tr (FW.m.tr ((l4.fw l4o).tr (f3.tr (f2.tr (f1.tr f0))).fw))))) (by rw [stM_k (by decide)]; exact z7) (by rw [stM_31]; exact hM2.cls (by omega) (by omega) (fun x y hx => by rw [hx7 x (by omega)]))⟩
                                · refine xa_goto (tgt := 186) eX8_parsePromise_182 (by decide) ?_
                                  refine xs_istore_5 eX8_parsePromise_186 rfl ?_
                                  refine xs_aload_0 eX8_parsePromise_188 ?_
                                  refine xbi_V00 (mi' := mX8_isFine) (y := yX8_isFine) eX8_parsePromise_189 (xw_5 lRX8_320 wy_X8_isFine) rfl ⟨wd_X8_isFine, by decide, by decide⟩ (by decide) (fun _ => rfl) rfl (Nat.le_of_ble_eq_true rfl) rfl (k_X8_isFine ?_)
                                  refine xa_ifb_eq (tgt := 216) eX8_parsePromise_192 (by decide) (fun c192 => ?_) (fun c192 => ?_)
                                  · exact xa_vret eX8_parsePromise_216 rfl ⟨rfl, by have h9 := q0; simp only [rdPmS, bnd, rdPrm, rdPri, if_true, if_false, Bool.false_eq_true, reduceIte, Int.toNat_natCast, if_pos w4, if_pos hlt, e1, e2, if_pos hper, e3, e4, if_pos hacY, if_pos c3, e7] at h9; exact h9 trivial _ (f7.fw.tr ((f6.tr f5).fw.tr (FW.m.tr ((l4.fw l4o).tr (f3.tr (f2.tr (f1.tr f0))).fw)))) hc4 hc5 hE⟩
                                  · exact absurd c192 hE
                            · refine xa_if_eq (tgt := 185) eX8_parsePromise_171 (by decide) (by decide) (fun c171 => ?_) (fun c171 => ?_)
                              · refine xa_iconst eX8_parsePromise_185 ?_
                                refine xs_istore_5 eX8_parsePromise_186 rfl ?_
                                have hxD : ∀ x, x ≠ 3 → (nx n (addT 4 N ((rdN n 0 (C 1 4 3 - 1) C).2 3 0 9) ((rdN n 2 120 (rdN n 0 (C 1 4 3 - 1) C).2).2 3 0 9) ((rdN n 1 120 (rdN n 2 120 (rdN n 0 (C 1 4 3 - 1) C).2).2).2 3 0 9) ((rdN n ((rdN n 1 120 (rdN n 2 120 (rdN n 0 (C 1 4 3 - 1) C).2).2).2 3 0 9) ((rdN n 2 120 (rdN n 0 (C 1 4 3 - 1) C).2).2 3 0 9) (rdN n 1 120 (rdN n 2 120 (rdN n 0 (C 1 4 3 - 1) C).2).2).2).2 3 0 9) (rdN n ((rdN n 1 120 (rdN n 2 120 (rdN n 0 (C 1 4 3 - 1) C).2).2).2 3 0 9) ((rdN n 2 120 (rdN n 0 (C 1 4 3 - 1) C).2).2 3 0 9) (rdN n 1 120 (rdN n 2 120 (rdN n 0 (C 1 4 3 - 1) C).2).2).2).2)) x = addT 4 N ((rdN n 0 (C 1 4 3 - 1) C).2 3 0 9) ((rdN n 2 120 (rdN n 0 (C 1 4 3 - 1) C).2).2 3 0 9) ((rdN n 1 120 (rdN n 2 120 (rdN n 0 (C 1 4 3 - 1) C).2).2).2 3 0 9) ((rdN n ((rdN n 1 120 (rdN n 2 120 (rdN n 0 (C 1 4 3 - 1) C).2).2).2 3 0 9) ((rdN n 2 120 (rdN n 0 (C 1 4 3 - 1) C).2).2 3 0 9) (rdN n 1 120 (rdN n 2 120 (rdN n 0 (C 1 4 3 - 1) C).2).2).2).2 3 0 9) C x := fun x hx => by rw [nx_o hx]; exact add_cg (hx4 x hx) (hx4 2 (by decide))
                                refine xs_aload_0 eX8_parsePromise_188 ?_
                                refine xbi_V00 (mi' := mX8_isFine) (y := yX8_isFine) eX8_parsePromise_189 (xw_5 lRX8_320 wy_X8_isFine) rfl ⟨wd_X8_isFine, by decide, by decide⟩ (by decide) (fun _ => rfl) rfl (Nat.le_of_ble_eq_true rfl) rfl (k_X8_isFine ?_)
                                refine xa_ifb_eq (tgt := 216) eX8_parsePromise_192 (by decide) (fun c192 => ?_) (fun c192 => ?_)
                                · exact absurd z5 c192
                                · refine X_store (stM_self S5).symm ?_
                                  refine xs_aload_0 eX8_parsePromise_195 ?_
                                  refine xs_iload_1 eX8_parsePromise_196 ?_
                                  refine xs_iload_2 eX8_parsePromise_197 ?_
                                  refine xs_iload_3 eX8_parsePromise_198 ?_
                                  refine xs_iload_4 eX8_parsePromise_199 ?_
                                  refine xbi_V40 (mi' := mX8_appendPromise) (y := yX8_appendPromise) eX8_parsePromise_201 (xw_5 lRX8_176 wy_X8_appendPromise) rfl ⟨wd_X8_appendPromise, by decide, by decide⟩ (by decide) (fun _ => rfl) rfl (Nat.le_of_ble_eq_true rfl) rfl (r_X8_appendPromise (N := N) (show S5 31 0 2 = (N : Int) by rw [f5.1 31 (by decide), stM_31, f3.1 31 (by decide), f2.1 31 (by decide), f1.1 31 (by decide), f0.1 31 (by decide)]; exact hN1) (by omega) (by omega) (by omega) (by omega) (by omega) (show xr (S5 31 0 0) by rw [f5.1 31 (by decide), stM_31, f3.1 31 (by decide), f2.1 31 (by decide), f1.1 31 (by decide), f0.1 31 (by decide), hR.1 0 (by decide)]; show xr (C 2 4 2); omega) ?_)
                                  have hM1 : Rel 4 k (N + 1) (addT 4 N ((rdN n 0 (C 1 4 3 - 1) C).2 3 0 9) ((rdN n 2 120 (rdN n 0 (C 1 4 3 - 1) C).2).2 3 0 9) ((rdN n 1 120 (rdN n 2 120 (rdN n 0 (C 1 4 3 - 1) C).2).2).2 3 0 9) ((rdN n ((rdN n 1 120 (rdN n 2 120 (rdN n 0 (C 1 4 3 - 1) C).2).2).2 3 0 9) ((rdN n 2 120 (rdN n 0 (C 1 4 3 - 1) C).2).2 3 0 9) (rdN n 1 120 (rdN n 2 120 (rdN n 0 (C 1 4 3 - 1) C).2).2).2).2 3 0 9) C) (apM N ((rdN n 0 (C 1 4 3 - 1) C).2 3 0 9) ((rdN n 2 120 (rdN n 0 (C 1 4 3 - 1) C).2).2 3 0 9) ((rdN n 1 120 (rdN n 2 120 (rdN n 0 (C 1 4 3 - 1) C).2).2).2 3 0 9) ((rdN n ((rdN n 1 120 (rdN n 2 120 (rdN n 0 (C 1 4 3 - 1) C).2).2).2 3 0 9) ((rdN n 2 120 (rdN n 0 (C 1 4 3 - 1) C).2).2 3 0 9) (rdN n 1 120 (rdN n 2 120 (rdN n 0 (C 1 4 3 - 1) C).2).2).2).2 3 0 9) (S5 31 0)) := Rel.pros (by rw [f5.1 31 (by decide), stM_31, f3.1 31 (by decide), f2.1 31 (by decide), f1.1 31 (by decide), f0.1 31 (by decide)]; exact hR) (by omega) (by omega)
                                  refine xs_istore_6 eX8_parsePromise_204 rfl ?_
                                  refine xs_aload_0 eX8_parsePromise_206 ?_
                                  refine xs_iload_6 eX8_parsePromise_207 ?_
                                  refine xa_bipush eX8_parsePromise_209 (by decide) ?_
                                  refine xs_iload_5 eX8_parsePromise_211 ?_
                                  refine xbv_V30 (mi' := mX8_keep) (y := yX8_keep) eX8_parsePromise_213 (xw_5 lRX8_137 wy_X8_keep) rfl ⟨wd_X8_keep, by decide, by decide⟩ (by decide) (fun _ => rfl) rfl (Nat.le_of_ble_eq_true rfl) rfl (r_X8_keep (s := 4) (j := N) (g := 9) hM1 rfl rfl (by omega) (by omega) (by decide) (by decide) (by decide) (by decide) (by decide) (fun M2 hM2 => ?_))
                                  · exact xa_vret eX8_parsePromise_216 rfl ⟨rfl, by have h9 := q1; simp only [rdPmS, bnd, rdPrm, rdPri, if_true, if_false, Bool.false_eq_true, reduceIte, Int.toNat_natCast, if_pos w4, if_pos hlt, e1, e2, if_pos hper, e3, e4, if_pos hacY, if_neg c3] at h9; exact h9 trivial _ (tD.of (fun _ _ _ => rfl) rfl (fun f _ _ _ => by rw [stM_k (by decide)]) (by rw [stM_k (by decide)])) (FW.m.tr (f5.fw.tr (FW.m.tr ((l4.fw l4o).tr (f3.tr (f2.tr (f1.tr f0))).fw)))) (by rw [stM_k (by decide)]; exact z5) (by rw [stM_31]; rw [up_id add_9.symm] at hM2; exact hM2.cls (by omega) (by omega) (fun x y hx => by rw [hxD x (by omega)]))⟩
                              · exact absurd rfl c171
                        · have zA : (stM (S3 31 0) S4) 30 0 20 = 0 := by rw [stM_k (by decide), l4.2 20 (by decide) (by decide)]; exact z3
                          have hacN : ¬ accF 4 7 N ((rdN n 2 120 (rdN n 0 (C 1 4 3 - 1) C).2).2 3 0 9) ((rdN n 1 120 (rdN n 2 120 (rdN n 0 (C 1 4 3 - 1) C).2).2).2 3 0 9) ((rdN n ((rdN n 1 120 (rdN n 2 120 (rdN n 0 (C 1 4 3 - 1) C).2).2).2 3 0 9) ((rdN n 2 120 (rdN n 0 (C 1 4 3 - 1) C).2).2 3 0 9) (rdN n 1 120 (rdN n 2 120 (rdN n 0 (C 1 4 3 - 1) C).2).2).2).2 3 0 9) (rdN n ((rdN n 1 120 (rdN n 2 120 (rdN n 0 (C 1 4 3 - 1) C).2).2).2 3 0 9) ((rdN n 2 120 (rdN n 0 (C 1 4 3 - 1) C).2).2 3 0 9) (rdN n 1 120 (rdN n 2 120 (rdN n 0 (C 1 4 3 - 1) C).2).2).2).2 = true := by rw [← hac]; exact b2i_n z157
                          have hE : ¬ rqS 4 (stM (S3 31 0) S4) 30 0 20 = 0 := rq_20 (by decide)
                          have hc4 : rqS 4 (stM (S3 31 0) S4) 30 0 20 = 4 := by unfold rqS; rw [if_pos zA, up_f (by decide), up_same]
                          have hc5 : rqS 4 (stM (S3 31 0) S4) 30 0 21 = (rdN n ((rdN n 1 120 (rdN n 2 120 (rdN n 0 (C 1 4 3 - 1) C).2).2).2 3 0 9) ((rdN n 2 120 (rdN n 0 (C 1 4 3 - 1) C).2).2 3 0 9) (rdN n 1 120 (rdN n 2 120 (rdN n 0 (C 1 4 3 - 1) C).2).2).2).2 3 0 7 := by unfold rqS; rw [if_pos zA, up_same]; exact (show (stM (S3 31 0) S4) 30 0 16 = (rdN n ((rdN n 1 120 (rdN n 2 120 (rdN n 0 (C 1 4 3 - 1) C).2).2).2 3 0 9) ((rdN n 2 120 (rdN n 0 (C 1 4 3 - 1) C).2).2 3 0 9) (rdN n 1 120 (rdN n 2 120 (rdN n 0 (C 1 4 3 - 1) C).2).2).2).2 3 0 7 from by rw [stM_k (by decide), l4.2 16 (by decide) (by decide), e4y]; exact t3.2.2.1)
                          have hkE : rqS 4 (stM (S3 31 0) S4) 31 0 1 = (k : Int) := by rw [rq_k (by decide), stM_31, f3.1 31 (by decide), f2.1 31 (by decide), f1.1 31 (by decide), f0.1 31 (by decide)]; exact hk1
                          refine xs_aload_0 eX8_parsePromise_160 ?_
                          refine xbv_V00 (mi' := mX8_advance) (y := yX8_advance) eX8_parsePromise_161 (xw_5 lRX8_334 wy_X8_advance) rfl ⟨wd_X8_advance, by decide, by decide⟩ (by decide) (fun _ => rfl) rfl (Nat.le_of_ble_eq_true rfl) rfl (z_X8_advance hE ?_)
                          refine xs_aload_0 eX8_parsePromise_164 ?_
                          refine xa_ldcwS (tx := "ask") (i := 5) eX8_parsePromise_165 (List.mem_of_getElem? (i := 11) rfl) ?_
                          refine xbi_V10 (mi' := mX8_accept) (y := yX8_accept) eX8_parsePromise_168 (xw_5 lRX8_342 wy_X8_accept) rfl ⟨wd_X8_accept, by decide, by decide⟩ (by decide) (fun _ => rfl) rfl (Nat.le_of_ble_eq_true rfl) rfl (z_X8_accept hE ?_)
                          · refine xa_if_eq (tgt := 185) eX8_parsePromise_171 (by decide) (by decide) (fun c171 => ?_) (fun c171 => ?_)
                            · refine xa_iconst eX8_parsePromise_185 ?_
                              refine xs_istore_5 eX8_parsePromise_186 rfl ?_
                              refine xs_aload_0 eX8_parsePromise_188 ?_
                              refine xbi_V00 (mi' := mX8_isFine) (y := yX8_isFine) eX8_parsePromise_189 (xw_5 lRX8_320 wy_X8_isFine) rfl ⟨wd_X8_isFine, by decide, by decide⟩ (by decide) (fun _ => rfl) rfl (Nat.le_of_ble_eq_true rfl) rfl (k_X8_isFine ?_)
                              refine xa_ifb_eq (tgt := 216) eX8_parsePromise_192 (by decide) (fun c192 => ?_) (fun c192 => ?_)
                              · exact xa_vret eX8_parsePromise_216 rfl ⟨rfl, by have h9 := q0; simp only [rdPmS, bnd, rdPrm, rdPri, if_true, if_false, Bool.false_eq_true, reduceIte, Int.toNat_natCast, if_pos w4, if_pos hlt, e1, e2, if_pos hper, e3, e4, if_neg hacN] at h9; exact h9 trivial _ ((FM.rq (by decide)).fw.tr (FW.m.tr ((l4.fw l4o).tr (f3.tr (f2.tr (f1.tr f0))).fw))) hc4 hc5 hE⟩
                              · exact absurd c192 hE
                            · exact absurd rfl c171
                    · have p4 := b2i_n z131
                      have e4 := rdN_v (lo := ((rdN n 1 120 (rdN n 2 120 (rdN n 0 (C 1 4 3 - 1) C).2).2).2 3 0 9)) (hi := ((rdN n 2 120 (rdN n 0 (C 1 4 3 - 1) C).2).2 3 0 9)) hq4 (fun z => p4 (by unfold VR at hr4; omega))
                      have hE : ¬ rqS 2 S3 30 0 20 = 0 := rq_20 (by decide)
                      have hc4 : rqS 2 S3 30 0 20 = 2 := by unfold rqS; rw [if_pos z3, up_f (by decide), up_same]
                      have hc5 : rqS 2 S3 30 0 21 = nx n (rdN n 1 120 (rdN n 2 120 (rdN n 0 (C 1 4 3 - 1) C).2).2).2 3 0 7 := by unfold rqS; rw [if_pos z3, up_same]; exact t3.2.2.1
                      have hkE : rqS 2 S3 31 0 1 = (k : Int) := by rw [rq_k (by decide), f3.1 31 (by decide), f2.1 31 (by decide), f1.1 31 (by decide), f0.1 31 (by decide)]; exact hk1
                      refine xs_aload_0 eX8_parsePromise_134 ?_
                      refine gr_X8_19 eX8_parsePromise_135 lRX8_291 (fun r135 => ?_)
                      try simp only [show (2 : Int).toNat = 2 from rfl] at r135 ⊢
                      refine xs_istore_4 eX8_parsePromise_138 rfl ?_
                      refine xs_aload_0 eX8_parsePromise_140 ?_
                      refine xbi_V00 (mi' := mX8_isFine) (y := yX8_isFine) eX8_parsePromise_141 (xw_5 lRX8_320 wy_X8_isFine) rfl ⟨wd_X8_isFine, by decide, by decide⟩ (by decide) (fun _ => rfl) rfl (Nat.le_of_ble_eq_true rfl) rfl (k_X8_isFine ?_)
                      refine xa_ifb_eq (tgt := 160) eX8_parsePromise_144 (by decide) (fun c144 => ?_) (fun c144 => ?_)
                      · refine xs_aload_0 eX8_parsePromise_160 ?_
                        refine xbv_V00 (mi' := mX8_advance) (y := yX8_advance) eX8_parsePromise_161 (xw_5 lRX8_334 wy_X8_advance) rfl ⟨wd_X8_advance, by decide, by decide⟩ (by decide) (fun _ => rfl) rfl (Nat.le_of_ble_eq_true rfl) rfl (z_X8_advance hE ?_)
                        refine xs_aload_0 eX8_parsePromise_164 ?_
                        refine xa_ldcwS (tx := "ask") (i := 5) eX8_parsePromise_165 (List.mem_of_getElem? (i := 11) rfl) ?_
                        refine xbi_V10 (mi' := mX8_accept) (y := yX8_accept) eX8_parsePromise_168 (xw_5 lRX8_342 wy_X8_accept) rfl ⟨wd_X8_accept, by decide, by decide⟩ (by decide) (fun _ => rfl) rfl (Nat.le_of_ble_eq_true rfl) rfl (z_X8_accept hE ?_)
                        · refine xa_if_eq (tgt := 185) eX8_parsePromise_171 (by decide) (by decide) (fun c171 => ?_) (fun c171 => ?_)
                          · refine xa_iconst eX8_parsePromise_185 ?_
                            refine xs_istore_5 eX8_parsePromise_186 rfl ?_
                            refine xs_aload_0 eX8_parsePromise_188 ?_
                            refine xbi_V00 (mi' := mX8_isFine) (y := yX8_isFine) eX8_parsePromise_189 (xw_5 lRX8_320 wy_X8_isFine) rfl ⟨wd_X8_isFine, by decide, by decide⟩ (by decide) (fun _ => rfl) rfl (Nat.le_of_ble_eq_true rfl) rfl (k_X8_isFine ?_)
                            refine xa_ifb_eq (tgt := 216) eX8_parsePromise_192 (by decide) (fun c192 => ?_) (fun c192 => ?_)
                            · exact xa_vret eX8_parsePromise_216 rfl ⟨rfl, by have h9 := q0; simp only [rdPmS, bnd, rdPrm, rdPri, if_true, if_false, Bool.false_eq_true, reduceIte, Int.toNat_natCast, if_pos w4, if_pos hlt, e1, e2, if_pos hper, e3, e4] at h9; exact h9 trivial _ ((FM.rq (by decide)).tr (f3.tr (f2.tr (f1.tr f0)))).fw hc4 hc5 hE⟩
                            · exact absurd c192 hE
                          · exact absurd rfl c171
                      · exact absurd c144 hE
                · have hkE : S3 31 0 1 = (k : Int) := by rw [f3.1 31 (by decide), f2.1 31 (by decide), f1.1 31 (by decide), f0.1 31 (by decide)]; exact hk1
                  refine xs_istore_3 eX8_parsePromise_98 rfl ?_
                  refine xs_aload_0 eX8_parsePromise_99 ?_
                  refine xs_aload_0 eX8_parsePromise_100 ?_
                  refine gr_X8_17 eX8_parsePromise_101 lRX8_294 (fun r101 => ?_)
                  try simp only [show (2 : Int).toNat = 2 from rfl] at r101 ⊢
                  refine xa_iconst eX8_parsePromise_104 ?_
                  refine xa_icmp_ne (tgt := 112) eX8_parsePromise_105 (by decide) (by omega) (by decide) (fun c105 => ?_) (fun c105 => ?_)
                  · refine xa_iconst eX8_parsePromise_112 ?_
                    refine xa_iconst eX8_parsePromise_113 ?_
                    refine xbv_V20 (mi' := mX8_require) (y := yX8_require) eX8_parsePromise_114 (xw_5 lRX8_330 wy_X8_require) rfl ⟨wd_X8_require, by decide, by decide⟩ (by decide) (fun _ => rfl) rfl (Nat.le_of_ble_eq_true rfl) rfl (z_X8_require (by decide) hE ?_)
                    refine xs_aload_0 eX8_parsePromise_117 ?_
                    refine xs_aload_0 eX8_parsePromise_118 ?_
                    refine gr_X8_19 eX8_parsePromise_119 lRX8_291 (fun r119 => ?_)
                    try simp only [show (2 : Int).toNat = 2 from rfl] at r119 ⊢
                    refine xa_i2l eX8_parsePromise_122 (by omega) ?_
                    refine xs_iload_3 eX8_parsePromise_123 ?_
                    refine xa_i2l eX8_parsePromise_124 (by omega) ?_
                    refine xs_iload_2 eX8_parsePromise_125 ?_
                    refine xa_i2l eX8_parsePromise_126 (by omega) ?_
                    refine xbi_S30 (mi' := mX8_isBetween) (y := yX8_isBetween) eX8_parsePromise_127 (xw_4 lRX8_61 wy_X8_isBetween) rfl rfl ⟨wd_X8_isBetween, by decide, by decide⟩ (Nat.le_of_ble_eq_true rfl) rfl (k_X8_isBetween (by omega) (by omega) (by omega) ?_)
                    refine xa_iconst eX8_parsePromise_130 ?_
                    refine xbv_V20 (mi' := mX8_require) (y := yX8_require) eX8_parsePromise_131 (xw_5 lRX8_330 wy_X8_require) rfl ⟨wd_X8_require, by decide, by decide⟩ (by decide) (fun _ => rfl) rfl (Nat.le_of_ble_eq_true rfl) rfl (z_X8_require (b2i_01 _) hE ?_)
                    refine xs_aload_0 eX8_parsePromise_134 ?_
                    refine gr_X8_19 eX8_parsePromise_135 lRX8_291 (fun r135 => ?_)
                    try simp only [show (2 : Int).toNat = 2 from rfl] at r135 ⊢
                    refine xs_istore_4 eX8_parsePromise_138 rfl ?_
                    refine xs_aload_0 eX8_parsePromise_140 ?_
                    refine xbi_V00 (mi' := mX8_isFine) (y := yX8_isFine) eX8_parsePromise_141 (xw_5 lRX8_320 wy_X8_isFine) rfl ⟨wd_X8_isFine, by decide, by decide⟩ (by decide) (fun _ => rfl) rfl (Nat.le_of_ble_eq_true rfl) rfl (k_X8_isFine ?_)
                    refine xa_ifb_eq (tgt := 160) eX8_parsePromise_144 (by decide) (fun c144 => ?_) (fun c144 => ?_)
                    · refine xs_aload_0 eX8_parsePromise_160 ?_
                      refine xbv_V00 (mi' := mX8_advance) (y := yX8_advance) eX8_parsePromise_161 (xw_5 lRX8_334 wy_X8_advance) rfl ⟨wd_X8_advance, by decide, by decide⟩ (by decide) (fun _ => rfl) rfl (Nat.le_of_ble_eq_true rfl) rfl (z_X8_advance hE ?_)
                      refine xs_aload_0 eX8_parsePromise_164 ?_
                      refine xa_ldcwS (tx := "ask") (i := 5) eX8_parsePromise_165 (List.mem_of_getElem? (i := 11) rfl) ?_
                      refine xbi_V10 (mi' := mX8_accept) (y := yX8_accept) eX8_parsePromise_168 (xw_5 lRX8_342 wy_X8_accept) rfl ⟨wd_X8_accept, by decide, by decide⟩ (by decide) (fun _ => rfl) rfl (Nat.le_of_ble_eq_true rfl) rfl (z_X8_accept hE ?_)
                      · refine xa_if_eq (tgt := 185) eX8_parsePromise_171 (by decide) (by decide) (fun c171 => ?_) (fun c171 => ?_)
                        · refine xa_iconst eX8_parsePromise_185 ?_
                          refine xs_istore_5 eX8_parsePromise_186 rfl ?_
                          refine xs_aload_0 eX8_parsePromise_188 ?_
                          refine xbi_V00 (mi' := mX8_isFine) (y := yX8_isFine) eX8_parsePromise_189 (xw_5 lRX8_320 wy_X8_isFine) rfl ⟨wd_X8_isFine, by decide, by decide⟩ (by decide) (fun _ => rfl) rfl (Nat.le_of_ble_eq_true rfl) rfl (k_X8_isFine ?_)
                          refine xa_ifb_eq (tgt := 216) eX8_parsePromise_192 (by decide) (fun c192 => ?_) (fun c192 => ?_)
                          · exact xa_vret eX8_parsePromise_216 rfl ⟨rfl, by have h9 := q0; simp only [rdPmS, bnd, rdPrm, rdPri, if_true, if_false, Bool.false_eq_true, reduceIte, Int.toNat_natCast, if_pos w4, if_pos hlt, e1, e2, if_pos hper, e3] at h9; exact h9 trivial _ (f3.tr (f2.tr (f1.tr f0))).fw hc4 hc5 hE⟩
                          · exact absurd c192 hE
                        · exact absurd rfl c171
                    · exact absurd c144 hE
                  · refine xa_iconst eX8_parsePromise_108 ?_
                    refine xa_goto (tgt := 113) eX8_parsePromise_109 (by decide) ?_
                    refine xa_iconst eX8_parsePromise_113 ?_
                    refine xbv_V20 (mi' := mX8_require) (y := yX8_require) eX8_parsePromise_114 (xw_5 lRX8_330 wy_X8_require) rfl ⟨wd_X8_require, by decide, by decide⟩ (by decide) (fun _ => rfl) rfl (Nat.le_of_ble_eq_true rfl) rfl (z_X8_require (by decide) hE ?_)
                    refine xs_aload_0 eX8_parsePromise_117 ?_
                    refine xs_aload_0 eX8_parsePromise_118 ?_
                    refine gr_X8_19 eX8_parsePromise_119 lRX8_291 (fun r119 => ?_)
                    try simp only [show (2 : Int).toNat = 2 from rfl] at r119 ⊢
                    refine xa_i2l eX8_parsePromise_122 (by omega) ?_
                    refine xs_iload_3 eX8_parsePromise_123 ?_
                    refine xa_i2l eX8_parsePromise_124 (by omega) ?_
                    refine xs_iload_2 eX8_parsePromise_125 ?_
                    refine xa_i2l eX8_parsePromise_126 (by omega) ?_
                    refine xbi_S30 (mi' := mX8_isBetween) (y := yX8_isBetween) eX8_parsePromise_127 (xw_4 lRX8_61 wy_X8_isBetween) rfl rfl ⟨wd_X8_isBetween, by decide, by decide⟩ (Nat.le_of_ble_eq_true rfl) rfl (k_X8_isBetween (by omega) (by omega) (by omega) ?_)
                    refine xa_iconst eX8_parsePromise_130 ?_
                    refine xbv_V20 (mi' := mX8_require) (y := yX8_require) eX8_parsePromise_131 (xw_5 lRX8_330 wy_X8_require) rfl ⟨wd_X8_require, by decide, by decide⟩ (by decide) (fun _ => rfl) rfl (Nat.le_of_ble_eq_true rfl) rfl (z_X8_require (b2i_01 _) hE ?_)
                    refine xs_aload_0 eX8_parsePromise_134 ?_
                    refine gr_X8_19 eX8_parsePromise_135 lRX8_291 (fun r135 => ?_)
                    try simp only [show (2 : Int).toNat = 2 from rfl] at r135 ⊢
                    refine xs_istore_4 eX8_parsePromise_138 rfl ?_
                    refine xs_aload_0 eX8_parsePromise_140 ?_
                    refine xbi_V00 (mi' := mX8_isFine) (y := yX8_isFine) eX8_parsePromise_141 (xw_5 lRX8_320 wy_X8_isFine) rfl ⟨wd_X8_isFine, by decide, by decide⟩ (by decide) (fun _ => rfl) rfl (Nat.le_of_ble_eq_true rfl) rfl (k_X8_isFine ?_)
                    refine xa_ifb_eq (tgt := 160) eX8_parsePromise_144 (by decide) (fun c144 => ?_) (fun c144 => ?_)
                    · refine xs_aload_0 eX8_parsePromise_160 ?_
                      refine xbv_V00 (mi' := mX8_advance) (y := yX8_advance) eX8_parsePromise_161 (xw_5 lRX8_334 wy_X8_advance) rfl ⟨wd_X8_advance, by decide, by decide⟩ (by decide) (fun _ => rfl) rfl (Nat.le_of_ble_eq_true rfl) rfl (z_X8_advance hE ?_)
                      refine xs_aload_0 eX8_parsePromise_164 ?_
                      refine xa_ldcwS (tx := "ask") (i := 5) eX8_parsePromise_165 (List.mem_of_getElem? (i := 11) rfl) ?_
                      refine xbi_V10 (mi' := mX8_accept) (y := yX8_accept) eX8_parsePromise_168 (xw_5 lRX8_342 wy_X8_accept) rfl ⟨wd_X8_accept, by decide, by decide⟩ (by decide) (fun _ => rfl) rfl (Nat.le_of_ble_eq_true rfl) rfl (z_X8_accept hE ?_)
                      · refine xa_if_eq (tgt := 185) eX8_parsePromise_171 (by decide) (by decide) (fun c171 => ?_) (fun c171 => ?_)
                        · refine xa_iconst eX8_parsePromise_185 ?_
                          refine xs_istore_5 eX8_parsePromise_186 rfl ?_
                          refine xs_aload_0 eX8_parsePromise_188 ?_
                          refine xbi_V00 (mi' := mX8_isFine) (y := yX8_isFine) eX8_parsePromise_189 (xw_5 lRX8_320 wy_X8_isFine) rfl ⟨wd_X8_isFine, by decide, by decide⟩ (by decide) (fun _ => rfl) rfl (Nat.le_of_ble_eq_true rfl) rfl (k_X8_isFine ?_)
                          refine xa_ifb_eq (tgt := 216) eX8_parsePromise_192 (by decide) (fun c192 => ?_) (fun c192 => ?_)
                          · exact xa_vret eX8_parsePromise_216 rfl ⟨rfl, by have h9 := q0; simp only [rdPmS, bnd, rdPrm, rdPri, if_true, if_false, Bool.false_eq_true, reduceIte, Int.toNat_natCast, if_pos w4, if_pos hlt, e1, e2, if_pos hper, e3] at h9; exact h9 trivial _ (f3.tr (f2.tr (f1.tr f0))).fw hc4 hc5 hE⟩
                          · exact absurd c192 hE
                        · exact absurd rfl c171
                    · exact absurd c144 hE
            · have p2 := b2i_n z79
              have e2 : rdPmS n N C = (false, flS 2 (nx n (rdN n 0 (C 1 4 3 - 1) C).2)) := by
                by_cases c2 : 2 ≤ nx n (rdN n 0 (C 1 4 3 - 1) C).2 3 0 9 ∧ nx n (rdN n 0 (C 1 4 3 - 1) C).2 3 0 9 ≤ 120
                · have e2 := rdN_y hq2 c2
                  have p3 : ¬ perP (nx n (rdN n 0 (C 1 4 3 - 1) C).2 3 0 9) := by rw [← show S1 30 0 19 = nx n (rdN n 0 (C 1 4 3 - 1) C).2 3 0 9 by unfold VR at hr2; omega]; exact p2
                  simp only [rdPmS, bnd, rdPrm, rdPri, if_true, if_false, Bool.false_eq_true, reduceIte, Int.toNat_natCast, if_pos w4, if_pos hlt, e1, e2, if_neg p3]
                · have e2 := rdN_v hq2 c2
                  simp only [rdPmS, bnd, rdPrm, rdPri, if_true, if_false, Bool.false_eq_true, reduceIte, Int.toNat_natCast, if_pos w4, if_pos hlt, e1, e2]
              have hE : ¬ rqS 2 S1 30 0 20 = 0 := rq_20 (by decide)
              have hc4 : rqS 2 S1 30 0 20 = 2 := by unfold rqS; rw [if_pos z1, up_f (by decide), up_same]
              have hc5 : rqS 2 S1 30 0 21 = nx n (rdN n 0 (C 1 4 3 - 1) C).2 3 0 7 := by unfold rqS; rw [if_pos z1, up_same]; exact t1.2.2.1
              have hkE : rqS 2 S1 31 0 1 = (k : Int) := by rw [rq_k (by decide), f1.1 31 (by decide), f0.1 31 (by decide)]; exact hk1
              refine xs_aload_0 eX8_parsePromise_82 ?_
              refine gr_X8_19 eX8_parsePromise_83 lRX8_291 (fun r83 => ?_)
              try simp only [show (2 : Int).toNat = 2 from rfl] at r83 ⊢
              refine xs_istore_2 eX8_parsePromise_86 rfl ?_
              refine xs_aload_0 eX8_parsePromise_87 ?_
              refine xbv_V00 (mi' := mX8_advance) (y := yX8_advance) eX8_parsePromise_88 (xw_5 lRX8_334 wy_X8_advance) rfl ⟨wd_X8_advance, by decide, by decide⟩ (by decide) (fun _ => rfl) rfl (Nat.le_of_ble_eq_true rfl) rfl (z_X8_advance hE ?_)
              refine xs_aload_0 eX8_parsePromise_91 ?_
              refine xa_iconst eX8_parsePromise_92 ?_
              refine xa_bipush eX8_parsePromise_93 (by decide) ?_
              refine xbi_V20 (mi' := mX8_parseNumber) (y := yX8_parseNumber) eX8_parsePromise_95 (xw_5 lRX8_337 wy_X8_parseNumber) rfl ⟨wd_X8_parseNumber, by decide, by decide⟩ (by decide) (fun _ => rfl) rfl (Nat.le_of_ble_eq_true rfl) rfl (zr_X8_parseNumber (by decide) (by decide) hE (fun v95 hv95 => ?_))
              refine xs_istore_3 eX8_parsePromise_98 rfl ?_
              refine xs_aload_0 eX8_parsePromise_99 ?_
              refine xs_aload_0 eX8_parsePromise_100 ?_
              refine gr_X8_17 eX8_parsePromise_101 lRX8_294 (fun r101 => ?_)
              try simp only [show (2 : Int).toNat = 2 from rfl] at r101 ⊢
              refine xa_iconst eX8_parsePromise_104 ?_
              refine xa_icmp_ne (tgt := 112) eX8_parsePromise_105 (by decide) (by omega) (by decide) (fun c105 => ?_) (fun c105 => ?_)
              · refine xa_iconst eX8_parsePromise_112 ?_
                refine xa_iconst eX8_parsePromise_113 ?_
                refine xbv_V20 (mi' := mX8_require) (y := yX8_require) eX8_parsePromise_114 (xw_5 lRX8_330 wy_X8_require) rfl ⟨wd_X8_require, by decide, by decide⟩ (by decide) (fun _ => rfl) rfl (Nat.le_of_ble_eq_true rfl) rfl (z_X8_require (by decide) hE ?_)
                refine xs_aload_0 eX8_parsePromise_117 ?_
                refine xs_aload_0 eX8_parsePromise_118 ?_
                refine gr_X8_19 eX8_parsePromise_119 lRX8_291 (fun r119 => ?_)
                try simp only [show (2 : Int).toNat = 2 from rfl] at r119 ⊢
                refine xa_i2l eX8_parsePromise_122 (by omega) ?_
                refine xs_iload_3 eX8_parsePromise_123 ?_
                refine xa_i2l eX8_parsePromise_124 (by omega) ?_
                refine xs_iload_2 eX8_parsePromise_125 ?_
                refine xa_i2l eX8_parsePromise_126 (by omega) ?_
                refine xbi_S30 (mi' := mX8_isBetween) (y := yX8_isBetween) eX8_parsePromise_127 (xw_4 lRX8_61 wy_X8_isBetween) rfl rfl ⟨wd_X8_isBetween, by decide, by decide⟩ (Nat.le_of_ble_eq_true rfl) rfl (k_X8_isBetween (by omega) (by omega) (by omega) ?_)
                refine xa_iconst eX8_parsePromise_130 ?_
                refine xbv_V20 (mi' := mX8_require) (y := yX8_require) eX8_parsePromise_131 (xw_5 lRX8_330 wy_X8_require) rfl ⟨wd_X8_require, by decide, by decide⟩ (by decide) (fun _ => rfl) rfl (Nat.le_of_ble_eq_true rfl) rfl (z_X8_require (b2i_01 _) hE ?_)
                refine xs_aload_0 eX8_parsePromise_134 ?_
                refine gr_X8_19 eX8_parsePromise_135 lRX8_291 (fun r135 => ?_)
                try simp only [show (2 : Int).toNat = 2 from rfl] at r135 ⊢
                refine xs_istore_4 eX8_parsePromise_138 rfl ?_
                refine xs_aload_0 eX8_parsePromise_140 ?_
                refine xbi_V00 (mi' := mX8_isFine) (y := yX8_isFine) eX8_parsePromise_141 (xw_5 lRX8_320 wy_X8_isFine) rfl ⟨wd_X8_isFine, by decide, by decide⟩ (by decide) (fun _ => rfl) rfl (Nat.le_of_ble_eq_true rfl) rfl (k_X8_isFine ?_)
                refine xa_ifb_eq (tgt := 160) eX8_parsePromise_144 (by decide) (fun c144 => ?_) (fun c144 => ?_)
                · refine xs_aload_0 eX8_parsePromise_160 ?_
                  refine xbv_V00 (mi' := mX8_advance) (y := yX8_advance) eX8_parsePromise_161 (xw_5 lRX8_334 wy_X8_advance) rfl ⟨wd_X8_advance, by decide, by decide⟩ (by decide) (fun _ => rfl) rfl (Nat.le_of_ble_eq_true rfl) rfl (z_X8_advance hE ?_)
                  refine xs_aload_0 eX8_parsePromise_164 ?_
                  refine xa_ldcwS (tx := "ask") (i := 5) eX8_parsePromise_165 (List.mem_of_getElem? (i := 11) rfl) ?_
                  refine xbi_V10 (mi' := mX8_accept) (y := yX8_accept) eX8_parsePromise_168 (xw_5 lRX8_342 wy_X8_accept) rfl ⟨wd_X8_accept, by decide, by decide⟩ (by decide) (fun _ => rfl) rfl (Nat.le_of_ble_eq_true rfl) rfl (z_X8_accept hE ?_)
                  · refine xa_if_eq (tgt := 185) eX8_parsePromise_171 (by decide) (by decide) (fun c171 => ?_) (fun c171 => ?_)
                    · refine xa_iconst eX8_parsePromise_185 ?_
                      refine xs_istore_5 eX8_parsePromise_186 rfl ?_
                      refine xs_aload_0 eX8_parsePromise_188 ?_
                      refine xbi_V00 (mi' := mX8_isFine) (y := yX8_isFine) eX8_parsePromise_189 (xw_5 lRX8_320 wy_X8_isFine) rfl ⟨wd_X8_isFine, by decide, by decide⟩ (by decide) (fun _ => rfl) rfl (Nat.le_of_ble_eq_true rfl) rfl (k_X8_isFine ?_)
                      refine xa_ifb_eq (tgt := 216) eX8_parsePromise_192 (by decide) (fun c192 => ?_) (fun c192 => ?_)
                      · exact xa_vret eX8_parsePromise_216 rfl ⟨rfl, by have h9 := q0; rw [e2] at h9; exact h9 rfl _ ((FM.rq (by decide)).tr (f1.tr f0)).fw hc4 hc5 hE⟩
                      · exact absurd c192 hE
                    · exact absurd rfl c171
                · exact absurd c144 hE
              · refine xa_iconst eX8_parsePromise_108 ?_
                refine xa_goto (tgt := 113) eX8_parsePromise_109 (by decide) ?_
                refine xa_iconst eX8_parsePromise_113 ?_
                refine xbv_V20 (mi' := mX8_require) (y := yX8_require) eX8_parsePromise_114 (xw_5 lRX8_330 wy_X8_require) rfl ⟨wd_X8_require, by decide, by decide⟩ (by decide) (fun _ => rfl) rfl (Nat.le_of_ble_eq_true rfl) rfl (z_X8_require (by decide) hE ?_)
                refine xs_aload_0 eX8_parsePromise_117 ?_
                refine xs_aload_0 eX8_parsePromise_118 ?_
                refine gr_X8_19 eX8_parsePromise_119 lRX8_291 (fun r119 => ?_)
                try simp only [show (2 : Int).toNat = 2 from rfl] at r119 ⊢
                refine xa_i2l eX8_parsePromise_122 (by omega) ?_
                refine xs_iload_3 eX8_parsePromise_123 ?_
                refine xa_i2l eX8_parsePromise_124 (by omega) ?_
                refine xs_iload_2 eX8_parsePromise_125 ?_
                refine xa_i2l eX8_parsePromise_126 (by omega) ?_
                refine xbi_S30 (mi' := mX8_isBetween) (y := yX8_isBetween) eX8_parsePromise_127 (xw_4 lRX8_61 wy_X8_isBetween) rfl rfl ⟨wd_X8_isBetween, by decide, by decide⟩ (Nat.le_of_ble_eq_true rfl) rfl (k_X8_isBetween (by omega) (by omega) (by omega) ?_)
                refine xa_iconst eX8_parsePromise_130 ?_
                refine xbv_V20 (mi' := mX8_require) (y := yX8_require) eX8_parsePromise_131 (xw_5 lRX8_330 wy_X8_require) rfl ⟨wd_X8_require, by decide, by decide⟩ (by decide) (fun _ => rfl) rfl (Nat.le_of_ble_eq_true rfl) rfl (z_X8_require (b2i_01 _) hE ?_)
                refine xs_aload_0 eX8_parsePromise_134 ?_
                refine gr_X8_19 eX8_parsePromise_135 lRX8_291 (fun r135 => ?_)
                try simp only [show (2 : Int).toNat = 2 from rfl] at r135 ⊢
                refine xs_istore_4 eX8_parsePromise_138 rfl ?_
                refine xs_aload_0 eX8_parsePromise_140 ?_
                refine xbi_V00 (mi' := mX8_isFine) (y := yX8_isFine) eX8_parsePromise_141 (xw_5 lRX8_320 wy_X8_isFine) rfl ⟨wd_X8_isFine, by decide, by decide⟩ (by decide) (fun _ => rfl) rfl (Nat.le_of_ble_eq_true rfl) rfl (k_X8_isFine ?_)
                refine xa_ifb_eq (tgt := 160) eX8_parsePromise_144 (by decide) (fun c144 => ?_) (fun c144 => ?_)
                · refine xs_aload_0 eX8_parsePromise_160 ?_
                  refine xbv_V00 (mi' := mX8_advance) (y := yX8_advance) eX8_parsePromise_161 (xw_5 lRX8_334 wy_X8_advance) rfl ⟨wd_X8_advance, by decide, by decide⟩ (by decide) (fun _ => rfl) rfl (Nat.le_of_ble_eq_true rfl) rfl (z_X8_advance hE ?_)
                  refine xs_aload_0 eX8_parsePromise_164 ?_
                  refine xa_ldcwS (tx := "ask") (i := 5) eX8_parsePromise_165 (List.mem_of_getElem? (i := 11) rfl) ?_
                  refine xbi_V10 (mi' := mX8_accept) (y := yX8_accept) eX8_parsePromise_168 (xw_5 lRX8_342 wy_X8_accept) rfl ⟨wd_X8_accept, by decide, by decide⟩ (by decide) (fun _ => rfl) rfl (Nat.le_of_ble_eq_true rfl) rfl (z_X8_accept hE ?_)
                  · refine xa_if_eq (tgt := 185) eX8_parsePromise_171 (by decide) (by decide) (fun c171 => ?_) (fun c171 => ?_)
                    · refine xa_iconst eX8_parsePromise_185 ?_
                      refine xs_istore_5 eX8_parsePromise_186 rfl ?_
                      refine xs_aload_0 eX8_parsePromise_188 ?_
                      refine xbi_V00 (mi' := mX8_isFine) (y := yX8_isFine) eX8_parsePromise_189 (xw_5 lRX8_320 wy_X8_isFine) rfl ⟨wd_X8_isFine, by decide, by decide⟩ (by decide) (fun _ => rfl) rfl (Nat.le_of_ble_eq_true rfl) rfl (k_X8_isFine ?_)
                      refine xa_ifb_eq (tgt := 216) eX8_parsePromise_192 (by decide) (fun c192 => ?_) (fun c192 => ?_)
                      · exact xa_vret eX8_parsePromise_216 rfl ⟨rfl, by have h9 := q0; rw [e2] at h9; exact h9 rfl _ ((FM.rq (by decide)).tr (f1.tr f0)).fw hc4 hc5 hE⟩
                      · exact absurd c192 hE
                    · exact absurd rfl c171
                · exact absurd c144 hE
        · have hkE : S1 31 0 1 = (k : Int) := by rw [f1.1 31 (by decide), f0.1 31 (by decide)]; exact hk1
          refine xs_istore_1 eX8_parsePromise_51 rfl ?_
          refine xs_aload_0 eX8_parsePromise_52 ?_
          refine xs_aload_0 eX8_parsePromise_53 ?_
          refine gr_X8_17 eX8_parsePromise_54 lRX8_294 (fun r54 => ?_)
          try simp only [show (2 : Int).toNat = 2 from rfl] at r54 ⊢
          refine xa_iconst eX8_parsePromise_57 ?_
          refine xa_icmp_ne (tgt := 65) eX8_parsePromise_58 (by decide) (by omega) (by decide) (fun c58 => ?_) (fun c58 => ?_)
          · refine xa_iconst eX8_parsePromise_65 ?_
            refine xa_iconst eX8_parsePromise_66 ?_
            refine xbv_V20 (mi' := mX8_require) (y := yX8_require) eX8_parsePromise_67 (xw_5 lRX8_330 wy_X8_require) rfl ⟨wd_X8_require, by decide, by decide⟩ (by decide) (fun _ => rfl) rfl (Nat.le_of_ble_eq_true rfl) rfl (z_X8_require (by decide) hE ?_)
            refine xs_aload_0 eX8_parsePromise_70 ?_
            refine xs_aload_0 eX8_parsePromise_71 ?_
            refine gr_X8_19 eX8_parsePromise_72 lRX8_291 (fun r72 => ?_)
            try simp only [show (2 : Int).toNat = 2 from rfl] at r72 ⊢
            refine xbi_S10 (mi' := mX8_isPeriod) (y := yX8_isPeriod) eX8_parsePromise_75 (xw_4 lRX8_134 wy_X8_isPeriod) rfl rfl ⟨wd_X8_isPeriod, by decide, by decide⟩ (Nat.le_of_ble_eq_true rfl) rfl (k_X8_isPeriod (by omega) ?_)
            refine xa_iconst eX8_parsePromise_78 ?_
            refine xbv_V20 (mi' := mX8_require) (y := yX8_require) eX8_parsePromise_79 (xw_5 lRX8_330 wy_X8_require) rfl ⟨wd_X8_require, by decide, by decide⟩ (by decide) (fun _ => rfl) rfl (Nat.le_of_ble_eq_true rfl) rfl (z_X8_require (b2i_01 _) hE ?_)
            refine xs_aload_0 eX8_parsePromise_82 ?_
            refine gr_X8_19 eX8_parsePromise_83 lRX8_291 (fun r83 => ?_)
            try simp only [show (2 : Int).toNat = 2 from rfl] at r83 ⊢
            refine xs_istore_2 eX8_parsePromise_86 rfl ?_
            refine xs_aload_0 eX8_parsePromise_87 ?_
            refine xbv_V00 (mi' := mX8_advance) (y := yX8_advance) eX8_parsePromise_88 (xw_5 lRX8_334 wy_X8_advance) rfl ⟨wd_X8_advance, by decide, by decide⟩ (by decide) (fun _ => rfl) rfl (Nat.le_of_ble_eq_true rfl) rfl (z_X8_advance hE ?_)
            refine xs_aload_0 eX8_parsePromise_91 ?_
            refine xa_iconst eX8_parsePromise_92 ?_
            refine xa_bipush eX8_parsePromise_93 (by decide) ?_
            refine xbi_V20 (mi' := mX8_parseNumber) (y := yX8_parseNumber) eX8_parsePromise_95 (xw_5 lRX8_337 wy_X8_parseNumber) rfl ⟨wd_X8_parseNumber, by decide, by decide⟩ (by decide) (fun _ => rfl) rfl (Nat.le_of_ble_eq_true rfl) rfl (zr_X8_parseNumber (by decide) (by decide) hE (fun v95 hv95 => ?_))
            refine xs_istore_3 eX8_parsePromise_98 rfl ?_
            refine xs_aload_0 eX8_parsePromise_99 ?_
            refine xs_aload_0 eX8_parsePromise_100 ?_
            refine gr_X8_17 eX8_parsePromise_101 lRX8_294 (fun r101 => ?_)
            try simp only [show (2 : Int).toNat = 2 from rfl] at r101 ⊢
            refine xa_iconst eX8_parsePromise_104 ?_
            refine xa_icmp_ne (tgt := 112) eX8_parsePromise_105 (by decide) (by omega) (by decide) (fun c105 => ?_) (fun c105 => ?_)
            · refine xa_iconst eX8_parsePromise_112 ?_
              refine xa_iconst eX8_parsePromise_113 ?_
              refine xbv_V20 (mi' := mX8_require) (y := yX8_require) eX8_parsePromise_114 (xw_5 lRX8_330 wy_X8_require) rfl ⟨wd_X8_require, by decide, by decide⟩ (by decide) (fun _ => rfl) rfl (Nat.le_of_ble_eq_true rfl) rfl (z_X8_require (by decide) hE ?_)
              refine xs_aload_0 eX8_parsePromise_117 ?_
              refine xs_aload_0 eX8_parsePromise_118 ?_
              refine gr_X8_19 eX8_parsePromise_119 lRX8_291 (fun r119 => ?_)
              try simp only [show (2 : Int).toNat = 2 from rfl] at r119 ⊢
              refine xa_i2l eX8_parsePromise_122 (by omega) ?_
              refine xs_iload_3 eX8_parsePromise_123 ?_
              refine xa_i2l eX8_parsePromise_124 (by omega) ?_
              refine xs_iload_2 eX8_parsePromise_125 ?_
              refine xa_i2l eX8_parsePromise_126 (by omega) ?_
              refine xbi_S30 (mi' := mX8_isBetween) (y := yX8_isBetween) eX8_parsePromise_127 (xw_4 lRX8_61 wy_X8_isBetween) rfl rfl ⟨wd_X8_isBetween, by decide, by decide⟩ (Nat.le_of_ble_eq_true rfl) rfl (k_X8_isBetween (by omega) (by omega) (by omega) ?_)
              refine xa_iconst eX8_parsePromise_130 ?_
              refine xbv_V20 (mi' := mX8_require) (y := yX8_require) eX8_parsePromise_131 (xw_5 lRX8_330 wy_X8_require) rfl ⟨wd_X8_require, by decide, by decide⟩ (by decide) (fun _ => rfl) rfl (Nat.le_of_ble_eq_true rfl) rfl (z_X8_require (b2i_01 _) hE ?_)
              refine xs_aload_0 eX8_parsePromise_134 ?_
              refine gr_X8_19 eX8_parsePromise_135 lRX8_291 (fun r135 => ?_)
              try simp only [show (2 : Int).toNat = 2 from rfl] at r135 ⊢
              refine xs_istore_4 eX8_parsePromise_138 rfl ?_
              refine xs_aload_0 eX8_parsePromise_140 ?_
              refine xbi_V00 (mi' := mX8_isFine) (y := yX8_isFine) eX8_parsePromise_141 (xw_5 lRX8_320 wy_X8_isFine) rfl ⟨wd_X8_isFine, by decide, by decide⟩ (by decide) (fun _ => rfl) rfl (Nat.le_of_ble_eq_true rfl) rfl (k_X8_isFine ?_)
              refine xa_ifb_eq (tgt := 160) eX8_parsePromise_144 (by decide) (fun c144 => ?_) (fun c144 => ?_)
              · refine xs_aload_0 eX8_parsePromise_160 ?_
                refine xbv_V00 (mi' := mX8_advance) (y := yX8_advance) eX8_parsePromise_161 (xw_5 lRX8_334 wy_X8_advance) rfl ⟨wd_X8_advance, by decide, by decide⟩ (by decide) (fun _ => rfl) rfl (Nat.le_of_ble_eq_true rfl) rfl (z_X8_advance hE ?_)
                refine xs_aload_0 eX8_parsePromise_164 ?_
                refine xa_ldcwS (tx := "ask") (i := 5) eX8_parsePromise_165 (List.mem_of_getElem? (i := 11) rfl) ?_
                refine xbi_V10 (mi' := mX8_accept) (y := yX8_accept) eX8_parsePromise_168 (xw_5 lRX8_342 wy_X8_accept) rfl ⟨wd_X8_accept, by decide, by decide⟩ (by decide) (fun _ => rfl) rfl (Nat.le_of_ble_eq_true rfl) rfl (z_X8_accept hE ?_)
                · refine xa_if_eq (tgt := 185) eX8_parsePromise_171 (by decide) (by decide) (fun c171 => ?_) (fun c171 => ?_)
                  · refine xa_iconst eX8_parsePromise_185 ?_
                    refine xs_istore_5 eX8_parsePromise_186 rfl ?_
                    refine xs_aload_0 eX8_parsePromise_188 ?_
                    refine xbi_V00 (mi' := mX8_isFine) (y := yX8_isFine) eX8_parsePromise_189 (xw_5 lRX8_320 wy_X8_isFine) rfl ⟨wd_X8_isFine, by decide, by decide⟩ (by decide) (fun _ => rfl) rfl (Nat.le_of_ble_eq_true rfl) rfl (k_X8_isFine ?_)
                    refine xa_ifb_eq (tgt := 216) eX8_parsePromise_192 (by decide) (fun c192 => ?_) (fun c192 => ?_)
                    · exact xa_vret eX8_parsePromise_216 rfl ⟨rfl, by have h9 := q0; simp only [rdPmS, bnd, rdPrm, rdPri, if_true, if_false, Bool.false_eq_true, reduceIte, Int.toNat_natCast, if_pos w4, if_pos hlt, e1] at h9; exact h9 trivial _ (f1.tr f0).fw hc4 hc5 hE⟩
                    · exact absurd c192 hE
                  · exact absurd rfl c171
              · exact absurd c144 hE
            · refine xa_iconst eX8_parsePromise_108 ?_
              refine xa_goto (tgt := 113) eX8_parsePromise_109 (by decide) ?_
              refine xa_iconst eX8_parsePromise_113 ?_
              refine xbv_V20 (mi' := mX8_require) (y := yX8_require) eX8_parsePromise_114 (xw_5 lRX8_330 wy_X8_require) rfl ⟨wd_X8_require, by decide, by decide⟩ (by decide) (fun _ => rfl) rfl (Nat.le_of_ble_eq_true rfl) rfl (z_X8_require (by decide) hE ?_)
              refine xs_aload_0 eX8_parsePromise_117 ?_
              refine xs_aload_0 eX8_parsePromise_118 ?_
              refine gr_X8_19 eX8_parsePromise_119 lRX8_291 (fun r119 => ?_)
              try simp only [show (2 : Int).toNat = 2 from rfl] at r119 ⊢
              refine xa_i2l eX8_parsePromise_122 (by omega) ?_
              refine xs_iload_3 eX8_parsePromise_123 ?_
              refine xa_i2l eX8_parsePromise_124 (by omega) ?_
              refine xs_iload_2 eX8_parsePromise_125 ?_
              refine xa_i2l eX8_parsePromise_126 (by omega) ?_
              refine xbi_S30 (mi' := mX8_isBetween) (y := yX8_isBetween) eX8_parsePromise_127 (xw_4 lRX8_61 wy_X8_isBetween) rfl rfl ⟨wd_X8_isBetween, by decide, by decide⟩ (Nat.le_of_ble_eq_true rfl) rfl (k_X8_isBetween (by omega) (by omega) (by omega) ?_)
              refine xa_iconst eX8_parsePromise_130 ?_
              refine xbv_V20 (mi' := mX8_require) (y := yX8_require) eX8_parsePromise_131 (xw_5 lRX8_330 wy_X8_require) rfl ⟨wd_X8_require, by decide, by decide⟩ (by decide) (fun _ => rfl) rfl (Nat.le_of_ble_eq_true rfl) rfl (z_X8_require (b2i_01 _) hE ?_)
              refine xs_aload_0 eX8_parsePromise_134 ?_
              refine gr_X8_19 eX8_parsePromise_135 lRX8_291 (fun r135 => ?_)
              try simp only [show (2 : Int).toNat = 2 from rfl] at r135 ⊢
              refine xs_istore_4 eX8_parsePromise_138 rfl ?_
              refine xs_aload_0 eX8_parsePromise_140 ?_
              refine xbi_V00 (mi' := mX8_isFine) (y := yX8_isFine) eX8_parsePromise_141 (xw_5 lRX8_320 wy_X8_isFine) rfl ⟨wd_X8_isFine, by decide, by decide⟩ (by decide) (fun _ => rfl) rfl (Nat.le_of_ble_eq_true rfl) rfl (k_X8_isFine ?_)
              refine xa_ifb_eq (tgt := 160) eX8_parsePromise_144 (by decide) (fun c144 => ?_) (fun c144 => ?_)
              · refine xs_aload_0 eX8_parsePromise_160 ?_
                refine xbv_V00 (mi' := mX8_advance) (y := yX8_advance) eX8_parsePromise_161 (xw_5 lRX8_334 wy_X8_advance) rfl ⟨wd_X8_advance, by decide, by decide⟩ (by decide) (fun _ => rfl) rfl (Nat.le_of_ble_eq_true rfl) rfl (z_X8_advance hE ?_)
                refine xs_aload_0 eX8_parsePromise_164 ?_
                refine xa_ldcwS (tx := "ask") (i := 5) eX8_parsePromise_165 (List.mem_of_getElem? (i := 11) rfl) ?_
                refine xbi_V10 (mi' := mX8_accept) (y := yX8_accept) eX8_parsePromise_168 (xw_5 lRX8_342 wy_X8_accept) rfl ⟨wd_X8_accept, by decide, by decide⟩ (by decide) (fun _ => rfl) rfl (Nat.le_of_ble_eq_true rfl) rfl (z_X8_accept hE ?_)
                · refine xa_if_eq (tgt := 185) eX8_parsePromise_171 (by decide) (by decide) (fun c171 => ?_) (fun c171 => ?_)
                  · refine xa_iconst eX8_parsePromise_185 ?_
                    refine xs_istore_5 eX8_parsePromise_186 rfl ?_
                    refine xs_aload_0 eX8_parsePromise_188 ?_
                    refine xbi_V00 (mi' := mX8_isFine) (y := yX8_isFine) eX8_parsePromise_189 (xw_5 lRX8_320 wy_X8_isFine) rfl ⟨wd_X8_isFine, by decide, by decide⟩ (by decide) (fun _ => rfl) rfl (Nat.le_of_ble_eq_true rfl) rfl (k_X8_isFine ?_)
                    refine xa_ifb_eq (tgt := 216) eX8_parsePromise_192 (by decide) (fun c192 => ?_) (fun c192 => ?_)
                    · exact xa_vret eX8_parsePromise_216 rfl ⟨rfl, by have h9 := q0; simp only [rdPmS, bnd, rdPrm, rdPri, if_true, if_false, Bool.false_eq_true, reduceIte, Int.toNat_natCast, if_pos w4, if_pos hlt, e1] at h9; exact h9 trivial _ (f1.tr f0).fw hc4 hc5 hE⟩
                    · exact absurd c192 hE
                  · exact absurd rfl c171
              · exact absurd c144 hE
          · refine xa_iconst eX8_parsePromise_61 ?_
            refine xa_goto (tgt := 66) eX8_parsePromise_62 (by decide) ?_
            refine xa_iconst eX8_parsePromise_66 ?_
            refine xbv_V20 (mi' := mX8_require) (y := yX8_require) eX8_parsePromise_67 (xw_5 lRX8_330 wy_X8_require) rfl ⟨wd_X8_require, by decide, by decide⟩ (by decide) (fun _ => rfl) rfl (Nat.le_of_ble_eq_true rfl) rfl (z_X8_require (by decide) hE ?_)
            refine xs_aload_0 eX8_parsePromise_70 ?_
            refine xs_aload_0 eX8_parsePromise_71 ?_
            refine gr_X8_19 eX8_parsePromise_72 lRX8_291 (fun r72 => ?_)
            try simp only [show (2 : Int).toNat = 2 from rfl] at r72 ⊢
            refine xbi_S10 (mi' := mX8_isPeriod) (y := yX8_isPeriod) eX8_parsePromise_75 (xw_4 lRX8_134 wy_X8_isPeriod) rfl rfl ⟨wd_X8_isPeriod, by decide, by decide⟩ (Nat.le_of_ble_eq_true rfl) rfl (k_X8_isPeriod (by omega) ?_)
            refine xa_iconst eX8_parsePromise_78 ?_
            refine xbv_V20 (mi' := mX8_require) (y := yX8_require) eX8_parsePromise_79 (xw_5 lRX8_330 wy_X8_require) rfl ⟨wd_X8_require, by decide, by decide⟩ (by decide) (fun _ => rfl) rfl (Nat.le_of_ble_eq_true rfl) rfl (z_X8_require (b2i_01 _) hE ?_)
            refine xs_aload_0 eX8_parsePromise_82 ?_
            refine gr_X8_19 eX8_parsePromise_83 lRX8_291 (fun r83 => ?_)
            try simp only [show (2 : Int).toNat = 2 from rfl] at r83 ⊢
            refine xs_istore_2 eX8_parsePromise_86 rfl ?_
            refine xs_aload_0 eX8_parsePromise_87 ?_
            refine xbv_V00 (mi' := mX8_advance) (y := yX8_advance) eX8_parsePromise_88 (xw_5 lRX8_334 wy_X8_advance) rfl ⟨wd_X8_advance, by decide, by decide⟩ (by decide) (fun _ => rfl) rfl (Nat.le_of_ble_eq_true rfl) rfl (z_X8_advance hE ?_)
            refine xs_aload_0 eX8_parsePromise_91 ?_
            refine xa_iconst eX8_parsePromise_92 ?_
            refine xa_bipush eX8_parsePromise_93 (by decide) ?_
            refine xbi_V20 (mi' := mX8_parseNumber) (y := yX8_parseNumber) eX8_parsePromise_95 (xw_5 lRX8_337 wy_X8_parseNumber) rfl ⟨wd_X8_parseNumber, by decide, by decide⟩ (by decide) (fun _ => rfl) rfl (Nat.le_of_ble_eq_true rfl) rfl (zr_X8_parseNumber (by decide) (by decide) hE (fun v95 hv95 => ?_))
            refine xs_istore_3 eX8_parsePromise_98 rfl ?_
            refine xs_aload_0 eX8_parsePromise_99 ?_
            refine xs_aload_0 eX8_parsePromise_100 ?_
            refine gr_X8_17 eX8_parsePromise_101 lRX8_294 (fun r101 => ?_)
            try simp only [show (2 : Int).toNat = 2 from rfl] at r101 ⊢
            refine xa_iconst eX8_parsePromise_104 ?_
            refine xa_icmp_ne (tgt := 112) eX8_parsePromise_105 (by decide) (by omega) (by decide) (fun c105 => ?_) (fun c105 => ?_)
            · refine xa_iconst eX8_parsePromise_112 ?_
              refine xa_iconst eX8_parsePromise_113 ?_
              refine xbv_V20 (mi' := mX8_require) (y := yX8_require) eX8_parsePromise_114 (xw_5 lRX8_330 wy_X8_require) rfl ⟨wd_X8_require, by decide, by decide⟩ (by decide) (fun _ => rfl) rfl (Nat.le_of_ble_eq_true rfl) rfl (z_X8_require (by decide) hE ?_)
              refine xs_aload_0 eX8_parsePromise_117 ?_
              refine xs_aload_0 eX8_parsePromise_118 ?_
              refine gr_X8_19 eX8_parsePromise_119 lRX8_291 (fun r119 => ?_)
              try simp only [show (2 : Int).toNat = 2 from rfl] at r119 ⊢
              refine xa_i2l eX8_parsePromise_122 (by omega) ?_
              refine xs_iload_3 eX8_parsePromise_123 ?_
              refine xa_i2l eX8_parsePromise_124 (by omega) ?_
              refine xs_iload_2 eX8_parsePromise_125 ?_
              refine xa_i2l eX8_parsePromise_126 (by omega) ?_
              refine xbi_S30 (mi' := mX8_isBetween) (y := yX8_isBetween) eX8_parsePromise_127 (xw_4 lRX8_61 wy_X8_isBetween) rfl rfl ⟨wd_X8_isBetween, by decide, by decide⟩ (Nat.le_of_ble_eq_true rfl) rfl (k_X8_isBetween (by omega) (by omega) (by omega) ?_)
              refine xa_iconst eX8_parsePromise_130 ?_
              refine xbv_V20 (mi' := mX8_require) (y := yX8_require) eX8_parsePromise_131 (xw_5 lRX8_330 wy_X8_require) rfl ⟨wd_X8_require, by decide, by decide⟩ (by decide) (fun _ => rfl) rfl (Nat.le_of_ble_eq_true rfl) rfl (z_X8_require (b2i_01 _) hE ?_)
              refine xs_aload_0 eX8_parsePromise_134 ?_
              refine gr_X8_19 eX8_parsePromise_135 lRX8_291 (fun r135 => ?_)
              try simp only [show (2 : Int).toNat = 2 from rfl] at r135 ⊢
              refine xs_istore_4 eX8_parsePromise_138 rfl ?_
              refine xs_aload_0 eX8_parsePromise_140 ?_
              refine xbi_V00 (mi' := mX8_isFine) (y := yX8_isFine) eX8_parsePromise_141 (xw_5 lRX8_320 wy_X8_isFine) rfl ⟨wd_X8_isFine, by decide, by decide⟩ (by decide) (fun _ => rfl) rfl (Nat.le_of_ble_eq_true rfl) rfl (k_X8_isFine ?_)
              refine xa_ifb_eq (tgt := 160) eX8_parsePromise_144 (by decide) (fun c144 => ?_) (fun c144 => ?_)
              · refine xs_aload_0 eX8_parsePromise_160 ?_
                refine xbv_V00 (mi' := mX8_advance) (y := yX8_advance) eX8_parsePromise_161 (xw_5 lRX8_334 wy_X8_advance) rfl ⟨wd_X8_advance, by decide, by decide⟩ (by decide) (fun _ => rfl) rfl (Nat.le_of_ble_eq_true rfl) rfl (z_X8_advance hE ?_)
                refine xs_aload_0 eX8_parsePromise_164 ?_
                refine xa_ldcwS (tx := "ask") (i := 5) eX8_parsePromise_165 (List.mem_of_getElem? (i := 11) rfl) ?_
                refine xbi_V10 (mi' := mX8_accept) (y := yX8_accept) eX8_parsePromise_168 (xw_5 lRX8_342 wy_X8_accept) rfl ⟨wd_X8_accept, by decide, by decide⟩ (by decide) (fun _ => rfl) rfl (Nat.le_of_ble_eq_true rfl) rfl (z_X8_accept hE ?_)
                · refine xa_if_eq (tgt := 185) eX8_parsePromise_171 (by decide) (by decide) (fun c171 => ?_) (fun c171 => ?_)
                  · refine xa_iconst eX8_parsePromise_185 ?_
                    refine xs_istore_5 eX8_parsePromise_186 rfl ?_
                    refine xs_aload_0 eX8_parsePromise_188 ?_
                    refine xbi_V00 (mi' := mX8_isFine) (y := yX8_isFine) eX8_parsePromise_189 (xw_5 lRX8_320 wy_X8_isFine) rfl ⟨wd_X8_isFine, by decide, by decide⟩ (by decide) (fun _ => rfl) rfl (Nat.le_of_ble_eq_true rfl) rfl (k_X8_isFine ?_)
                    refine xa_ifb_eq (tgt := 216) eX8_parsePromise_192 (by decide) (fun c192 => ?_) (fun c192 => ?_)
                    · exact xa_vret eX8_parsePromise_216 rfl ⟨rfl, by have h9 := q0; simp only [rdPmS, bnd, rdPrm, rdPri, if_true, if_false, Bool.false_eq_true, reduceIte, Int.toNat_natCast, if_pos w4, if_pos hlt, e1] at h9; exact h9 trivial _ (f1.tr f0).fw hc4 hc5 hE⟩
                    · exact absurd c192 hE
                  · exact absurd rfl c171
              · exact absurd c144 hE
            · refine xa_iconst eX8_parsePromise_108 ?_
              refine xa_goto (tgt := 113) eX8_parsePromise_109 (by decide) ?_
              refine xa_iconst eX8_parsePromise_113 ?_
              refine xbv_V20 (mi' := mX8_require) (y := yX8_require) eX8_parsePromise_114 (xw_5 lRX8_330 wy_X8_require) rfl ⟨wd_X8_require, by decide, by decide⟩ (by decide) (fun _ => rfl) rfl (Nat.le_of_ble_eq_true rfl) rfl (z_X8_require (by decide) hE ?_)
              refine xs_aload_0 eX8_parsePromise_117 ?_
              refine xs_aload_0 eX8_parsePromise_118 ?_
              refine gr_X8_19 eX8_parsePromise_119 lRX8_291 (fun r119 => ?_)
              try simp only [show (2 : Int).toNat = 2 from rfl] at r119 ⊢
              refine xa_i2l eX8_parsePromise_122 (by omega) ?_
              refine xs_iload_3 eX8_parsePromise_123 ?_
              refine xa_i2l eX8_parsePromise_124 (by omega) ?_
              refine xs_iload_2 eX8_parsePromise_125 ?_
              refine xa_i2l eX8_parsePromise_126 (by omega) ?_
              refine xbi_S30 (mi' := mX8_isBetween) (y := yX8_isBetween) eX8_parsePromise_127 (xw_4 lRX8_61 wy_X8_isBetween) rfl rfl ⟨wd_X8_isBetween, by decide, by decide⟩ (Nat.le_of_ble_eq_true rfl) rfl (k_X8_isBetween (by omega) (by omega) (by omega) ?_)
              refine xa_iconst eX8_parsePromise_130 ?_
              refine xbv_V20 (mi' := mX8_require) (y := yX8_require) eX8_parsePromise_131 (xw_5 lRX8_330 wy_X8_require) rfl ⟨wd_X8_require, by decide, by decide⟩ (by decide) (fun _ => rfl) rfl (Nat.le_of_ble_eq_true rfl) rfl (z_X8_require (b2i_01 _) hE ?_)
              refine xs_aload_0 eX8_parsePromise_134 ?_
              refine gr_X8_19 eX8_parsePromise_135 lRX8_291 (fun r135 => ?_)
              try simp only [show (2 : Int).toNat = 2 from rfl] at r135 ⊢
              refine xs_istore_4 eX8_parsePromise_138 rfl ?_
              refine xs_aload_0 eX8_parsePromise_140 ?_
              refine xbi_V00 (mi' := mX8_isFine) (y := yX8_isFine) eX8_parsePromise_141 (xw_5 lRX8_320 wy_X8_isFine) rfl ⟨wd_X8_isFine, by decide, by decide⟩ (by decide) (fun _ => rfl) rfl (Nat.le_of_ble_eq_true rfl) rfl (k_X8_isFine ?_)
              refine xa_ifb_eq (tgt := 160) eX8_parsePromise_144 (by decide) (fun c144 => ?_) (fun c144 => ?_)
              · refine xs_aload_0 eX8_parsePromise_160 ?_
                refine xbv_V00 (mi' := mX8_advance) (y := yX8_advance) eX8_parsePromise_161 (xw_5 lRX8_334 wy_X8_advance) rfl ⟨wd_X8_advance, by decide, by decide⟩ (by decide) (fun _ => rfl) rfl (Nat.le_of_ble_eq_true rfl) rfl (z_X8_advance hE ?_)
                refine xs_aload_0 eX8_parsePromise_164 ?_
                refine xa_ldcwS (tx := "ask") (i := 5) eX8_parsePromise_165 (List.mem_of_getElem? (i := 11) rfl) ?_
                refine xbi_V10 (mi' := mX8_accept) (y := yX8_accept) eX8_parsePromise_168 (xw_5 lRX8_342 wy_X8_accept) rfl ⟨wd_X8_accept, by decide, by decide⟩ (by decide) (fun _ => rfl) rfl (Nat.le_of_ble_eq_true rfl) rfl (z_X8_accept hE ?_)
                · refine xa_if_eq (tgt := 185) eX8_parsePromise_171 (by decide) (by decide) (fun c171 => ?_) (fun c171 => ?_)
                  · refine xa_iconst eX8_parsePromise_185 ?_
                    refine xs_istore_5 eX8_parsePromise_186 rfl ?_
                    refine xs_aload_0 eX8_parsePromise_188 ?_
                    refine xbi_V00 (mi' := mX8_isFine) (y := yX8_isFine) eX8_parsePromise_189 (xw_5 lRX8_320 wy_X8_isFine) rfl ⟨wd_X8_isFine, by decide, by decide⟩ (by decide) (fun _ => rfl) rfl (Nat.le_of_ble_eq_true rfl) rfl (k_X8_isFine ?_)
                    refine xa_ifb_eq (tgt := 216) eX8_parsePromise_192 (by decide) (fun c192 => ?_) (fun c192 => ?_)
                    · exact xa_vret eX8_parsePromise_216 rfl ⟨rfl, by have h9 := q0; simp only [rdPmS, bnd, rdPrm, rdPri, if_true, if_false, Bool.false_eq_true, reduceIte, Int.toNat_natCast, if_pos w4, if_pos hlt, e1] at h9; exact h9 trivial _ (f1.tr f0).fw hc4 hc5 hE⟩
                    · exact absurd c192 hE
                  · exact absurd rfl c171
              · exact absurd c144 hE
  · have w4 : ¬ isW 4 C := fun z => b2i_n z9 ((tr.word h.1 (by decide)).mpr z)
    have hE : ¬ rqS 1 S 30 0 20 = 0 := rq_20 (by decide)
    have hc4 : rqS 1 S 30 0 20 = 1 := by unfold rqS; rw [if_pos e, up_f (by decide), up_same]
    have hc5 : rqS 1 S 30 0 21 = C 3 0 7 := by unfold rqS; rw [if_pos e, up_same]; exact tr.2.2.1
    have hkE : rqS 1 S 31 0 1 = (k : Int) := by rw [rq_k (by decide)]; exact hk1
    refine xs_aload_0 eX8_parsePromise_12 ?_
    refine xs_aload_0 eX8_parsePromise_13 ?_
    refine g_X8_0 eX8_parsePromise_14 lRX8_7 ?_
    refine xa_iconst eX8_parsePromise_17 ?_
    refine gar_31 eX8_parsePromise_18 (by omega) (fun r18 => ?_)
    try simp only [show (2 : Int).toNat = 2 from rfl] at r18 ⊢
    refine xa_ldc2 (a := 20) eX8_parsePromise_19 lRX8_171 (by decide) ?_
    refine xa_lcmp eX8_parsePromise_22 (by omega) (by decide) ?_
    refine xa_ifc_ge (tgt := 30) eX8_parsePromise_23 (by decide) (fun c23 => ?_) (fun c23 => ?_)
    · refine xa_iconst eX8_parsePromise_30 ?_
      refine xa_iconst eX8_parsePromise_31 ?_
      refine xbv_V20 (mi' := mX8_require) (y := yX8_require) eX8_parsePromise_32 (xw_5 lRX8_330 wy_X8_require) rfl ⟨wd_X8_require, by decide, by decide⟩ (by decide) (fun _ => rfl) rfl (Nat.le_of_ble_eq_true rfl) rfl (z_X8_require (by decide) hE ?_)
      refine xs_aload_0 eX8_parsePromise_35 ?_
      refine xbv_V00 (mi' := mX8_advance) (y := yX8_advance) eX8_parsePromise_36 (xw_5 lRX8_334 wy_X8_advance) rfl ⟨wd_X8_advance, by decide, by decide⟩ (by decide) (fun _ => rfl) rfl (Nat.le_of_ble_eq_true rfl) rfl (z_X8_advance hE ?_)
      refine xs_aload_0 eX8_parsePromise_39 ?_
      refine xa_iconst eX8_parsePromise_40 ?_
      refine xs_aload_0 eX8_parsePromise_41 ?_
      refine xa_iconst eX8_parsePromise_42 ?_
      refine xbi_V10 (mi' := mX8_number) (y := yX8_number) eX8_parsePromise_43 (xw_5 lRX8_65 wy_X8_number) rfl ⟨wd_X8_number, by decide, by decide⟩ (by decide) (fun _ => rfl) rfl (Nat.le_of_ble_eq_true rfl) rfl (k_X8_number (i := 1) rfl (by decide) ?_)
      rw [hkE]
      refine xa_iconst eX8_parsePromise_46 ?_
      refine xa_isub eX8_parsePromise_47 ?_
      refine xbi_V20 (mi' := mX8_parseNumber) (y := yX8_parseNumber) eX8_parsePromise_48 (xw_5 lRX8_337 wy_X8_parseNumber) rfl ⟨wd_X8_parseNumber, by decide, by decide⟩ (by decide) (fun _ => rfl) rfl (Nat.le_of_ble_eq_true rfl) rfl (zr_X8_parseNumber (by decide) (by omega) hE (fun v48 hv48 => ?_))
      refine xs_istore_1 eX8_parsePromise_51 rfl ?_
      refine xs_aload_0 eX8_parsePromise_52 ?_
      refine xs_aload_0 eX8_parsePromise_53 ?_
      refine gr_X8_17 eX8_parsePromise_54 lRX8_294 (fun r54 => ?_)
      try simp only [show (2 : Int).toNat = 2 from rfl] at r54 ⊢
      refine xa_iconst eX8_parsePromise_57 ?_
      refine xa_icmp_ne (tgt := 65) eX8_parsePromise_58 (by decide) (by omega) (by decide) (fun c58 => ?_) (fun c58 => ?_)
      · refine xa_iconst eX8_parsePromise_65 ?_
        refine xa_iconst eX8_parsePromise_66 ?_
        refine xbv_V20 (mi' := mX8_require) (y := yX8_require) eX8_parsePromise_67 (xw_5 lRX8_330 wy_X8_require) rfl ⟨wd_X8_require, by decide, by decide⟩ (by decide) (fun _ => rfl) rfl (Nat.le_of_ble_eq_true rfl) rfl (z_X8_require (by decide) hE ?_)
        refine xs_aload_0 eX8_parsePromise_70 ?_
        refine xs_aload_0 eX8_parsePromise_71 ?_
        refine gr_X8_19 eX8_parsePromise_72 lRX8_291 (fun r72 => ?_)
        try simp only [show (2 : Int).toNat = 2 from rfl] at r72 ⊢
        refine xbi_S10 (mi' := mX8_isPeriod) (y := yX8_isPeriod) eX8_parsePromise_75 (xw_4 lRX8_134 wy_X8_isPeriod) rfl rfl ⟨wd_X8_isPeriod, by decide, by decide⟩ (Nat.le_of_ble_eq_true rfl) rfl (k_X8_isPeriod (by omega) ?_)
        refine xa_iconst eX8_parsePromise_78 ?_
        refine xbv_V20 (mi' := mX8_require) (y := yX8_require) eX8_parsePromise_79 (xw_5 lRX8_330 wy_X8_require) rfl ⟨wd_X8_require, by decide, by decide⟩ (by decide) (fun _ => rfl) rfl (Nat.le_of_ble_eq_true rfl) rfl (z_X8_require (b2i_01 _) hE ?_)
        refine xs_aload_0 eX8_parsePromise_82 ?_
        refine gr_X8_19 eX8_parsePromise_83 lRX8_291 (fun r83 => ?_)
        try simp only [show (2 : Int).toNat = 2 from rfl] at r83 ⊢
        refine xs_istore_2 eX8_parsePromise_86 rfl ?_
        refine xs_aload_0 eX8_parsePromise_87 ?_
        refine xbv_V00 (mi' := mX8_advance) (y := yX8_advance) eX8_parsePromise_88 (xw_5 lRX8_334 wy_X8_advance) rfl ⟨wd_X8_advance, by decide, by decide⟩ (by decide) (fun _ => rfl) rfl (Nat.le_of_ble_eq_true rfl) rfl (z_X8_advance hE ?_)
        refine xs_aload_0 eX8_parsePromise_91 ?_
        refine xa_iconst eX8_parsePromise_92 ?_
        refine xa_bipush eX8_parsePromise_93 (by decide) ?_
        refine xbi_V20 (mi' := mX8_parseNumber) (y := yX8_parseNumber) eX8_parsePromise_95 (xw_5 lRX8_337 wy_X8_parseNumber) rfl ⟨wd_X8_parseNumber, by decide, by decide⟩ (by decide) (fun _ => rfl) rfl (Nat.le_of_ble_eq_true rfl) rfl (zr_X8_parseNumber (by decide) (by decide) hE (fun v95 hv95 => ?_))
        refine xs_istore_3 eX8_parsePromise_98 rfl ?_
        refine xs_aload_0 eX8_parsePromise_99 ?_
        refine xs_aload_0 eX8_parsePromise_100 ?_
        refine gr_X8_17 eX8_parsePromise_101 lRX8_294 (fun r101 => ?_)
        try simp only [show (2 : Int).toNat = 2 from rfl] at r101 ⊢
        refine xa_iconst eX8_parsePromise_104 ?_
        refine xa_icmp_ne (tgt := 112) eX8_parsePromise_105 (by decide) (by omega) (by decide) (fun c105 => ?_) (fun c105 => ?_)
        · refine xa_iconst eX8_parsePromise_112 ?_
          refine xa_iconst eX8_parsePromise_113 ?_
          refine xbv_V20 (mi' := mX8_require) (y := yX8_require) eX8_parsePromise_114 (xw_5 lRX8_330 wy_X8_require) rfl ⟨wd_X8_require, by decide, by decide⟩ (by decide) (fun _ => rfl) rfl (Nat.le_of_ble_eq_true rfl) rfl (z_X8_require (by decide) hE ?_)
          refine xs_aload_0 eX8_parsePromise_117 ?_
          refine xs_aload_0 eX8_parsePromise_118 ?_
          refine gr_X8_19 eX8_parsePromise_119 lRX8_291 (fun r119 => ?_)
          try simp only [show (2 : Int).toNat = 2 from rfl] at r119 ⊢
          refine xa_i2l eX8_parsePromise_122 (by omega) ?_
          refine xs_iload_3 eX8_parsePromise_123 ?_
          refine xa_i2l eX8_parsePromise_124 (by omega) ?_
          refine xs_iload_2 eX8_parsePromise_125 ?_
          refine xa_i2l eX8_parsePromise_126 (by omega) ?_
          refine xbi_S30 (mi' := mX8_isBetween) (y := yX8_isBetween) eX8_parsePromise_127 (xw_4 lRX8_61 wy_X8_isBetween) rfl rfl ⟨wd_X8_isBetween, by decide, by decide⟩ (Nat.le_of_ble_eq_true rfl) rfl (k_X8_isBetween (by omega) (by omega) (by omega) ?_)
          refine xa_iconst eX8_parsePromise_130 ?_
          refine xbv_V20 (mi' := mX8_require) (y := yX8_require) eX8_parsePromise_131 (xw_5 lRX8_330 wy_X8_require) rfl ⟨wd_X8_require, by decide, by decide⟩ (by decide) (fun _ => rfl) rfl (Nat.le_of_ble_eq_true rfl) rfl (z_X8_require (b2i_01 _) hE ?_)
          refine xs_aload_0 eX8_parsePromise_134 ?_
          refine gr_X8_19 eX8_parsePromise_135 lRX8_291 (fun r135 => ?_)
          try simp only [show (2 : Int).toNat = 2 from rfl] at r135 ⊢
          refine xs_istore_4 eX8_parsePromise_138 rfl ?_
          refine xs_aload_0 eX8_parsePromise_140 ?_
          refine xbi_V00 (mi' := mX8_isFine) (y := yX8_isFine) eX8_parsePromise_141 (xw_5 lRX8_320 wy_X8_isFine) rfl ⟨wd_X8_isFine, by decide, by decide⟩ (by decide) (fun _ => rfl) rfl (Nat.le_of_ble_eq_true rfl) rfl (k_X8_isFine ?_)
          refine xa_ifb_eq (tgt := 160) eX8_parsePromise_144 (by decide) (fun c144 => ?_) (fun c144 => ?_)
          · refine xs_aload_0 eX8_parsePromise_160 ?_
            refine xbv_V00 (mi' := mX8_advance) (y := yX8_advance) eX8_parsePromise_161 (xw_5 lRX8_334 wy_X8_advance) rfl ⟨wd_X8_advance, by decide, by decide⟩ (by decide) (fun _ => rfl) rfl (Nat.le_of_ble_eq_true rfl) rfl (z_X8_advance hE ?_)
            refine xs_aload_0 eX8_parsePromise_164 ?_
            refine xa_ldcwS (tx := "ask") (i := 5) eX8_parsePromise_165 (List.mem_of_getElem? (i := 11) rfl) ?_
            refine xbi_V10 (mi' := mX8_accept) (y := yX8_accept) eX8_parsePromise_168 (xw_5 lRX8_342 wy_X8_accept) rfl ⟨wd_X8_accept, by decide, by decide⟩ (by decide) (fun _ => rfl) rfl (Nat.le_of_ble_eq_true rfl) rfl (z_X8_accept hE ?_)
            · refine xa_if_eq (tgt := 185) eX8_parsePromise_171 (by decide) (by decide) (fun c171 => ?_) (fun c171 => ?_)
              · refine xa_iconst eX8_parsePromise_185 ?_
                refine xs_istore_5 eX8_parsePromise_186 rfl ?_
                refine xs_aload_0 eX8_parsePromise_188 ?_
                refine xbi_V00 (mi' := mX8_isFine) (y := yX8_isFine) eX8_parsePromise_189 (xw_5 lRX8_320 wy_X8_isFine) rfl ⟨wd_X8_isFine, by decide, by decide⟩ (by decide) (fun _ => rfl) rfl (Nat.le_of_ble_eq_true rfl) rfl (k_X8_isFine ?_)
                refine xa_ifb_eq (tgt := 216) eX8_parsePromise_192 (by decide) (fun c192 => ?_) (fun c192 => ?_)
                · exact xa_vret eX8_parsePromise_216 rfl ⟨rfl, by have h9 := q0; simp only [rdPmS, bnd, rdPrm, rdPri, if_true, if_false, Bool.false_eq_true, reduceIte, Int.toNat_natCast, if_neg w4] at h9; exact h9 trivial _ (FM.rq (by decide)).fw hc4 hc5 hE⟩
                · exact absurd c192 hE
              · exact absurd rfl c171
          · exact absurd c144 hE
        · refine xa_iconst eX8_parsePromise_108 ?_
          refine xa_goto (tgt := 113) eX8_parsePromise_109 (by decide) ?_
          refine xa_iconst eX8_parsePromise_113 ?_
          refine xbv_V20 (mi' := mX8_require) (y := yX8_require) eX8_parsePromise_114 (xw_5 lRX8_330 wy_X8_require) rfl ⟨wd_X8_require, by decide, by decide⟩ (by decide) (fun _ => rfl) rfl (Nat.le_of_ble_eq_true rfl) rfl (z_X8_require (by decide) hE ?_)
          refine xs_aload_0 eX8_parsePromise_117 ?_
          refine xs_aload_0 eX8_parsePromise_118 ?_
          refine gr_X8_19 eX8_parsePromise_119 lRX8_291 (fun r119 => ?_)
          try simp only [show (2 : Int).toNat = 2 from rfl] at r119 ⊢
          refine xa_i2l eX8_parsePromise_122 (by omega) ?_
          refine xs_iload_3 eX8_parsePromise_123 ?_
          refine xa_i2l eX8_parsePromise_124 (by omega) ?_
          refine xs_iload_2 eX8_parsePromise_125 ?_
          refine xa_i2l eX8_parsePromise_126 (by omega) ?_
          refine xbi_S30 (mi' := mX8_isBetween) (y := yX8_isBetween) eX8_parsePromise_127 (xw_4 lRX8_61 wy_X8_isBetween) rfl rfl ⟨wd_X8_isBetween, by decide, by decide⟩ (Nat.le_of_ble_eq_true rfl) rfl (k_X8_isBetween (by omega) (by omega) (by omega) ?_)
          refine xa_iconst eX8_parsePromise_130 ?_
          refine xbv_V20 (mi' := mX8_require) (y := yX8_require) eX8_parsePromise_131 (xw_5 lRX8_330 wy_X8_require) rfl ⟨wd_X8_require, by decide, by decide⟩ (by decide) (fun _ => rfl) rfl (Nat.le_of_ble_eq_true rfl) rfl (z_X8_require (b2i_01 _) hE ?_)
          refine xs_aload_0 eX8_parsePromise_134 ?_
          refine gr_X8_19 eX8_parsePromise_135 lRX8_291 (fun r135 => ?_)
          try simp only [show (2 : Int).toNat = 2 from rfl] at r135 ⊢
          refine xs_istore_4 eX8_parsePromise_138 rfl ?_
          refine xs_aload_0 eX8_parsePromise_140 ?_
          refine xbi_V00 (mi' := mX8_isFine) (y := yX8_isFine) eX8_parsePromise_141 (xw_5 lRX8_320 wy_X8_isFine) rfl ⟨wd_X8_isFine, by decide, by decide⟩ (by decide) (fun _ => rfl) rfl (Nat.le_of_ble_eq_true rfl) rfl (k_X8_isFine ?_)
          refine xa_ifb_eq (tgt := 160) eX8_parsePromise_144 (by decide) (fun c144 => ?_) (fun c144 => ?_)
          · refine xs_aload_0 eX8_parsePromise_160 ?_
            refine xbv_V00 (mi' := mX8_advance) (y := yX8_advance) eX8_parsePromise_161 (xw_5 lRX8_334 wy_X8_advance) rfl ⟨wd_X8_advance, by decide, by decide⟩ (by decide) (fun _ => rfl) rfl (Nat.le_of_ble_eq_true rfl) rfl (z_X8_advance hE ?_)
            refine xs_aload_0 eX8_parsePromise_164 ?_
            refine xa_ldcwS (tx := "ask") (i := 5) eX8_parsePromise_165 (List.mem_of_getElem? (i := 11) rfl) ?_
            refine xbi_V10 (mi' := mX8_accept) (y := yX8_accept) eX8_parsePromise_168 (xw_5 lRX8_342 wy_X8_accept) rfl ⟨wd_X8_accept, by decide, by decide⟩ (by decide) (fun _ => rfl) rfl (Nat.le_of_ble_eq_true rfl) rfl (z_X8_accept hE ?_)
            · refine xa_if_eq (tgt := 185) eX8_parsePromise_171 (by decide) (by decide) (fun c171 => ?_) (fun c171 => ?_)
              · refine xa_iconst eX8_parsePromise_185 ?_
                refine xs_istore_5 eX8_parsePromise_186 rfl ?_
                refine xs_aload_0 eX8_parsePromise_188 ?_
                refine xbi_V00 (mi' := mX8_isFine) (y := yX8_isFine) eX8_parsePromise_189 (xw_5 lRX8_320 wy_X8_isFine) rfl ⟨wd_X8_isFine, by decide, by decide⟩ (by decide) (fun _ => rfl) rfl (Nat.le_of_ble_eq_true rfl) rfl (k_X8_isFine ?_)
                refine xa_ifb_eq (tgt := 216) eX8_parsePromise_192 (by decide) (fun c192 => ?_) (fun c192 => ?_)
                · exact xa_vret eX8_parsePromise_216 rfl ⟨rfl, by have h9 := q0; simp only [rdPmS, bnd, rdPrm, rdPri, if_true, if_false, Bool.false_eq_true, reduceIte, Int.toNat_natCast, if_neg w4] at h9; exact h9 trivial _ (FM.rq (by decide)).fw hc4 hc5 hE⟩
                · exact absurd c192 hE
              · exact absurd rfl c171
          · exact absurd c144 hE
      · refine xa_iconst eX8_parsePromise_61 ?_
        refine xa_goto (tgt := 66) eX8_parsePromise_62 (by decide) ?_
        refine xa_iconst eX8_parsePromise_66 ?_
        refine xbv_V20 (mi' := mX8_require) (y := yX8_require) eX8_parsePromise_67 (xw_5 lRX8_330 wy_X8_require) rfl ⟨wd_X8_require, by decide, by decide⟩ (by decide) (fun _ => rfl) rfl (Nat.le_of_ble_eq_true rfl) rfl (z_X8_require (by decide) hE ?_)
        refine xs_aload_0 eX8_parsePromise_70 ?_
        refine xs_aload_0 eX8_parsePromise_71 ?_
        refine gr_X8_19 eX8_parsePromise_72 lRX8_291 (fun r72 => ?_)
        try simp only [show (2 : Int).toNat = 2 from rfl] at r72 ⊢
        refine xbi_S10 (mi' := mX8_isPeriod) (y := yX8_isPeriod) eX8_parsePromise_75 (xw_4 lRX8_134 wy_X8_isPeriod) rfl rfl ⟨wd_X8_isPeriod, by decide, by decide⟩ (Nat.le_of_ble_eq_true rfl) rfl (k_X8_isPeriod (by omega) ?_)
        refine xa_iconst eX8_parsePromise_78 ?_
        refine xbv_V20 (mi' := mX8_require) (y := yX8_require) eX8_parsePromise_79 (xw_5 lRX8_330 wy_X8_require) rfl ⟨wd_X8_require, by decide, by decide⟩ (by decide) (fun _ => rfl) rfl (Nat.le_of_ble_eq_true rfl) rfl (z_X8_require (b2i_01 _) hE ?_)
        refine xs_aload_0 eX8_parsePromise_82 ?_
        refine gr_X8_19 eX8_parsePromise_83 lRX8_291 (fun r83 => ?_)
        try simp only [show (2 : Int).toNat = 2 from rfl] at r83 ⊢
        refine xs_istore_2 eX8_parsePromise_86 rfl ?_
        refine xs_aload_0 eX8_parsePromise_87 ?_
        refine xbv_V00 (mi' := mX8_advance) (y := yX8_advance) eX8_parsePromise_88 (xw_5 lRX8_334 wy_X8_advance) rfl ⟨wd_X8_advance, by decide, by decide⟩ (by decide) (fun _ => rfl) rfl (Nat.le_of_ble_eq_true rfl) rfl (z_X8_advance hE ?_)
        refine xs_aload_0 eX8_parsePromise_91 ?_
        refine xa_iconst eX8_parsePromise_92 ?_
        refine xa_bipush eX8_parsePromise_93 (by decide) ?_
        refine xbi_V20 (mi' := mX8_parseNumber) (y := yX8_parseNumber) eX8_parsePromise_95 (xw_5 lRX8_337 wy_X8_parseNumber) rfl ⟨wd_X8_parseNumber, by decide, by decide⟩ (by decide) (fun _ => rfl) rfl (Nat.le_of_ble_eq_true rfl) rfl (zr_X8_parseNumber (by decide) (by decide) hE (fun v95 hv95 => ?_))
        refine xs_istore_3 eX8_parsePromise_98 rfl ?_
        refine xs_aload_0 eX8_parsePromise_99 ?_
        refine xs_aload_0 eX8_parsePromise_100 ?_
        refine gr_X8_17 eX8_parsePromise_101 lRX8_294 (fun r101 => ?_)
        try simp only [show (2 : Int).toNat = 2 from rfl] at r101 ⊢
        refine xa_iconst eX8_parsePromise_104 ?_
        refine xa_icmp_ne (tgt := 112) eX8_parsePromise_105 (by decide) (by omega) (by decide) (fun c105 => ?_) (fun c105 => ?_)
        · refine xa_iconst eX8_parsePromise_112 ?_
          refine xa_iconst eX8_parsePromise_113 ?_
          refine xbv_V20 (mi' := mX8_require) (y := yX8_require) eX8_parsePromise_114 (xw_5 lRX8_330 wy_X8_require) rfl ⟨wd_X8_require, by decide, by decide⟩ (by decide) (fun _ => rfl) rfl (Nat.le_of_ble_eq_true rfl) rfl (z_X8_require (by decide) hE ?_)
          refine xs_aload_0 eX8_parsePromise_117 ?_
          refine xs_aload_0 eX8_parsePromise_118 ?_
          refine gr_X8_19 eX8_parsePromise_119 lRX8_291 (fun r119 => ?_)
          try simp only [show (2 : Int).toNat = 2 from rfl] at r119 ⊢
          refine xa_i2l eX8_parsePromise_122 (by omega) ?_
          refine xs_iload_3 eX8_parsePromise_123 ?_
          refine xa_i2l eX8_parsePromise_124 (by omega) ?_
          refine xs_iload_2 eX8_parsePromise_125 ?_
          refine xa_i2l eX8_parsePromise_126 (by omega) ?_
          refine xbi_S30 (mi' := mX8_isBetween) (y := yX8_isBetween) eX8_parsePromise_127 (xw_4 lRX8_61 wy_X8_isBetween) rfl rfl ⟨wd_X8_isBetween, by decide, by decide⟩ (Nat.le_of_ble_eq_true rfl) rfl (k_X8_isBetween (by omega) (by omega) (by omega) ?_)
          refine xa_iconst eX8_parsePromise_130 ?_
          refine xbv_V20 (mi' := mX8_require) (y := yX8_require) eX8_parsePromise_131 (xw_5 lRX8_330 wy_X8_require) rfl ⟨wd_X8_require, by decide, by decide⟩ (by decide) (fun _ => rfl) rfl (Nat.le_of_ble_eq_true rfl) rfl (z_X8_require (b2i_01 _) hE ?_)
          refine xs_aload_0 eX8_parsePromise_134 ?_
          refine gr_X8_19 eX8_parsePromise_135 lRX8_291 (fun r135 => ?_)
          try simp only [show (2 : Int).toNat = 2 from rfl] at r135 ⊢
          refine xs_istore_4 eX8_parsePromise_138 rfl ?_
          refine xs_aload_0 eX8_parsePromise_140 ?_
          refine xbi_V00 (mi' := mX8_isFine) (y := yX8_isFine) eX8_parsePromise_141 (xw_5 lRX8_320 wy_X8_isFine) rfl ⟨wd_X8_isFine, by decide, by decide⟩ (by decide) (fun _ => rfl) rfl (Nat.le_of_ble_eq_true rfl) rfl (k_X8_isFine ?_)
          refine xa_ifb_eq (tgt := 160) eX8_parsePromise_144 (by decide) (fun c144 => ?_) (fun c144 => ?_)
          · refine xs_aload_0 eX8_parsePromise_160 ?_
            refine xbv_V00 (mi' := mX8_advance) (y := yX8_advance) eX8_parsePromise_161 (xw_5 lRX8_334 wy_X8_advance) rfl ⟨wd_X8_advance, by decide, by decide⟩ (by decide) (fun _ => rfl) rfl (Nat.le_of_ble_eq_true rfl) rfl (z_X8_advance hE ?_)
            refine xs_aload_0 eX8_parsePromise_164 ?_
            refine xa_ldcwS (tx := "ask") (i := 5) eX8_parsePromise_165 (List.mem_of_getElem? (i := 11) rfl) ?_
            refine xbi_V10 (mi' := mX8_accept) (y := yX8_accept) eX8_parsePromise_168 (xw_5 lRX8_342 wy_X8_accept) rfl ⟨wd_X8_accept, by decide, by decide⟩ (by decide) (fun _ => rfl) rfl (Nat.le_of_ble_eq_true rfl) rfl (z_X8_accept hE ?_)
            · refine xa_if_eq (tgt := 185) eX8_parsePromise_171 (by decide) (by decide) (fun c171 => ?_) (fun c171 => ?_)
              · refine xa_iconst eX8_parsePromise_185 ?_
                refine xs_istore_5 eX8_parsePromise_186 rfl ?_
                refine xs_aload_0 eX8_parsePromise_188 ?_
                refine xbi_V00 (mi' := mX8_isFine) (y := yX8_isFine) eX8_parsePromise_189 (xw_5 lRX8_320 wy_X8_isFine) rfl ⟨wd_X8_isFine, by decide, by decide⟩ (by decide) (fun _ => rfl) rfl (Nat.le_of_ble_eq_true rfl) rfl (k_X8_isFine ?_)
                refine xa_ifb_eq (tgt := 216) eX8_parsePromise_192 (by decide) (fun c192 => ?_) (fun c192 => ?_)
                · exact xa_vret eX8_parsePromise_216 rfl ⟨rfl, by have h9 := q0; simp only [rdPmS, bnd, rdPrm, rdPri, if_true, if_false, Bool.false_eq_true, reduceIte, Int.toNat_natCast, if_neg w4] at h9; exact h9 trivial _ (FM.rq (by decide)).fw hc4 hc5 hE⟩
                · exact absurd c192 hE
              · exact absurd rfl c171
          · exact absurd c144 hE
        · refine xa_iconst eX8_parsePromise_108 ?_
          refine xa_goto (tgt := 113) eX8_parsePromise_109 (by decide) ?_
          refine xa_iconst eX8_parsePromise_113 ?_
          refine xbv_V20 (mi' := mX8_require) (y := yX8_require) eX8_parsePromise_114 (xw_5 lRX8_330 wy_X8_require) rfl ⟨wd_X8_require, by decide, by decide⟩ (by decide) (fun _ => rfl) rfl (Nat.le_of_ble_eq_true rfl) rfl (z_X8_require (by decide) hE ?_)
          refine xs_aload_0 eX8_parsePromise_117 ?_
          refine xs_aload_0 eX8_parsePromise_118 ?_
          refine gr_X8_19 eX8_parsePromise_119 lRX8_291 (fun r119 => ?_)
          try simp only [show (2 : Int).toNat = 2 from rfl] at r119 ⊢
          refine xa_i2l eX8_parsePromise_122 (by omega) ?_
          refine xs_iload_3 eX8_parsePromise_123 ?_
          refine xa_i2l eX8_parsePromise_124 (by omega) ?_
          refine xs_iload_2 eX8_parsePromise_125 ?_
          refine xa_i2l eX8_parsePromise_126 (by omega) ?_
          refine xbi_S30 (mi' := mX8_isBetween) (y := yX8_isBetween) eX8_parsePromise_127 (xw_4 lRX8_61 wy_X8_isBetween) rfl rfl ⟨wd_X8_isBetween, by decide, by decide⟩ (Nat.le_of_ble_eq_true rfl) rfl (k_X8_isBetween (by omega) (by omega) (by omega) ?_)
          refine xa_iconst eX8_parsePromise_130 ?_
          refine xbv_V20 (mi' := mX8_require) (y := yX8_require) eX8_parsePromise_131 (xw_5 lRX8_330 wy_X8_require) rfl ⟨wd_X8_require, by decide, by decide⟩ (by decide) (fun _ => rfl) rfl (Nat.le_of_ble_eq_true rfl) rfl (z_X8_require (b2i_01 _) hE ?_)
          refine xs_aload_0 eX8_parsePromise_134 ?_
          refine gr_X8_19 eX8_parsePromise_135 lRX8_291 (fun r135 => ?_)
          try simp only [show (2 : Int).toNat = 2 from rfl] at r135 ⊢
          refine xs_istore_4 eX8_parsePromise_138 rfl ?_
          refine xs_aload_0 eX8_parsePromise_140 ?_
          refine xbi_V00 (mi' := mX8_isFine) (y := yX8_isFine) eX8_parsePromise_141 (xw_5 lRX8_320 wy_X8_isFine) rfl ⟨wd_X8_isFine, by decide, by decide⟩ (by decide) (fun _ => rfl) rfl (Nat.le_of_ble_eq_true rfl) rfl (k_X8_isFine ?_)
          refine xa_ifb_eq (tgt := 160) eX8_parsePromise_144 (by decide) (fun c144 => ?_) (fun c144 => ?_)
          · refine xs_aload_0 eX8_parsePromise_160 ?_
            refine xbv_V00 (mi' := mX8_advance) (y := yX8_advance) eX8_parsePromise_161 (xw_5 lRX8_334 wy_X8_advance) rfl ⟨wd_X8_advance, by decide, by decide⟩ (by decide) (fun _ => rfl) rfl (Nat.le_of_ble_eq_true rfl) rfl (z_X8_advance hE ?_)
            refine xs_aload_0 eX8_parsePromise_164 ?_
            refine xa_ldcwS (tx := "ask") (i := 5) eX8_parsePromise_165 (List.mem_of_getElem? (i := 11) rfl) ?_
            refine xbi_V10 (mi' := mX8_accept) (y := yX8_accept) eX8_parsePromise_168 (xw_5 lRX8_342 wy_X8_accept) rfl ⟨wd_X8_accept, by decide, by decide⟩ (by decide) (fun _ => rfl) rfl (Nat.le_of_ble_eq_true rfl) rfl (z_X8_accept hE ?_)
            · refine xa_if_eq (tgt := 185) eX8_parsePromise_171 (by decide) (by decide) (fun c171 => ?_) (fun c171 => ?_)
              · refine xa_iconst eX8_parsePromise_185 ?_
                refine xs_istore_5 eX8_parsePromise_186 rfl ?_
                refine xs_aload_0 eX8_parsePromise_188 ?_
                refine xbi_V00 (mi' := mX8_isFine) (y := yX8_isFine) eX8_parsePromise_189 (xw_5 lRX8_320 wy_X8_isFine) rfl ⟨wd_X8_isFine, by decide, by decide⟩ (by decide) (fun _ => rfl) rfl (Nat.le_of_ble_eq_true rfl) rfl (k_X8_isFine ?_)
                refine xa_ifb_eq (tgt := 216) eX8_parsePromise_192 (by decide) (fun c192 => ?_) (fun c192 => ?_)
                · exact xa_vret eX8_parsePromise_216 rfl ⟨rfl, by have h9 := q0; simp only [rdPmS, bnd, rdPrm, rdPri, if_true, if_false, Bool.false_eq_true, reduceIte, Int.toNat_natCast, if_neg w4] at h9; exact h9 trivial _ (FM.rq (by decide)).fw hc4 hc5 hE⟩
                · exact absurd c192 hE
              · exact absurd rfl c171
          · exact absurd c144 hE
    · refine xa_iconst eX8_parsePromise_26 ?_
      refine xa_goto (tgt := 31) eX8_parsePromise_27 (by decide) ?_
      refine xa_iconst eX8_parsePromise_31 ?_
      refine xbv_V20 (mi' := mX8_require) (y := yX8_require) eX8_parsePromise_32 (xw_5 lRX8_330 wy_X8_require) rfl ⟨wd_X8_require, by decide, by decide⟩ (by decide) (fun _ => rfl) rfl (Nat.le_of_ble_eq_true rfl) rfl (z_X8_require (by decide) hE ?_)
      refine xs_aload_0 eX8_parsePromise_35 ?_
      refine xbv_V00 (mi' := mX8_advance) (y := yX8_advance) eX8_parsePromise_36 (xw_5 lRX8_334 wy_X8_advance) rfl ⟨wd_X8_advance, by decide, by decide⟩ (by decide) (fun _ => rfl) rfl (Nat.le_of_ble_eq_true rfl) rfl (z_X8_advance hE ?_)
      refine xs_aload_0 eX8_parsePromise_39 ?_
      refine xa_iconst eX8_parsePromise_40 ?_
      refine xs_aload_0 eX8_parsePromise_41 ?_
      refine xa_iconst eX8_parsePromise_42 ?_
      refine xbi_V10 (mi' := mX8_number) (y := yX8_number) eX8_parsePromise_43 (xw_5 lRX8_65 wy_X8_number) rfl ⟨wd_X8_number, by decide, by decide⟩ (by decide) (fun _ => rfl) rfl (Nat.le_of_ble_eq_true rfl) rfl (k_X8_number (i := 1) rfl (by decide) ?_)
      rw [hkE]
      refine xa_iconst eX8_parsePromise_46 ?_
      refine xa_isub eX8_parsePromise_47 ?_
      refine xbi_V20 (mi' := mX8_parseNumber) (y := yX8_parseNumber) eX8_parsePromise_48 (xw_5 lRX8_337 wy_X8_parseNumber) rfl ⟨wd_X8_parseNumber, by decide, by decide⟩ (by decide) (fun _ => rfl) rfl (Nat.le_of_ble_eq_true rfl) rfl (zr_X8_parseNumber (by decide) (by omega) hE (fun v48 hv48 => ?_))
      refine xs_istore_1 eX8_parsePromise_51 rfl ?_
      refine xs_aload_0 eX8_parsePromise_52 ?_
      refine xs_aload_0 eX8_parsePromise_53 ?_
      refine gr_X8_17 eX8_parsePromise_54 lRX8_294 (fun r54 => ?_)
      try simp only [show (2 : Int).toNat = 2 from rfl] at r54 ⊢
      refine xa_iconst eX8_parsePromise_57 ?_
      refine xa_icmp_ne (tgt := 65) eX8_parsePromise_58 (by decide) (by omega) (by decide) (fun c58 => ?_) (fun c58 => ?_)
      · refine xa_iconst eX8_parsePromise_65 ?_
        refine xa_iconst eX8_parsePromise_66 ?_
        refine xbv_V20 (mi' := mX8_require) (y := yX8_require) eX8_parsePromise_67 (xw_5 lRX8_330 wy_X8_require) rfl ⟨wd_X8_require, by decide, by decide⟩ (by decide) (fun _ => rfl) rfl (Nat.le_of_ble_eq_true rfl) rfl (z_X8_require (by decide) hE ?_)
        refine xs_aload_0 eX8_parsePromise_70 ?_
        refine xs_aload_0 eX8_parsePromise_71 ?_
        refine gr_X8_19 eX8_parsePromise_72 lRX8_291 (fun r72 => ?_)
        try simp only [show (2 : Int).toNat = 2 from rfl] at r72 ⊢
        refine xbi_S10 (mi' := mX8_isPeriod) (y := yX8_isPeriod) eX8_parsePromise_75 (xw_4 lRX8_134 wy_X8_isPeriod) rfl rfl ⟨wd_X8_isPeriod, by decide, by decide⟩ (Nat.le_of_ble_eq_true rfl) rfl (k_X8_isPeriod (by omega) ?_)
        refine xa_iconst eX8_parsePromise_78 ?_
        refine xbv_V20 (mi' := mX8_require) (y := yX8_require) eX8_parsePromise_79 (xw_5 lRX8_330 wy_X8_require) rfl ⟨wd_X8_require, by decide, by decide⟩ (by decide) (fun _ => rfl) rfl (Nat.le_of_ble_eq_true rfl) rfl (z_X8_require (b2i_01 _) hE ?_)
        refine xs_aload_0 eX8_parsePromise_82 ?_
        refine gr_X8_19 eX8_parsePromise_83 lRX8_291 (fun r83 => ?_)
        try simp only [show (2 : Int).toNat = 2 from rfl] at r83 ⊢
        refine xs_istore_2 eX8_parsePromise_86 rfl ?_
        refine xs_aload_0 eX8_parsePromise_87 ?_
        refine xbv_V00 (mi' := mX8_advance) (y := yX8_advance) eX8_parsePromise_88 (xw_5 lRX8_334 wy_X8_advance) rfl ⟨wd_X8_advance, by decide, by decide⟩ (by decide) (fun _ => rfl) rfl (Nat.le_of_ble_eq_true rfl) rfl (z_X8_advance hE ?_)
        refine xs_aload_0 eX8_parsePromise_91 ?_
        refine xa_iconst eX8_parsePromise_92 ?_
        refine xa_bipush eX8_parsePromise_93 (by decide) ?_
        refine xbi_V20 (mi' := mX8_parseNumber) (y := yX8_parseNumber) eX8_parsePromise_95 (xw_5 lRX8_337 wy_X8_parseNumber) rfl ⟨wd_X8_parseNumber, by decide, by decide⟩ (by decide) (fun _ => rfl) rfl (Nat.le_of_ble_eq_true rfl) rfl (zr_X8_parseNumber (by decide) (by decide) hE (fun v95 hv95 => ?_))
        refine xs_istore_3 eX8_parsePromise_98 rfl ?_
        refine xs_aload_0 eX8_parsePromise_99 ?_
        refine xs_aload_0 eX8_parsePromise_100 ?_
        refine gr_X8_17 eX8_parsePromise_101 lRX8_294 (fun r101 => ?_)
        try simp only [show (2 : Int).toNat = 2 from rfl] at r101 ⊢
        refine xa_iconst eX8_parsePromise_104 ?_
        refine xa_icmp_ne (tgt := 112) eX8_parsePromise_105 (by decide) (by omega) (by decide) (fun c105 => ?_) (fun c105 => ?_)
        · refine xa_iconst eX8_parsePromise_112 ?_
          refine xa_iconst eX8_parsePromise_113 ?_
          refine xbv_V20 (mi' := mX8_require) (y := yX8_require) eX8_parsePromise_114 (xw_5 lRX8_330 wy_X8_require) rfl ⟨wd_X8_require, by decide, by decide⟩ (by decide) (fun _ => rfl) rfl (Nat.le_of_ble_eq_true rfl) rfl (z_X8_require (by decide) hE ?_)
          refine xs_aload_0 eX8_parsePromise_117 ?_
          refine xs_aload_0 eX8_parsePromise_118 ?_
          refine gr_X8_19 eX8_parsePromise_119 lRX8_291 (fun r119 => ?_)
          try simp only [show (2 : Int).toNat = 2 from rfl] at r119 ⊢
          refine xa_i2l eX8_parsePromise_122 (by omega) ?_
          refine xs_iload_3 eX8_parsePromise_123 ?_
          refine xa_i2l eX8_parsePromise_124 (by omega) ?_
          refine xs_iload_2 eX8_parsePromise_125 ?_
          refine xa_i2l eX8_parsePromise_126 (by omega) ?_
          refine xbi_S30 (mi' := mX8_isBetween) (y := yX8_isBetween) eX8_parsePromise_127 (xw_4 lRX8_61 wy_X8_isBetween) rfl rfl ⟨wd_X8_isBetween, by decide, by decide⟩ (Nat.le_of_ble_eq_true rfl) rfl (k_X8_isBetween (by omega) (by omega) (by omega) ?_)
          refine xa_iconst eX8_parsePromise_130 ?_
          refine xbv_V20 (mi' := mX8_require) (y := yX8_require) eX8_parsePromise_131 (xw_5 lRX8_330 wy_X8_require) rfl ⟨wd_X8_require, by decide, by decide⟩ (by decide) (fun _ => rfl) rfl (Nat.le_of_ble_eq_true rfl) rfl (z_X8_require (b2i_01 _) hE ?_)
          refine xs_aload_0 eX8_parsePromise_134 ?_
          refine gr_X8_19 eX8_parsePromise_135 lRX8_291 (fun r135 => ?_)
          try simp only [show (2 : Int).toNat = 2 from rfl] at r135 ⊢
          refine xs_istore_4 eX8_parsePromise_138 rfl ?_
          refine xs_aload_0 eX8_parsePromise_140 ?_
          refine xbi_V00 (mi' := mX8_isFine) (y := yX8_isFine) eX8_parsePromise_141 (xw_5 lRX8_320 wy_X8_isFine) rfl ⟨wd_X8_isFine, by decide, by decide⟩ (by decide) (fun _ => rfl) rfl (Nat.le_of_ble_eq_true rfl) rfl (k_X8_isFine ?_)
          refine xa_ifb_eq (tgt := 160) eX8_parsePromise_144 (by decide) (fun c144 => ?_) (fun c144 => ?_)
          · refine xs_aload_0 eX8_parsePromise_160 ?_
            refine xbv_V00 (mi' := mX8_advance) (y := yX8_advance) eX8_parsePromise_161 (xw_5 lRX8_334 wy_X8_advance) rfl ⟨wd_X8_advance, by decide, by decide⟩ (by decide) (fun _ => rfl) rfl (Nat.le_of_ble_eq_true rfl) rfl (z_X8_advance hE ?_)
            refine xs_aload_0 eX8_parsePromise_164 ?_
            refine xa_ldcwS (tx := "ask") (i := 5) eX8_parsePromise_165 (List.mem_of_getElem? (i := 11) rfl) ?_
            refine xbi_V10 (mi' := mX8_accept) (y := yX8_accept) eX8_parsePromise_168 (xw_5 lRX8_342 wy_X8_accept) rfl ⟨wd_X8_accept, by decide, by decide⟩ (by decide) (fun _ => rfl) rfl (Nat.le_of_ble_eq_true rfl) rfl (z_X8_accept hE ?_)
            · refine xa_if_eq (tgt := 185) eX8_parsePromise_171 (by decide) (by decide) (fun c171 => ?_) (fun c171 => ?_)
              · refine xa_iconst eX8_parsePromise_185 ?_
                refine xs_istore_5 eX8_parsePromise_186 rfl ?_
                refine xs_aload_0 eX8_parsePromise_188 ?_
                refine xbi_V00 (mi' := mX8_isFine) (y := yX8_isFine) eX8_parsePromise_189 (xw_5 lRX8_320 wy_X8_isFine) rfl ⟨wd_X8_isFine, by decide, by decide⟩ (by decide) (fun _ => rfl) rfl (Nat.le_of_ble_eq_true rfl) rfl (k_X8_isFine ?_)
                refine xa_ifb_eq (tgt := 216) eX8_parsePromise_192 (by decide) (fun c192 => ?_) (fun c192 => ?_)
                · exact xa_vret eX8_parsePromise_216 rfl ⟨rfl, by have h9 := q0; simp only [rdPmS, bnd, rdPrm, rdPri, if_true, if_false, Bool.false_eq_true, reduceIte, Int.toNat_natCast, if_neg w4] at h9; exact h9 trivial _ (FM.rq (by decide)).fw hc4 hc5 hE⟩
                · exact absurd c192 hE
              · exact absurd rfl c171
          · exact absurd c144 hE
        · refine xa_iconst eX8_parsePromise_108 ?_
          refine xa_goto (tgt := 113) eX8_parsePromise_109 (by decide) ?_
          refine xa_iconst eX8_parsePromise_113 ?_
          refine xbv_V20 (mi' := mX8_require) (y := yX8_require) eX8_parsePromise_114 (xw_5 lRX8_330 wy_X8_require) rfl ⟨wd_X8_require, by decide, by decide⟩ (by decide) (fun _ => rfl) rfl (Nat.le_of_ble_eq_true rfl) rfl (z_X8_require (by decide) hE ?_)
          refine xs_aload_0 eX8_parsePromise_117 ?_
          refine xs_aload_0 eX8_parsePromise_118 ?_
          refine gr_X8_19 eX8_parsePromise_119 lRX8_291 (fun r119 => ?_)
          try simp only [show (2 : Int).toNat = 2 from rfl] at r119 ⊢
          refine xa_i2l eX8_parsePromise_122 (by omega) ?_
          refine xs_iload_3 eX8_parsePromise_123 ?_
          refine xa_i2l eX8_parsePromise_124 (by omega) ?_
          refine xs_iload_2 eX8_parsePromise_125 ?_
          refine xa_i2l eX8_parsePromise_126 (by omega) ?_
          refine xbi_S30 (mi' := mX8_isBetween) (y := yX8_isBetween) eX8_parsePromise_127 (xw_4 lRX8_61 wy_X8_isBetween) rfl rfl ⟨wd_X8_isBetween, by decide, by decide⟩ (Nat.le_of_ble_eq_true rfl) rfl (k_X8_isBetween (by omega) (by omega) (by omega) ?_)
          refine xa_iconst eX8_parsePromise_130 ?_
          refine xbv_V20 (mi' := mX8_require) (y := yX8_require) eX8_parsePromise_131 (xw_5 lRX8_330 wy_X8_require) rfl ⟨wd_X8_require, by decide, by decide⟩ (by decide) (fun _ => rfl) rfl (Nat.le_of_ble_eq_true rfl) rfl (z_X8_require (b2i_01 _) hE ?_)
          refine xs_aload_0 eX8_parsePromise_134 ?_
          refine gr_X8_19 eX8_parsePromise_135 lRX8_291 (fun r135 => ?_)
          try simp only [show (2 : Int).toNat = 2 from rfl] at r135 ⊢
          refine xs_istore_4 eX8_parsePromise_138 rfl ?_
          refine xs_aload_0 eX8_parsePromise_140 ?_
          refine xbi_V00 (mi' := mX8_isFine) (y := yX8_isFine) eX8_parsePromise_141 (xw_5 lRX8_320 wy_X8_isFine) rfl ⟨wd_X8_isFine, by decide, by decide⟩ (by decide) (fun _ => rfl) rfl (Nat.le_of_ble_eq_true rfl) rfl (k_X8_isFine ?_)
          refine xa_ifb_eq (tgt := 160) eX8_parsePromise_144 (by decide) (fun c144 => ?_) (fun c144 => ?_)
          · refine xs_aload_0 eX8_parsePromise_160 ?_
            refine xbv_V00 (mi' := mX8_advance) (y := yX8_advance) eX8_parsePromise_161 (xw_5 lRX8_334 wy_X8_advance) rfl ⟨wd_X8_advance, by decide, by decide⟩ (by decide) (fun _ => rfl) rfl (Nat.le_of_ble_eq_true rfl) rfl (z_X8_advance hE ?_)
            refine xs_aload_0 eX8_parsePromise_164 ?_
            refine xa_ldcwS (tx := "ask") (i := 5) eX8_parsePromise_165 (List.mem_of_getElem? (i := 11) rfl) ?_
            refine xbi_V10 (mi' := mX8_accept) (y := yX8_accept) eX8_parsePromise_168 (xw_5 lRX8_342 wy_X8_accept) rfl ⟨wd_X8_accept, by decide, by decide⟩ (by decide) (fun _ => rfl) rfl (Nat.le_of_ble_eq_true rfl) rfl (z_X8_accept hE ?_)
            · refine xa_if_eq (tgt := 185) eX8_parsePromise_171 (by decide) (by decide) (fun c171 => ?_) (fun c171 => ?_)
              · refine xa_iconst eX8_parsePromise_185 ?_
                refine xs_istore_5 eX8_parsePromise_186 rfl ?_
                refine xs_aload_0 eX8_parsePromise_188 ?_
                refine xbi_V00 (mi' := mX8_isFine) (y := yX8_isFine) eX8_parsePromise_189 (xw_5 lRX8_320 wy_X8_isFine) rfl ⟨wd_X8_isFine, by decide, by decide⟩ (by decide) (fun _ => rfl) rfl (Nat.le_of_ble_eq_true rfl) rfl (k_X8_isFine ?_)
                refine xa_ifb_eq (tgt := 216) eX8_parsePromise_192 (by decide) (fun c192 => ?_) (fun c192 => ?_)
                · exact xa_vret eX8_parsePromise_216 rfl ⟨rfl, by have h9 := q0; simp only [rdPmS, bnd, rdPrm, rdPri, if_true, if_false, Bool.false_eq_true, reduceIte, Int.toNat_natCast, if_neg w4] at h9; exact h9 trivial _ (FM.rq (by decide)).fw hc4 hc5 hE⟩
                · exact absurd c192 hE
              · exact absurd rfl c171
          · exact absurd c144 hE
      · refine xa_iconst eX8_parsePromise_61 ?_
        refine xa_goto (tgt := 66) eX8_parsePromise_62 (by decide) ?_
        refine xa_iconst eX8_parsePromise_66 ?_
        refine xbv_V20 (mi' := mX8_require) (y := yX8_require) eX8_parsePromise_67 (xw_5 lRX8_330 wy_X8_require) rfl ⟨wd_X8_require, by decide, by decide⟩ (by decide) (fun _ => rfl) rfl (Nat.le_of_ble_eq_true rfl) rfl (z_X8_require (by decide) hE ?_)
        refine xs_aload_0 eX8_parsePromise_70 ?_
        refine xs_aload_0 eX8_parsePromise_71 ?_
        refine gr_X8_19 eX8_parsePromise_72 lRX8_291 (fun r72 => ?_)
        try simp only [show (2 : Int).toNat = 2 from rfl] at r72 ⊢
        refine xbi_S10 (mi' := mX8_isPeriod) (y := yX8_isPeriod) eX8_parsePromise_75 (xw_4 lRX8_134 wy_X8_isPeriod) rfl rfl ⟨wd_X8_isPeriod, by decide, by decide⟩ (Nat.le_of_ble_eq_true rfl) rfl (k_X8_isPeriod (by omega) ?_)
        refine xa_iconst eX8_parsePromise_78 ?_
        refine xbv_V20 (mi' := mX8_require) (y := yX8_require) eX8_parsePromise_79 (xw_5 lRX8_330 wy_X8_require) rfl ⟨wd_X8_require, by decide, by decide⟩ (by decide) (fun _ => rfl) rfl (Nat.le_of_ble_eq_true rfl) rfl (z_X8_require (b2i_01 _) hE ?_)
        refine xs_aload_0 eX8_parsePromise_82 ?_
        refine gr_X8_19 eX8_parsePromise_83 lRX8_291 (fun r83 => ?_)
        try simp only [show (2 : Int).toNat = 2 from rfl] at r83 ⊢
        refine xs_istore_2 eX8_parsePromise_86 rfl ?_
        refine xs_aload_0 eX8_parsePromise_87 ?_
        refine xbv_V00 (mi' := mX8_advance) (y := yX8_advance) eX8_parsePromise_88 (xw_5 lRX8_334 wy_X8_advance) rfl ⟨wd_X8_advance, by decide, by decide⟩ (by decide) (fun _ => rfl) rfl (Nat.le_of_ble_eq_true rfl) rfl (z_X8_advance hE ?_)
        refine xs_aload_0 eX8_parsePromise_91 ?_
        refine xa_iconst eX8_parsePromise_92 ?_
        refine xa_bipush eX8_parsePromise_93 (by decide) ?_
        refine xbi_V20 (mi' := mX8_parseNumber) (y := yX8_parseNumber) eX8_parsePromise_95 (xw_5 lRX8_337 wy_X8_parseNumber) rfl ⟨wd_X8_parseNumber, by decide, by decide⟩ (by decide) (fun _ => rfl) rfl (Nat.le_of_ble_eq_true rfl) rfl (zr_X8_parseNumber (by decide) (by decide) hE (fun v95 hv95 => ?_))
        refine xs_istore_3 eX8_parsePromise_98 rfl ?_
        refine xs_aload_0 eX8_parsePromise_99 ?_
        refine xs_aload_0 eX8_parsePromise_100 ?_
        refine gr_X8_17 eX8_parsePromise_101 lRX8_294 (fun r101 => ?_)
        try simp only [show (2 : Int).toNat = 2 from rfl] at r101 ⊢
        refine xa_iconst eX8_parsePromise_104 ?_
        refine xa_icmp_ne (tgt := 112) eX8_parsePromise_105 (by decide) (by omega) (by decide) (fun c105 => ?_) (fun c105 => ?_)
        · refine xa_iconst eX8_parsePromise_112 ?_
          refine xa_iconst eX8_parsePromise_113 ?_
          refine xbv_V20 (mi' := mX8_require) (y := yX8_require) eX8_parsePromise_114 (xw_5 lRX8_330 wy_X8_require) rfl ⟨wd_X8_require, by decide, by decide⟩ (by decide) (fun _ => rfl) rfl (Nat.le_of_ble_eq_true rfl) rfl (z_X8_require (by decide) hE ?_)
          refine xs_aload_0 eX8_parsePromise_117 ?_
          refine xs_aload_0 eX8_parsePromise_118 ?_
          refine gr_X8_19 eX8_parsePromise_119 lRX8_291 (fun r119 => ?_)
          try simp only [show (2 : Int).toNat = 2 from rfl] at r119 ⊢
          refine xa_i2l eX8_parsePromise_122 (by omega) ?_
          refine xs_iload_3 eX8_parsePromise_123 ?_
          refine xa_i2l eX8_parsePromise_124 (by omega) ?_
          refine xs_iload_2 eX8_parsePromise_125 ?_
          refine xa_i2l eX8_parsePromise_126 (by omega) ?_
          refine xbi_S30 (mi' := mX8_isBetween) (y := yX8_isBetween) eX8_parsePromise_127 (xw_4 lRX8_61 wy_X8_isBetween) rfl rfl ⟨wd_X8_isBetween, by decide, by decide⟩ (Nat.le_of_ble_eq_true rfl) rfl (k_X8_isBetween (by omega) (by omega) (by omega) ?_)
          refine xa_iconst eX8_parsePromise_130 ?_
          refine xbv_V20 (mi' := mX8_require) (y := yX8_require) eX8_parsePromise_131 (xw_5 lRX8_330 wy_X8_require) rfl ⟨wd_X8_require, by decide, by decide⟩ (by decide) (fun _ => rfl) rfl (Nat.le_of_ble_eq_true rfl) rfl (z_X8_require (b2i_01 _) hE ?_)
          refine xs_aload_0 eX8_parsePromise_134 ?_
          refine gr_X8_19 eX8_parsePromise_135 lRX8_291 (fun r135 => ?_)
          try simp only [show (2 : Int).toNat = 2 from rfl] at r135 ⊢
          refine xs_istore_4 eX8_parsePromise_138 rfl ?_
          refine xs_aload_0 eX8_parsePromise_140 ?_
          refine xbi_V00 (mi' := mX8_isFine) (y := yX8_isFine) eX8_parsePromise_141 (xw_5 lRX8_320 wy_X8_isFine) rfl ⟨wd_X8_isFine, by decide, by decide⟩ (by decide) (fun _ => rfl) rfl (Nat.le_of_ble_eq_true rfl) rfl (k_X8_isFine ?_)
          refine xa_ifb_eq (tgt := 160) eX8_parsePromise_144 (by decide) (fun c144 => ?_) (fun c144 => ?_)
          · refine xs_aload_0 eX8_parsePromise_160 ?_
            refine xbv_V00 (mi' := mX8_advance) (y := yX8_advance) eX8_parsePromise_161 (xw_5 lRX8_334 wy_X8_advance) rfl ⟨wd_X8_advance, by decide, by decide⟩ (by decide) (fun _ => rfl) rfl (Nat.le_of_ble_eq_true rfl) rfl (z_X8_advance hE ?_)
            refine xs_aload_0 eX8_parsePromise_164 ?_
            refine xa_ldcwS (tx := "ask") (i := 5) eX8_parsePromise_165 (List.mem_of_getElem? (i := 11) rfl) ?_
            refine xbi_V10 (mi' := mX8_accept) (y := yX8_accept) eX8_parsePromise_168 (xw_5 lRX8_342 wy_X8_accept) rfl ⟨wd_X8_accept, by decide, by decide⟩ (by decide) (fun _ => rfl) rfl (Nat.le_of_ble_eq_true rfl) rfl (z_X8_accept hE ?_)
            · refine xa_if_eq (tgt := 185) eX8_parsePromise_171 (by decide) (by decide) (fun c171 => ?_) (fun c171 => ?_)
              · refine xa_iconst eX8_parsePromise_185 ?_
                refine xs_istore_5 eX8_parsePromise_186 rfl ?_
                refine xs_aload_0 eX8_parsePromise_188 ?_
                refine xbi_V00 (mi' := mX8_isFine) (y := yX8_isFine) eX8_parsePromise_189 (xw_5 lRX8_320 wy_X8_isFine) rfl ⟨wd_X8_isFine, by decide, by decide⟩ (by decide) (fun _ => rfl) rfl (Nat.le_of_ble_eq_true rfl) rfl (k_X8_isFine ?_)
                refine xa_ifb_eq (tgt := 216) eX8_parsePromise_192 (by decide) (fun c192 => ?_) (fun c192 => ?_)
                · exact xa_vret eX8_parsePromise_216 rfl ⟨rfl, by have h9 := q0; simp only [rdPmS, bnd, rdPrm, rdPri, if_true, if_false, Bool.false_eq_true, reduceIte, Int.toNat_natCast, if_neg w4] at h9; exact h9 trivial _ (FM.rq (by decide)).fw hc4 hc5 hE⟩
                · exact absurd c192 hE
              · exact absurd rfl c171
          · exact absurd c144 hE
        · refine xa_iconst eX8_parsePromise_108 ?_
          refine xa_goto (tgt := 113) eX8_parsePromise_109 (by decide) ?_
          refine xa_iconst eX8_parsePromise_113 ?_
          refine xbv_V20 (mi' := mX8_require) (y := yX8_require) eX8_parsePromise_114 (xw_5 lRX8_330 wy_X8_require) rfl ⟨wd_X8_require, by decide, by decide⟩ (by decide) (fun _ => rfl) rfl (Nat.le_of_ble_eq_true rfl) rfl (z_X8_require (by decide) hE ?_)
          refine xs_aload_0 eX8_parsePromise_117 ?_
          refine xs_aload_0 eX8_parsePromise_118 ?_
          refine gr_X8_19 eX8_parsePromise_119 lRX8_291 (fun r119 => ?_)
          try simp only [show (2 : Int).toNat = 2 from rfl] at r119 ⊢
          refine xa_i2l eX8_parsePromise_122 (by omega) ?_
          refine xs_iload_3 eX8_parsePromise_123 ?_
          refine xa_i2l eX8_parsePromise_124 (by omega) ?_
          refine xs_iload_2 eX8_parsePromise_125 ?_
          refine xa_i2l eX8_parsePromise_126 (by omega) ?_
          refine xbi_S30 (mi' := mX8_isBetween) (y := yX8_isBetween) eX8_parsePromise_127 (xw_4 lRX8_61 wy_X8_isBetween) rfl rfl ⟨wd_X8_isBetween, by decide, by decide⟩ (Nat.le_of_ble_eq_true rfl) rfl (k_X8_isBetween (by omega) (by omega) (by omega) ?_)
          refine xa_iconst eX8_parsePromise_130 ?_
          refine xbv_V20 (mi' := mX8_require) (y := yX8_require) eX8_parsePromise_131 (xw_5 lRX8_330 wy_X8_require) rfl ⟨wd_X8_require, by decide, by decide⟩ (by decide) (fun _ => rfl) rfl (Nat.le_of_ble_eq_true rfl) rfl (z_X8_require (b2i_01 _) hE ?_)
          refine xs_aload_0 eX8_parsePromise_134 ?_
          refine gr_X8_19 eX8_parsePromise_135 lRX8_291 (fun r135 => ?_)
          try simp only [show (2 : Int).toNat = 2 from rfl] at r135 ⊢
          refine xs_istore_4 eX8_parsePromise_138 rfl ?_
          refine xs_aload_0 eX8_parsePromise_140 ?_
          refine xbi_V00 (mi' := mX8_isFine) (y := yX8_isFine) eX8_parsePromise_141 (xw_5 lRX8_320 wy_X8_isFine) rfl ⟨wd_X8_isFine, by decide, by decide⟩ (by decide) (fun _ => rfl) rfl (Nat.le_of_ble_eq_true rfl) rfl (k_X8_isFine ?_)
          refine xa_ifb_eq (tgt := 160) eX8_parsePromise_144 (by decide) (fun c144 => ?_) (fun c144 => ?_)
          · refine xs_aload_0 eX8_parsePromise_160 ?_
            refine xbv_V00 (mi' := mX8_advance) (y := yX8_advance) eX8_parsePromise_161 (xw_5 lRX8_334 wy_X8_advance) rfl ⟨wd_X8_advance, by decide, by decide⟩ (by decide) (fun _ => rfl) rfl (Nat.le_of_ble_eq_true rfl) rfl (z_X8_advance hE ?_)
            refine xs_aload_0 eX8_parsePromise_164 ?_
            refine xa_ldcwS (tx := "ask") (i := 5) eX8_parsePromise_165 (List.mem_of_getElem? (i := 11) rfl) ?_
            refine xbi_V10 (mi' := mX8_accept) (y := yX8_accept) eX8_parsePromise_168 (xw_5 lRX8_342 wy_X8_accept) rfl ⟨wd_X8_accept, by decide, by decide⟩ (by decide) (fun _ => rfl) rfl (Nat.le_of_ble_eq_true rfl) rfl (z_X8_accept hE ?_)
            · refine xa_if_eq (tgt := 185) eX8_parsePromise_171 (by decide) (by decide) (fun c171 => ?_) (fun c171 => ?_)
              · refine xa_iconst eX8_parsePromise_185 ?_
                refine xs_istore_5 eX8_parsePromise_186 rfl ?_
                refine xs_aload_0 eX8_parsePromise_188 ?_
                refine xbi_V00 (mi' := mX8_isFine) (y := yX8_isFine) eX8_parsePromise_189 (xw_5 lRX8_320 wy_X8_isFine) rfl ⟨wd_X8_isFine, by decide, by decide⟩ (by decide) (fun _ => rfl) rfl (Nat.le_of_ble_eq_true rfl) rfl (k_X8_isFine ?_)
                refine xa_ifb_eq (tgt := 216) eX8_parsePromise_192 (by decide) (fun c192 => ?_) (fun c192 => ?_)
                · exact xa_vret eX8_parsePromise_216 rfl ⟨rfl, by have h9 := q0; simp only [rdPmS, bnd, rdPrm, rdPri, if_true, if_false, Bool.false_eq_true, reduceIte, Int.toNat_natCast, if_neg w4] at h9; exact h9 trivial _ (FM.rq (by decide)).fw hc4 hc5 hE⟩
                · exact absurd c192 hE
              · exact absurd rfl c171
          · exact absurd c144 hE
